-- SERVICE 3: both the same
theorem cmb_map {g : Nat × (Nat → Nat) → Nat × (Nat → Nat)} {c : Nat} (hg : ∀ x, (g x).1 = c + x.1) (a b : WY) : cmb (a.map g) (b.map g) = (cmb a b).map g := by
  cases a with
  | none => rfl
  | some x => cases b with
    | none => rfl
    | some y =>
      show cmb (some (g x)) (some (g y)) = _
      rw [cmb_ss, cmb_ss, hg, hg]
      by_cases l : y.1 < x.1
      · rw [if_pos l, if_pos (by omega)]; rfl
      · rw [if_neg l, if_neg (by omega)]; rfl
theorem fol_map {g : Nat × (Nat → Nat) → Nat × (Nat → Nat)} {c : Nat} (hg : ∀ x, (g x).1 = c + x.1) {F F' : Nat → WY} : ∀ (d p : Nat), (∀ s, p ≤ s → s < p + d → F s = (F' s).map g) → fol F d p = (fol F' d p).map g := by
  intro d
  induction d with
  | zero => intro p _; rfl
  | succ d ih =>
    intro p h
    rw [fol, fol, h p (by omega) (by omega), ih (p + 1) (fun s h1 h2 => h s (by omega) (by omega)), cmb_map hg]
theorem bit_or2 (u p r : Nat) : bit (u ||| 2 ^ p) r = 1 ↔ bit u r = 1 ∨ r = p := by
  rw [bit_tb, bit_tb, Nat.testBit_or, Bool.or_eq_true, Nat.testBit_two_pow]
  simp only [decide_eq_true_eq]
  constructor
  · rintro (h | h)
    · exact Or.inl h
    · exact Or.inr h.symm
  · rintro (h | h)
    · exact Or.inl h
    · exact Or.inr h.symm
theorem bst_rb {D : LD} {R n : Nat} {fr hs hb : Nat → Nat} (hf : ∀ k, k < n → ∀ p, p < R → (bit (fr k) p = 1 ↔ may D (hb k) p = true)) : ∀ (m k : Nat) (w : Nat → Nat) (u : Nat), k + m = n → (∀ i, k ≤ i → w i = 0) → (∀ r, r < R → (bit u r = 1 ↔ ∃ j, j < k ∧ w j = r)) → bst R (oks D hb) (fun w => sm hs w n) m k w = (rb R n fr hs m u).map (fun x => (sm hs w k + x.1, fun i => if i < k then w i else x.2 i)) := by
  intro m
  induction m with
  | zero =>
    intro k w u hk hz _
    have hk : k = n := by omega
    subst hk
    show some (sm hs w k, w) = some (sm hs w k + 0, fun i => if i < k then w i else 0)
    congr 2
    funext i
    by_cases q : i < k
    · rw [if_pos q]
    · rw [if_neg q, hz i (by omega)]
  | succ m ih =>
    intro k w u hk hz hu
    rw [rb_s]
    refine fol_map (c := sm hs w k) (fun x => rfl) R 0 (fun p _ hp => ?_)
    have nk : n - (m + 1) = k := by omega
    unfold rF
    rw [nk]
    have hp' : p < R := by omega
    by_cases o : oks D hb k w p = true
    · have o' := o
      unfold oks at o'
      rw [Bool.and_eq_true, decide_eq_true_eq] at o'
      have b0 : bit u p = 0 := by
        rcases bit_01 u p with q | q
        · exact q
        · obtain ⟨j, j1, j2⟩ := (hu p hp').mp q
          exact absurd j2 (o'.2 j j1)
      rw [if_pos o, if_pos ⟨b0, (hf k (by omega) p hp').mpr o'.1⟩, ih (k + 1) (fu w k p) (u ||| 2 ^ p) (by omega) (fun i hi => by rw [fu_n _ _ (by omega)]; exact hz i (by omega)) (fun r hr => ?_), Option.map_map]
      · have e1 : sm hs (fu w k p) (k + 1) = sm hs w k + hs p := by
          rw [sm, fu_s, sm_congr k (fun i hi => fu_n _ _ (by omega))]
        have e2 : (fun x : Nat × (Nat → Nat) => (sm hs (fu w k p) (k + 1) + x.1, fun i => if i < k + 1 then fu w k p i else x.2 i)) = (fun x : Nat × (Nat → Nat) => (sm hs w k + x.1, fun i => if i < k then w i else x.2 i)) ∘ fun x => (hs p + x.1, fu x.2 k p) := by
          funext x
          show (_, _) = ((sm hs w k + (hs p + x.1), fun i => if i < k then w i else fu x.2 k p i) : Nat × (Nat → Nat))
          rw [e1, Nat.add_assoc]
          congr 1
          funext i
          by_cases q1 : i < k
          · rw [if_pos q1, if_pos (by omega), fu_n _ _ (by omega)]
          · rw [if_neg q1]
            by_cases q2 : i = k
            · rw [q2, if_pos (by omega), fu_s, fu_s]
            · rw [if_neg (by omega), fu_n _ _ q2]
        rw [e2]
      · rw [bit_or2, hu r hr]
        constructor
        · rintro (⟨j, j1, j2⟩ | rfl)
          · exact ⟨j, by omega, by rw [fu_n _ _ (by omega)]; exact j2⟩
          · exact ⟨k, by omega, fu_s _ _ _⟩
        · rintro ⟨j, j1, j2⟩
          by_cases q : j = k
          · rw [q, fu_s] at j2; exact Or.inr j2.symm
          · rw [fu_n _ _ q] at j2; exact Or.inl ⟨j, by omega, j2⟩
    · rw [if_neg o, if_neg]
      · rfl
      · rintro ⟨q1, q2⟩
        apply o
        unfold oks
        rw [Bool.and_eq_true, decide_eq_true_eq]
        refine ⟨(hf k (by omega) p hp').mp q2, fun j hj z => ?_⟩
        have := (hu p hp').mpr ⟨j, hj, z⟩
        omega
theorem rb_dist {R n : Nat} {fr hs : Nat → Nat} : ∀ (m u : Nat) (y : Nat × (Nat → Nat)), rb R n fr hs m u = some y → m ≤ n → ∀ i, n - m ≤ i → i < n → bit u (y.2 i) = 0 ∧ ∀ j, i < j → j < n → y.2 i ≠ y.2 j := by
  intro m
  induction m with
  | zero => intro u y _ _ i h1 h2; omega
  | succ m ih =>
    intro u y h hm i h1 h2
    rw [rb_s] at h
    obtain ⟨r, -, r2, r3, -⟩ := fol_some _ _ h
    obtain ⟨q1, q2, z, e, rfl⟩ := rF_some r3
    have IH := ih _ z e (by omega)
    have off : ∀ j, n - (m + 1) < j → j < n → bit u (z.2 j) = 0 ∧ z.2 j ≠ r := fun j j1 j2 => by
      have b := (IH j (by omega) j2).1
      have : ¬ (bit u (z.2 j) = 1 ∨ z.2 j = r) := fun w => by
        have := (bit_or2 u r (z.2 j)).mpr w
        omega
      have b01 := bit_01 u (z.2 j)
      constructor
      · by_cases q : bit u (z.2 j) = 1
        · exact absurd (Or.inl q) this
        · omega
      · exact fun w => this (Or.inr w)
    show bit u (fu z.2 (n - (m + 1)) r i) = 0 ∧ ∀ j, i < j → j < n → fu z.2 (n - (m + 1)) r i ≠ fu z.2 (n - (m + 1)) r j
    by_cases q : i = n - (m + 1)
    · rw [q, fu_s]
      refine ⟨q1, fun j j1 j2 => ?_⟩
      rw [fu_n _ _ (by omega)]
      exact fun w => (off j j1 j2).2 w.symm
    · rw [fu_n _ _ q]
      refine ⟨(off i (by omega) h2).1, fun j j1 j2 => ?_⟩
      rw [fu_n _ _ (by omega)]
      exact (IH i (by omega) h2).2 j j1 j2
theorem gat_k {m k : Nat} (h : k < pcn 30 m) : ∃ b, b < 30 ∧ bit m b = 1 ∧ pcn b m = k ∧ ∀ v a, gat v m a 30 k = v b := by
  obtain ⟨b, b1, b2, b3⟩ := gat_ix 30 k h
  exact ⟨b, b1, b2, b3, fun v a => by rw [← b3]; exact gat_at b2 30 b1⟩
/-- the k-th bout of the hour, and who may serve there -/
def hbm (m k : Nat) : Nat := (gat nI m (fun _ => 0) 30 k).toNatClampNeg
def frm (D : LD) (m k : Nat) : Nat := wkm (may D (hbm m k)) (D.1 5)
theorem hbm_k {m k : Nat} (h : k < pcn 30 m) : bit m (hbm m k) = 1 ∧ hbm m k < 30 ∧ pcn (hbm m k) m = k ∧ ∀ v a, gat v m a 30 k = v (hbm m k) := by
  obtain ⟨b, b1, b2, b3, b4⟩ := gat_k h
  have : hbm m k = b := by unfold hbm; rw [b4, nI_clamp (by omega)]
  rw [this]
  exact ⟨b2, b1, b3, b4⟩
/-- whether so many bouts are there, eight at most -/
def hq (r : Nat) (s : Int32) : Int32 := if s < 0 then 0 else if s.toNatClampNeg < 2 ^ r ∧ pcn 32 s.toNatClampNeg ≤ 8 then 1 else 0
def hrN (n : Nat) : Nat := if 30 < n then 30 else n
theorem hrN_le (n : Nat) : hrN n ≤ 30 ∧ hrN n ≤ n := by
  unfold hrN
  split <;> omega
theorem hq_1 {r : Nat} {s : Int32} (h : ¬ hq r s = 0) : hq r s = 1 ∧ ∃ m, s = nI m ∧ m < 2 ^ r ∧ pcn 32 m ≤ 8 ∧ m < 2 ^ 31 := by
  unfold hq at h ⊢
  by_cases l : s < 0
  · rw [if_pos l] at h; exact absurd rfl h
  · rw [if_neg l] at h ⊢
    by_cases c : s.toNatClampNeg < 2 ^ r ∧ pcn 32 s.toNatClampNeg ≤ 8
    · rw [if_pos c]
      obtain ⟨m, hm, rfl⟩ := nI_of l
      rw [nI_clamp hm] at c
      exact ⟨rfl, m, rfl, c.1, c.2, hm⟩
    · rw [if_neg c] at h; exact absurd rfl h
section SV3
variable {X : MX} {t : Nat} {h B : MH} {D : LD} {S IM KP : Nat → Int32} {Z : Nat → Int32}
theorem c_isOneHour (L : LG h 1 D) (h46 : ∃ m : Int32, hg h 46 = oB 8 [.ref 1, .ref 47, .ref 48, .ref 49, .ref 50, .int m]) {s : Int32} : (ev X 78 0 [.ref 46, .int s, .float 0] [] (h)) = some (some (.int (hq (hrN (D.1 2)) s)), (h)) := by
  obtain ⟨m46, h46⟩ := h46
  obtain ⟨-, -, b2, -⟩ := LBD L
  have b1 : ((1 : Int32) &&& 1 = 1) = True := eq_true (by decide)
  have b0 : ((0 : Int32) &&& 1 = 0) = True := eq_true (by decide)
  have mn : (if (30 : Int32) < nI (D.1 2) then 30 else nI (D.1 2)) = nI (hrN (D.1 2)) := by
    unfold hrN
    by_cases l : 30 < D.1 2
    · have l' : (30 : Int32) < nI (D.1 2) := nI_lt (a := 30) l (by omega)
      rw [if_pos l', if_pos l]; rfl
    · have l' : ¬ (30 : Int32) < nI (D.1 2) := nI_nlt (a := 30) (by omega) (by decide)
      rw [if_neg l', if_neg l]
  obtain ⟨r30, -⟩ := hrN_le (D.1 2)
  generalize hrN (D.1 2) = r at mn r30 ⊢
  unfold hq
  by_cases l : s < 0
  · have l' := eq_true l
    rw [if_pos l]
    simp only [s78_0, s78_1, s78_4, s78_7, s78_10, s78_12, s78_15, s78_16, s78_17, s78_20, s78_21, s78_22, s78_23, s78_26, s78_27, s78_30, s78_32, s78_35, s78_36, s78_39, s78_40, okF, okA, mcC_o, mcF_o, mcT_i, mcT_l, mcT_z, mcT_q, mcN_i, mcN_l, mcN_z, mcN_q, mcI_i, mcI_z, mcL_l, mcQ_q, hg_hp, hp_hp, List.getD_cons_zero, List.getD_cons_succ, List.set_cons_zero, List.set_cons_succ, List.length_cons, List.length_nil, Nat.reduceAdd, Nat.reduceLT, Nat.reduceEqDiff, Nat.lt_add_one, decide_true, decide_false, Bool.and_true, Bool.true_and, Bool.and_false, Bool.false_and, Bool.false_eq_true, if_true, if_false, ↓reduceIte, Option.bind_some, Option.bind_none, kont_v, kont_n, h46, lgo L, (lt2 L).1, mn, l', b0]
  · have l' := eq_false l
    rw [if_neg l]
    obtain ⟨j, hj, rfl⟩ := nI_of l
    rw [nI_clamp hj]
    have sh := nI_shr (m := j) (r := r) hj (by omega)
    have dv : j / 2 ^ r < 2 ^ 31 := Nat.lt_of_le_of_lt (Nat.div_le_self _ _) hj
    by_cases c : j < 2 ^ r
    · have z : (nI (j / 2 ^ r) = (0 : Int32)) = True := eq_true (by rw [Nat.div_eq_of_lt c]; rfl)
      have bc := c_bitCount (X := X) (h := h) hj
      have pl := pcn_le 32 j
      by_cases p8 : pcn 32 j ≤ 8
      · have l8 : ¬ (8 : Int32) < nI (pcn 32 j) := nI_nlt (a := 8) p8 (by decide)
        rw [if_pos ⟨c, p8⟩]
        simp only [s78_0, s78_1, s78_4, s78_7, s78_10, s78_12, s78_15, s78_16, s78_17, s78_20, s78_21, s78_22, s78_23, s78_26, s78_27, s78_30, s78_32, s78_35, s78_36, s78_39, s78_40, okF, okA, mcC_o, mcF_o, mcT_i, mcT_l, mcT_z, mcT_q, mcN_i, mcN_l, mcN_z, mcN_q, mcI_i, mcI_z, mcL_l, mcQ_q, hg_hp, hp_hp, List.getD_cons_zero, List.getD_cons_succ, List.set_cons_zero, List.set_cons_succ, List.length_cons, List.length_nil, Nat.reduceAdd, Nat.reduceLT, Nat.reduceEqDiff, Nat.lt_add_one, decide_true, decide_false, Bool.and_true, Bool.true_and, Bool.and_false, Bool.false_and, Bool.false_eq_true, if_true, if_false, ↓reduceIte, Option.bind_some, Option.bind_none, kont_v, kont_n, h46, lgo L, (lt2 L).1, mn, l', sh, z, bc, l8, b1]
      · have l8 : (8 : Int32) < nI (pcn 32 j) := nI_lt (a := 8) (by omega) (by omega)
        rw [if_neg (fun w => p8 w.2)]
        simp only [s78_0, s78_1, s78_4, s78_7, s78_10, s78_12, s78_15, s78_16, s78_17, s78_20, s78_21, s78_22, s78_23, s78_26, s78_27, s78_30, s78_32, s78_35, s78_36, s78_39, s78_40, okF, okA, mcC_o, mcF_o, mcT_i, mcT_l, mcT_z, mcT_q, mcN_i, mcN_l, mcN_z, mcN_q, mcI_i, mcI_z, mcL_l, mcQ_q, hg_hp, hp_hp, List.getD_cons_zero, List.getD_cons_succ, List.set_cons_zero, List.set_cons_succ, List.length_cons, List.length_nil, Nat.reduceAdd, Nat.reduceLT, Nat.reduceEqDiff, Nat.lt_add_one, decide_true, decide_false, Bool.and_true, Bool.true_and, Bool.and_false, Bool.false_and, Bool.false_eq_true, if_true, if_false, ↓reduceIte, Option.bind_some, Option.bind_none, kont_v, kont_n, h46, lgo L, (lt2 L).1, mn, l', sh, z, bc, l8, b0]
    · have z : (nI (j / 2 ^ r) = (0 : Int32)) = False := eq_false (fun w => by
        have := (nI_eq (b := 0) dv (by omega)).mp w
        have := Nat.div_pos (a := j) (b := 2 ^ r) (by omega) (Nat.two_pow_pos r)
        omega)
      rw [if_neg (fun w => c w.1)]
      simp only [s78_0, s78_1, s78_4, s78_7, s78_10, s78_12, s78_15, s78_16, s78_17, s78_20, s78_21, s78_22, s78_23, s78_26, s78_27, s78_30, s78_32, s78_35, s78_36, s78_39, s78_40, okF, okA, mcC_o, mcF_o, mcT_i, mcT_l, mcT_z, mcT_q, mcN_i, mcN_l, mcN_z, mcN_q, mcI_i, mcI_z, mcL_l, mcQ_q, hg_hp, hp_hp, List.getD_cons_zero, List.getD_cons_succ, List.set_cons_zero, List.set_cons_succ, List.length_cons, List.length_nil, Nat.reduceAdd, Nat.reduceLT, Nat.reduceEqDiff, Nat.lt_add_one, decide_true, decide_false, Bool.and_true, Bool.true_and, Bool.and_false, Bool.false_and, Bool.false_eq_true, if_true, if_false, ↓reduceIte, Option.bind_some, Option.bind_none, kont_v, kont_n, h46, lgo L, (lt2 L).1, mn, l', sh, z, b0]
theorem m_isService {io wl pl sp wa se bc sv bq : Int32} (h0 : hg h 55 = oB 12 (MO io wl pl sp wa se bc sv bq)) (h1 : hg h 56 = iA 16450 S) {n : Nat} (s2 : S 2 = nI n) (hn : n < 1000) {s : Int32} : (ev X 216 0 [.ref 55, .int s, .float 0] [] (h)) = some (some (.int (hq (hrN n) s)), (h)) := by
  have b1 : ((1 : Int32) &&& 1 = 1) = True := eq_true (by decide)
  have b0 : ((0 : Int32) &&& 1 = 0) = True := eq_true (by decide)
  have one0 : ¬ (1 : Int32) = 0 := by decide
  have c2 : inR 2 16450 = true := by decide
  have d2 : (2 : Int32).toNatClampNeg = 2 := by decide
  obtain ⟨r30, -⟩ := hrN_le n
  have p2 : 2 ^ hrN n ≤ 2 ^ 30 := Nat.pow_le_pow_right (by decide) r30
  have pp := Nat.two_pow_pos (hrN n)
  have sh : (1 : Int32) <<< (nI (hrN n) &&& 31) - 1 = nI (2 ^ hrN n - 1) := by
    rw [nI_shl (by omega), show (1 : Int32) = nI 1 from rfl, nI_sub (by omega)]
  have key : ∀ v : Int32, (ev X 156 0 [.int s, .int 0, .int (nI (2 ^ hrN n - 1))] [] (h)) = some (some (.int (wi s 0 (nI (2 ^ hrN n - 1)))), (h)) := fun _ => m_in
  have key := key 0
  have fin : (if wi s 0 (nI (2 ^ hrN n - 1)) = 0 then some (some (Value.int 0), h) else some (some (Value.int (hq (hrN n) s)), h)) = some (some (.int (hq (hrN n) s)), (h)) := by
    by_cases w : wi s 0 (nI (2 ^ hrN n - 1)) = 0
    · rw [if_pos w]
      have : hq (hrN n) s = 0 := by
        by_cases z : hq (hrN n) s = 0
        · exact z
        · obtain ⟨-, m, rfl, q1, -, q3⟩ := hq_1 z
          have e := wi_nn (a := m) (b := 0) (c := 2 ^ hrN n - 1) q3 (by omega) (by omega)
          rw [if_pos ⟨by omega, by omega⟩] at e
          have w : wi (nI m) (nI 0) (nI (2 ^ hrN n - 1)) = 0 := w
          rw [e] at w
          exact absurd w one0
      rw [this]
    · rw [if_neg w]
  rw [← fin]
  by_cases w : wi s 0 (nI (2 ^ hrN n - 1)) = 0
  · by_cases l : 30 < n
    · have l' : ¬ nI n < (30 : Int32) := nI_nlt (b := 30) (by omega) (by omega)
      have e30 : hrN n = 30 := by unfold hrN; rw [if_pos l]
      rw [e30] at key w sh ⊢
      have sh : (1 : Int32) <<< ((30 : Int32) &&& 31) - 1 = nI (2 ^ 30 - 1) := sh
      simp only [s216_0, s216_1, s216_4, s216_5, s216_6, s216_8, s216_11, s216_12, s216_15, s216_16, s216_17, s216_20, s216_22, s216_23, s216_24, s216_25, s216_26, s216_27, s216_28, s216_29, s216_30, s216_33, s216_36, s216_37, s216_40, s216_42, s216_45, s216_46, s216_49, s216_50, okF, okA, mcC_o, mcF_o, mcT_i, mcT_l, mcT_z, mcT_q, mcN_i, mcN_l, mcN_z, mcN_q, mcI_i, mcI_z, mcL_l, mcQ_q, hg_hp, hp_hp, List.getD_cons_zero, List.getD_cons_succ, List.set_cons_zero, List.set_cons_succ, List.length_cons, List.length_nil, Nat.reduceAdd, Nat.reduceLT, Nat.reduceEqDiff, Nat.lt_add_one, decide_true, decide_false, Bool.and_true, Bool.true_and, Bool.and_false, Bool.false_and, Bool.false_eq_true, if_true, if_false, ↓reduceIte, Option.bind_some, Option.bind_none, kont_v, kont_n, h0, MO_len, MO_0, h1, c2, d2, s2, l', sh, key, w, b0]
    · by_cases e : n = 30
      · have l' : ¬ nI n < (30 : Int32) := nI_nlt (b := 30) (by omega) (by omega)
        have e30 : hrN n = 30 := by unfold hrN; rw [if_neg l, e]
        rw [e30] at key w sh ⊢
        have sh : (1 : Int32) <<< ((30 : Int32) &&& 31) - 1 = nI (2 ^ 30 - 1) := sh
        simp only [s216_0, s216_1, s216_4, s216_5, s216_6, s216_8, s216_11, s216_12, s216_15, s216_16, s216_17, s216_20, s216_22, s216_23, s216_24, s216_25, s216_26, s216_27, s216_28, s216_29, s216_30, s216_33, s216_36, s216_37, s216_40, s216_42, s216_45, s216_46, s216_49, s216_50, okF, okA, mcC_o, mcF_o, mcT_i, mcT_l, mcT_z, mcT_q, mcN_i, mcN_l, mcN_z, mcN_q, mcI_i, mcI_z, mcL_l, mcQ_q, hg_hp, hp_hp, List.getD_cons_zero, List.getD_cons_succ, List.set_cons_zero, List.set_cons_succ, List.length_cons, List.length_nil, Nat.reduceAdd, Nat.reduceLT, Nat.reduceEqDiff, Nat.lt_add_one, decide_true, decide_false, Bool.and_true, Bool.true_and, Bool.and_false, Bool.false_and, Bool.false_eq_true, if_true, if_false, ↓reduceIte, Option.bind_some, Option.bind_none, kont_v, kont_n, h0, MO_len, MO_0, h1, c2, d2, s2, l', sh, key, w, b0]
      · have l' : nI n < (30 : Int32) := nI_lt (b := 30) (by omega) (by decide)
        have en : hrN n = n := by unfold hrN; rw [if_neg l]
        rw [en] at key w sh ⊢
        simp only [s216_0, s216_1, s216_4, s216_5, s216_6, s216_8, s216_11, s216_12, s216_15, s216_16, s216_17, s216_20, s216_22, s216_23, s216_24, s216_25, s216_26, s216_27, s216_28, s216_29, s216_30, s216_33, s216_36, s216_37, s216_40, s216_42, s216_45, s216_46, s216_49, s216_50, okF, okA, mcC_o, mcF_o, mcT_i, mcT_l, mcT_z, mcT_q, mcN_i, mcN_l, mcN_z, mcN_q, mcI_i, mcI_z, mcL_l, mcQ_q, hg_hp, hp_hp, List.getD_cons_zero, List.getD_cons_succ, List.set_cons_zero, List.set_cons_succ, List.length_cons, List.length_nil, Nat.reduceAdd, Nat.reduceLT, Nat.reduceEqDiff, Nat.lt_add_one, decide_true, decide_false, Bool.and_true, Bool.true_and, Bool.and_false, Bool.false_and, Bool.false_eq_true, if_true, if_false, ↓reduceIte, Option.bind_some, Option.bind_none, kont_v, kont_n, h0, MO_len, MO_0, h1, c2, d2, s2, l', sh, key, w, b0]
  · obtain ⟨w1, w2⟩ := wi_1 w
    obtain ⟨m, -, hm, rfl⟩ := wit_n (a := 0) (b := 2 ^ hrN n - 1) (by omega) w2 (by omega)
    have so := m_sizeOf (X := X) (h := h) (m := m) (by omega)
    have pl := pcn_le 32 m
    have ev8 : ∃ v : Int32, hq (hrN n) (nI m) = v ∧ ((v = 1 ∧ ¬ (8 : Int32) < nI (pcn 32 m)) ∨ (v = 0 ∧ (8 : Int32) < nI (pcn 32 m))) := by
      refine ⟨_, rfl, ?_⟩
      unfold hq
      rw [if_neg (nI_pos (by omega)), nI_clamp (by omega)]
      by_cases p8 : pcn 32 m ≤ 8
      · rw [if_pos ⟨by omega, p8⟩]
        exact Or.inl ⟨rfl, nI_nlt (a := 8) p8 (by decide)⟩
      · rw [if_neg (fun z => p8 z.2)]
        exact Or.inr ⟨rfl, nI_lt (a := 8) (by omega) (by omega)⟩
    obtain ⟨v, e8, e9⟩ := ev8
    rw [e8]
    by_cases l : n < 30
    · have l' : nI n < (30 : Int32) := nI_lt (b := 30) l (by decide)
      have en : hrN n = n := by unfold hrN; rw [if_neg (by omega)]
      rw [en] at key w1 sh ⊢
      rcases e9 with ⟨rfl, e9⟩ | ⟨rfl, e9⟩
      · simp only [s216_0, s216_1, s216_4, s216_5, s216_6, s216_8, s216_11, s216_12, s216_15, s216_16, s216_17, s216_20, s216_22, s216_23, s216_24, s216_25, s216_26, s216_27, s216_28, s216_29, s216_30, s216_33, s216_36, s216_37, s216_40, s216_42, s216_45, s216_46, s216_49, s216_50, okF, okA, mcC_o, mcF_o, mcT_i, mcT_l, mcT_z, mcT_q, mcN_i, mcN_l, mcN_z, mcN_q, mcI_i, mcI_z, mcL_l, mcQ_q, hg_hp, hp_hp, List.getD_cons_zero, List.getD_cons_succ, List.set_cons_zero, List.set_cons_succ, List.length_cons, List.length_nil, Nat.reduceAdd, Nat.reduceLT, Nat.reduceEqDiff, Nat.lt_add_one, decide_true, decide_false, Bool.and_true, Bool.true_and, Bool.and_false, Bool.false_and, Bool.false_eq_true, if_true, if_false, ↓reduceIte, Option.bind_some, Option.bind_none, kont_v, kont_n, h0, MO_len, MO_0, h1, c2, d2, s2, l', sh, key, w1, one0, so, e9, b1]
      · simp only [s216_0, s216_1, s216_4, s216_5, s216_6, s216_8, s216_11, s216_12, s216_15, s216_16, s216_17, s216_20, s216_22, s216_23, s216_24, s216_25, s216_26, s216_27, s216_28, s216_29, s216_30, s216_33, s216_36, s216_37, s216_40, s216_42, s216_45, s216_46, s216_49, s216_50, okF, okA, mcC_o, mcF_o, mcT_i, mcT_l, mcT_z, mcT_q, mcN_i, mcN_l, mcN_z, mcN_q, mcI_i, mcI_z, mcL_l, mcQ_q, hg_hp, hp_hp, List.getD_cons_zero, List.getD_cons_succ, List.set_cons_zero, List.set_cons_succ, List.length_cons, List.length_nil, Nat.reduceAdd, Nat.reduceLT, Nat.reduceEqDiff, Nat.lt_add_one, decide_true, decide_false, Bool.and_true, Bool.true_and, Bool.and_false, Bool.false_and, Bool.false_eq_true, if_true, if_false, ↓reduceIte, Option.bind_some, Option.bind_none, kont_v, kont_n, h0, MO_len, MO_0, h1, c2, d2, s2, l', sh, key, w1, one0, so, e9, b0]
    · have l' : ¬ nI n < (30 : Int32) := nI_nlt (b := 30) (by omega) (by omega)
      have e30 : hrN n = 30 := by
        unfold hrN
        by_cases q : 30 < n
        · rw [if_pos q]
        · rw [if_neg q]; omega
      rw [e30] at key w1 sh ⊢
      have sh : (1 : Int32) <<< ((30 : Int32) &&& 31) - 1 = nI (2 ^ 30 - 1) := sh
      rcases e9 with ⟨rfl, e9⟩ | ⟨rfl, e9⟩
      · simp only [s216_0, s216_1, s216_4, s216_5, s216_6, s216_8, s216_11, s216_12, s216_15, s216_16, s216_17, s216_20, s216_22, s216_23, s216_24, s216_25, s216_26, s216_27, s216_28, s216_29, s216_30, s216_33, s216_36, s216_37, s216_40, s216_42, s216_45, s216_46, s216_49, s216_50, okF, okA, mcC_o, mcF_o, mcT_i, mcT_l, mcT_z, mcT_q, mcN_i, mcN_l, mcN_z, mcN_q, mcI_i, mcI_z, mcL_l, mcQ_q, hg_hp, hp_hp, List.getD_cons_zero, List.getD_cons_succ, List.set_cons_zero, List.set_cons_succ, List.length_cons, List.length_nil, Nat.reduceAdd, Nat.reduceLT, Nat.reduceEqDiff, Nat.lt_add_one, decide_true, decide_false, Bool.and_true, Bool.true_and, Bool.and_false, Bool.false_and, Bool.false_eq_true, if_true, if_false, ↓reduceIte, Option.bind_some, Option.bind_none, kont_v, kont_n, h0, MO_len, MO_0, h1, c2, d2, s2, l', sh, key, w1, one0, so, e9, b1]
      · simp only [s216_0, s216_1, s216_4, s216_5, s216_6, s216_8, s216_11, s216_12, s216_15, s216_16, s216_17, s216_20, s216_22, s216_23, s216_24, s216_25, s216_26, s216_27, s216_28, s216_29, s216_30, s216_33, s216_36, s216_37, s216_40, s216_42, s216_45, s216_46, s216_49, s216_50, okF, okA, mcC_o, mcF_o, mcT_i, mcT_l, mcT_z, mcT_q, mcN_i, mcN_l, mcN_z, mcN_q, mcI_i, mcI_z, mcL_l, mcQ_q, hg_hp, hp_hp, List.getD_cons_zero, List.getD_cons_succ, List.set_cons_zero, List.set_cons_succ, List.length_cons, List.length_nil, Nat.reduceAdd, Nat.reduceLT, Nat.reduceEqDiff, Nat.lt_add_one, decide_true, decide_false, Bool.and_true, Bool.true_and, Bool.and_false, Bool.false_and, Bool.false_eq_true, if_true, if_false, ↓reduceIte, Option.bind_some, Option.bind_none, kont_v, kont_n, h0, MO_len, MO_0, h1, c2, d2, s2, l', sh, key, w1, one0, so, e9, b0]
end SV3

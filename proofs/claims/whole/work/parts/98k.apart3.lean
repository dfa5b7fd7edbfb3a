-- APART 3: the class's pools
theorem ins_has {ah : Nat → Nat → Int32} {e : Nat} : ∀ (k : Nat) (a : Nat → Int32), (∃ i, i ≤ k ∧ ins ah e k a i = nI e) ∧ ∀ j, j < k → ∃ i, i ≤ k ∧ ins ah e k a i = a j := by
  intro k
  induction k with
  | zero =>
    intro a
    exact ⟨⟨0, Nat.le_refl 0, upd_eq⟩, fun j hj => absurd hj (Nat.not_lt_zero j)⟩
  | succ k ih =>
    intro a
    rw [ins]
    by_cases q : ah e (fnn (a k)) = 0
    · rw [if_pos q]
      exact ⟨⟨k + 1, Nat.le_refl _, upd_eq⟩, fun j hj => ⟨j, by omega, upd_ne (by omega)⟩⟩
    · rw [if_neg q]
      obtain ⟨⟨i, i1, i2⟩, i3⟩ := ih (upd a (k + 1) (a k))
      refine ⟨⟨i, by omega, i2⟩, fun j hj => ?_⟩
      by_cases z : j = k
      · exact ⟨k + 1, Nat.le_refl _, by rw [ins_hi k _ (k + 1) (by omega), upd_eq, z]⟩
      · obtain ⟨i', q1, q2⟩ := i3 j (by omega)
        exact ⟨i', by omega, by rw [q2, upd_ne (by omega)]⟩
theorem rk_has {ah : Nat → Nat → Int32} {m : Nat} : ∀ (k e n : Nat) (a : Nat → Int32), (∀ g, g < e → bit m g = 1 → ∃ i, i < n ∧ a i = nI g) → ∀ g, g < e + k → bit m g = 1 → ∃ i, i < (rk ah m k e (n, a)).1 ∧ (rk ah m k e (n, a)).2 i = nI g := by
  intro k
  induction k with
  | zero => intro e n a h g hg hb; exact h g hg hb
  | succ k ih =>
    intro e n a h g hg hb
    rw [rk]
    by_cases q : bit m e = 1
    · rw [if_pos q]
      refine ih (e + 1) (n + 1) (ins ah e n a) (fun g' hg' hb' => ?_) g (by omega) hb
      obtain ⟨⟨i, i1, i2⟩, i3⟩ := ins_has (ah := ah) (e := e) n a
      by_cases z : g' = e
      · exact ⟨i, by omega, by rw [z]; exact i2⟩
      · obtain ⟨j, j1, j2⟩ := h g' (by omega) hb'
        obtain ⟨i', q1, q2⟩ := i3 j j1
        exact ⟨i', by omega, by rw [q2, j2]⟩
    · rw [if_neg q]
      refine ih (e + 1) n a (fun g' hg' hb' => ?_) g (by omega) hb
      by_cases z : g' = e
      · rw [z] at hb'; exact absurd hb' q
      · exact h g' (by omega) hb'
theorem least_ex {a : Nat → Int32} {x : Int32} : ∀ n, (∃ i, i < n ∧ a i = x) → ∃ j, j < n ∧ a j = x ∧ ∀ i, i < j → ¬ a i = x := by
  intro n
  induction n with
  | zero => rintro ⟨i, h, -⟩; omega
  | succ n ih =>
    rintro ⟨i, h1, h2⟩
    by_cases q : ∃ i, i < n ∧ a i = x
    · obtain ⟨j, j1, j2, j3⟩ := ih q
      exact ⟨j, by omega, j2, j3⟩
    · by_cases z : i = n
      · exact ⟨n, by omega, by rw [← z]; exact h2, fun i' hi' e => q ⟨i', hi', e⟩⟩
      · exact absurd ⟨i, by omega, h2⟩ q
theorem pig (a b : Nat) : ∃ p, p < 3 ∧ a ≠ p ∧ b ≠ p := by
  by_cases h0 : a ≠ 0 ∧ b ≠ 0
  · exact ⟨0, by omega, h0.1, h0.2⟩
  · by_cases h1 : a ≠ 1 ∧ b ≠ 1
    · exact ⟨1, by omega, h1.1, h1.2⟩
    · exact ⟨2, by omega, by omega, by omega⟩
theorem okf_ex {P k : Nat} (hP1 : 1 ≤ P) (hP : P ≤ 3) (w : Nat → Nat) : ∃ p, p < P ∧ okf P k w p = true := by
  have md := Nat.mod_lt k (show P > 0 by omega)
  rcases (by omega : P = 1 ∨ P = 2 ∨ P = 3) with rfl | rfl | rfl
  · refine ⟨0, by omega, ?_⟩
    unfold okf
    rw [decide_eq_true_eq]
    intro j h1 h2
    omega
  · obtain ⟨p, hp, q⟩ : ∃ p, p < 2 ∧ w (k - 1) ≠ p := by
      by_cases z : w (k - 1) = 0
      · exact ⟨1, by omega, by omega⟩
      · exact ⟨0, by omega, z⟩
    refine ⟨p, hp, ?_⟩
    unfold okf
    rw [decide_eq_true_eq]
    intro j h1 h2
    rw [show j = k - 1 by omega]
    exact q
  · obtain ⟨p, hp, q1, q2⟩ := pig (w (k - 1)) (w (k - 2))
    refine ⟨p, hp, ?_⟩
    unfold okf
    rw [decide_eq_true_eq]
    intro j h1 h2
    rcases (by omega : j = k - 1 ∨ j = k - 2) with z | z
    · rw [z]; exact q1
    · rw [z]; exact q2
theorem bst_ex {P : Nat} (hP1 : 1 ≤ P) (hP : P ≤ 3) {cost : (Nat → Nat) → Nat} : ∀ (m k : Nat) (w : Nat → Nat), bst P (okf P) cost m k w ≠ none := by
  intro m
  induction m with
  | zero => intro k w z; cases z
  | succ m ih =>
    intro k w z
    have z : fol (fun p => if okf P k w p = true then bst P (okf P) cost m (k + 1) (fu w k p) else none) P 0 = none := z
    obtain ⟨p, hp, o⟩ := okf_ex (k := k) hP1 hP w
    have := (fol_none P 0).mp z p (by omega) (by omega)
    have this : (if okf P k w p = true then bst P (okf P) cost m (k + 1) (fu w k p) else none) = none := this
    rw [if_pos o] at this
    exact ih (k + 1) _ this
/-- the clashes laid so far -/
def CLS (c : Nat → Nat → Nat) (cl : Nat → Int32) (k j : Nat) : Prop := ∀ a b, ((a < k ∧ b < a) ∨ (a = k ∧ b < j)) → cl (a * 12 + b) = nI (c a b)
section AP3
variable {X : MX} {t : Nat} {h B : MH} {D : LD} {S IM KP : Nat → Int32} {mn pl ls : Int32} {sq ch be : Nat → Int32} {sd : Nat → Nat} {n R : Nat}
theorem c_mk_in (L : LG B 1 D) (h44 : hg B 44 = oB 10 [.int (nI 12), .int (nI 12), .ref 45, .int (nI R)]) (hn : n ≤ 12) (hs : ∀ i, i < n → sq i = nI (sd i) ∧ sd i < 16) {k : Nat} (hk : k < n) {a1 a2 : Value} : ∀ (d j : Nat) (cl : Nat → Int32), j + d = k → CLS (fun k j => clN D (sd k) (sd j)) cl k j → ∃ cl', CLS (fun k j => clN D (sd k) (sd j)) cl' k k ∧ ev X 1 44 [.ref 40, a1, a2, .int (nI k), .int (nI j)] [] (AH B mn pl ls sq ch be cl) = ev X 1 83 [.ref 40, a1, a2, .int (nI k), .int (nI k)] [] (AH B mn pl ls sq ch be cl') := by
  intro d
  induction d with
  | zero =>
    intro j cl e C
    have e : j = k := by omega
    have l := nI_nlt (Nat.le_refl k) (by omega)
    subst e
    refine ⟨cl, C, ?_⟩
    conv => lhs; rw [s1_44]
    simp only [s1_0, s1_1, s1_2, s1_5, s1_6, s1_7, s1_10, s1_13, s1_16, s1_17, s1_18, s1_19, s1_22, s1_25, s1_26, s1_28, s1_31, s1_32, s1_34, s1_35, s1_38, s1_41, s1_42, s1_46, s1_47, s1_50, s1_51, s1_54, s1_55, s1_57, s1_58, s1_59, s1_62, s1_63, s1_64, s1_65, s1_68, s1_70, s1_71, s1_74, s1_77, s1_80, s1_86, s1_90, s1_91, s1_92, s1_95, okF, okA, mcC_o, mcF_o, mcT_i, mcT_l, mcT_z, mcT_q, mcN_i, mcN_l, mcN_z, mcN_q, mcI_i, mcI_z, mcL_l, mcQ_q, hg_hp, hp_hp, List.getD_cons_zero, List.getD_cons_succ, List.set_cons_zero, List.set_cons_succ, List.length_cons, List.length_nil, Nat.reduceAdd, Nat.reduceLT, Nat.reduceEqDiff, Nat.lt_add_one, decide_true, decide_false, Bool.and_true, Bool.true_and, Bool.and_false, Bool.false_and, Bool.false_eq_true, if_true, if_false, ↓reduceIte, Option.bind_some, Option.bind_none, kont_v, kont_n, l]
  | succ d ih =>
    intro j cl e C
    have l := nI_lt (show j < k by omega) (by omega)
    have p1 : nI j + 1 = nI (j + 1) := nI_add j 1
    obtain ⟨s1, s2⟩ := hs k hk
    obtain ⟨s3, s4⟩ := hs j (by omega)
    have r1 : inR (nI k) 12 = true := inR_n (by omega) (by decide)
    have c1 : (nI k).toNatClampNeg = k := nI_clamp (by omega)
    have r2 : inR (nI j) 12 = true := inR_n (by omega) (by decide)
    have c2 : (nI j).toNatClampNeg = j := nI_clamp (by omega)
    have co := c_clashOf (X := X) (AH_lg (mn := mn) (pl := pl) (ls := ls) (sd := sq) (ch := ch) (be := be) (cl := cl) L) AH_40 s2 s4
    have st : (ev X 102 0 [.ref 44, .int (nI k), .int (nI j), .int (nI (clN D (sd k) (sd j)))] [] (AH B mn pl ls sq ch be cl)) = some (none, (AH B mn pl ls sq ch be (upd cl (k * 12 + j) (nI (clN D (sd k) (sd j)))))) := by
      have := (AH_tab (mn := mn) (pl := pl) (ls := ls) (sd := sq) (ch := ch) (be := be) (cl := cl) h44).set (X := X) (r := k) (q := j) (x := nI (clN D (sd k) (sd j))) (by omega) (by omega)
      rw [this]
      congr 2
      exact AHp_45
    obtain ⟨cl', C', e'⟩ := ih (j + 1) (upd cl (k * 12 + j) (nI (clN D (sd k) (sd j)))) (by omega) (fun a b hab => by
      by_cases q : a = k ∧ b = j
      · obtain ⟨rfl, rfl⟩ := q; rw [upd_eq]
      · rw [upd_ne (by omega)]; exact C a b (by omega))
    refine ⟨cl', C', ?_⟩
    rw [← e', s1_44]
    simp only [s1_0, s1_1, s1_2, s1_5, s1_6, s1_7, s1_10, s1_13, s1_16, s1_17, s1_18, s1_19, s1_22, s1_25, s1_26, s1_28, s1_31, s1_32, s1_34, s1_35, s1_38, s1_41, s1_42, s1_46, s1_47, s1_50, s1_51, s1_54, s1_55, s1_57, s1_58, s1_59, s1_62, s1_63, s1_64, s1_65, s1_68, s1_70, s1_71, s1_74, s1_77, s1_80, s1_86, s1_90, s1_91, s1_92, s1_95, okF, okA, mcC_o, mcF_o, mcT_i, mcT_l, mcT_z, mcT_q, mcN_i, mcN_l, mcN_z, mcN_q, mcI_i, mcI_z, mcL_l, mcQ_q, hg_hp, hp_hp, List.getD_cons_zero, List.getD_cons_succ, List.set_cons_zero, List.set_cons_succ, List.length_cons, List.length_nil, Nat.reduceAdd, Nat.reduceLT, Nat.reduceEqDiff, Nat.lt_add_one, decide_true, decide_false, Bool.and_true, Bool.true_and, Bool.and_false, Bool.false_and, Bool.false_eq_true, if_true, if_false, ↓reduceIte, Option.bind_some, Option.bind_none, kont_v, kont_n, AH_40, AH_41, AH_44, h44, l, p1, r1, c1, r2, c2, s1, s3, co, st]
theorem c_mk_out (L : LG B 1 D) (h44 : hg B 44 = oB 10 [.int (nI 12), .int (nI 12), .ref 45, .int (nI R)]) (hn : n ≤ 12) (hs : ∀ i, i < n → sq i = nI (sd i) ∧ sd i < 16) {a1 a2 : Value} : ∀ (d k : Nat) (cl : Nat → Int32) (a4 : Value), k + d = n → CLS (fun k j => clN D (sd k) (sd j)) cl k 0 → ∃ cl' a4', CLS (fun k j => clN D (sd k) (sd j)) cl' n 0 ∧ ev X 1 33 [.ref 40, a1, a2, .int (nI k), a4] [] (AH B (nI n) pl ls sq ch be cl) = ev X 1 89 [.ref 40, a1, a2, .int (nI n), a4'] [] (AH B (nI n) pl ls sq ch be cl') := by
  intro d
  induction d with
  | zero =>
    intro k cl a4 e C
    have e : k = n := by omega
    have l := nI_nlt (Nat.le_refl n) (by omega)
    subst e
    refine ⟨cl, a4, C, ?_⟩
    rw [s1_33]
    simp only [s1_0, s1_1, s1_2, s1_5, s1_6, s1_7, s1_10, s1_13, s1_16, s1_17, s1_18, s1_19, s1_22, s1_25, s1_26, s1_28, s1_31, s1_32, s1_34, s1_35, s1_38, s1_41, s1_42, s1_46, s1_47, s1_50, s1_51, s1_54, s1_55, s1_57, s1_58, s1_59, s1_62, s1_63, s1_64, s1_65, s1_68, s1_70, s1_71, s1_74, s1_77, s1_80, s1_86, s1_90, s1_91, s1_92, s1_95, okF, okA, mcC_o, mcF_o, mcT_i, mcT_l, mcT_z, mcT_q, mcN_i, mcN_l, mcN_z, mcN_q, mcI_i, mcI_z, mcL_l, mcQ_q, hg_hp, hp_hp, List.getD_cons_zero, List.getD_cons_succ, List.set_cons_zero, List.set_cons_succ, List.length_cons, List.length_nil, Nat.reduceAdd, Nat.reduceLT, Nat.reduceEqDiff, Nat.lt_add_one, decide_true, decide_false, Bool.and_true, Bool.true_and, Bool.and_false, Bool.false_and, Bool.false_eq_true, if_true, if_false, ↓reduceIte, Option.bind_some, Option.bind_none, kont_v, kont_n, AH_40, l]
  | succ d ih =>
    intro k cl a4 e C
    have l := nI_lt (show k < n by omega) (by omega)
    have p1 : nI k + 1 = nI (k + 1) := nI_add k 1
    obtain ⟨cl1, C1, e1⟩ := c_mk_in (X := X) (mn := nI n) (pl := pl) (ls := ls) (ch := ch) (be := be) (a1 := a1) (a2 := a2) L h44 hn hs (show k < n by omega) k 0 cl (by omega) C
    obtain ⟨cl2, a4', C2, e2⟩ := ih (k + 1) cl1 (.int (nI k)) (by omega) (fun a b hab => by
      by_cases q : a = k
      · exact C1 a b (by omega)
      · exact C1 a b (by omega))
    rw [nI_0] at e1
    refine ⟨cl2, a4', C2, ?_⟩
    rw [← e2, s1_33]
    simp only [s1_0, s1_1, s1_2, s1_5, s1_6, s1_7, s1_10, s1_13, s1_16, s1_17, s1_18, s1_19, s1_22, s1_25, s1_26, s1_28, s1_31, s1_32, s1_34, s1_35, s1_38, s1_41, s1_42, s1_46, s1_47, s1_50, s1_51, s1_54, s1_55, s1_57, s1_58, s1_59, s1_62, s1_63, s1_64, s1_65, s1_68, s1_70, s1_71, s1_74, s1_77, s1_80, s1_83, s1_86, s1_90, s1_91, s1_92, s1_95, okF, okA, mcC_o, mcF_o, mcT_i, mcT_l, mcT_z, mcT_q, mcN_i, mcN_l, mcN_z, mcN_q, mcI_i, mcI_z, mcL_l, mcQ_q, hg_hp, hp_hp, List.getD_cons_zero, List.getD_cons_succ, List.set_cons_zero, List.set_cons_succ, List.length_cons, List.length_nil, Nat.reduceAdd, Nat.reduceLT, Nat.reduceEqDiff, Nat.lt_add_one, decide_true, decide_false, Bool.and_true, Bool.true_and, Bool.and_false, Bool.false_and, Bool.false_eq_true, if_true, if_false, ↓reduceIte, Option.bind_some, Option.bind_none, kont_v, kont_n, AH_40, l, p1, e1]
theorem c_po_lp {j0 : Nat} {x : Int32} {cl : Nat → Int32} (hn : n ≤ 12) (hj : j0 < n) (a0 : sq j0 = x) (al : ∀ i, i < j0 → ¬ sq i = x) : ∀ (d j : Nat), j + d = j0 → ev X 6 2 [.ref 40, .int x, .int (nI j)] [] (AH B (nI n) pl ls sq ch be cl) = some (some (.int (be j0)), (AH B (nI n) pl ls sq ch be cl)) := by
  intro d
  induction d with
  | zero =>
    intro j q
    have q : j = j0 := by omega
    have l := nI_lt (show j < n by omega) (by omega)
    have r1 : inR (nI j) 12 = true := inR_n (by omega) (by decide)
    have c1 : (nI j).toNatClampNeg = j := nI_clamp (by omega)
    subst q
    rw [s6_2]
    simp only [s6_0, s6_1, s6_3, s6_4, s6_7, s6_10, s6_11, s6_14, s6_15, s6_16, s6_17, s6_20, s6_21, s6_24, s6_25, s6_26, s6_27, s6_30, s6_33, s6_34, okF, okA, mcC_o, mcF_o, mcT_i, mcT_l, mcT_z, mcT_q, mcN_i, mcN_l, mcN_z, mcN_q, mcI_i, mcI_z, mcL_l, mcQ_q, hg_hp, hp_hp, List.getD_cons_zero, List.getD_cons_succ, List.set_cons_zero, List.set_cons_succ, List.length_cons, List.length_nil, Nat.reduceAdd, Nat.reduceLT, Nat.reduceEqDiff, Nat.lt_add_one, decide_true, decide_false, Bool.and_true, Bool.true_and, Bool.and_false, Bool.false_and, Bool.false_eq_true, if_true, if_false, ↓reduceIte, Option.bind_some, Option.bind_none, kont_v, kont_n, AH_40, AH_41, AH_43, l, r1, c1, a0]
  | succ d ih =>
    intro j q
    have l := nI_lt (show j < n by omega) (by omega)
    have p1 : nI j + 1 = nI (j + 1) := nI_add j 1
    have r1 : inR (nI j) 12 = true := inR_n (by omega) (by decide)
    have c1 : (nI j).toNatClampNeg = j := nI_clamp (by omega)
    have ea := eq_false (al j (by omega))
    rw [← ih (j + 1) (by omega), s6_2]
    simp only [s6_0, s6_1, s6_3, s6_4, s6_7, s6_10, s6_11, s6_14, s6_15, s6_16, s6_17, s6_20, s6_21, s6_24, s6_25, s6_26, s6_27, s6_30, s6_33, s6_34, okF, okA, mcC_o, mcF_o, mcT_i, mcT_l, mcT_z, mcT_q, mcN_i, mcN_l, mcN_z, mcN_q, mcI_i, mcI_z, mcL_l, mcQ_q, hg_hp, hp_hp, List.getD_cons_zero, List.getD_cons_succ, List.set_cons_zero, List.set_cons_succ, List.length_cons, List.length_nil, Nat.reduceAdd, Nat.reduceLT, Nat.reduceEqDiff, Nat.lt_add_one, decide_true, decide_false, Bool.and_true, Bool.true_and, Bool.and_false, Bool.false_and, Bool.false_eq_true, if_true, if_false, ↓reduceIte, Option.bind_some, Option.bind_none, kont_v, kont_n, AH_40, AH_41, l, r1, c1, ea, p1]
/-- what both find -/
def apw (D : LD) (sd : Nat → Nat) (P n : Nat) : WY := bst P (okf P) (fun w => pcs (fun k j => clN D (sd k) (sd j)) w n) n 0 (w99 0)
theorem c_make (L : LG h 1 D) (F : FIX h) {m P : Nat} (hm : m < 2 ^ D.1 1) (hn0 : pcn 32 m = n) (hn : n ≤ 12) (hP1 : 1 ≤ P) (hP : P ≤ 3) : ∃ sd ls sq ch be cl, (ev X 1 0 [.ref 40, .int (nI m), .int (nI P), .float 0, .float 0] [] (h)) = some (none, (AH h (nI n) (nI P) ls sq ch be cl)) ∧ (∀ i, i < n → sq i = nI (sd i) ∧ sd i < 16 ∧ bit m (sd i) = 1) ∧ (∃ s0, sq = (SEE D m s0).2) ∧ (∀ g, g < 16 → bit m g = 1 → ∃ i, i < n ∧ sq i = nI g) ∧ ACL n (apw D sd P n) ls be := by
  obtain ⟨mn, pl, ls, e40⟩ := F.c40
  obtain ⟨s0, e41⟩ := F.c41
  obtain ⟨c0, e42⟩ := F.c42
  obtain ⟨b0, e43⟩ := F.c43
  obtain ⟨R, e44⟩ := F.c44
  obtain ⟨k0, e45⟩ := F.c45
  have id := AH_id e40 e41 e42 e43 e45
  have b1 := (LBD L).2.1
  have p16 := pow16 b1
  have sn : (SEE D m s0).1 = n := by rw [SEE_num, ← hn0]; exact (pcn_more 16 16 m (by omega)).symm
  have se := c_seeded (X := X) L (c := 41) (Lr := 12) (by decide) (by decide) hm (by omega) e41
  rw [sn] at se
  have e41' : hp h 41 (iA 12 (SEE D m s0).2) = AH h mn pl ls (SEE D m s0).2 c0 b0 k0 := by
    conv => lhs; rw [← id]
    exact AHp_41
  rw [e41'] at se
  have ent := rk_ent (ah := sdv (D.2.1 1)) (m := m) 16 0 0 s0 (fun i hi => absurd hi (Nat.not_lt_zero i))
  have ent : ENT m (0 + 16) (SEE D m s0).1 (SEE D m s0).2 := ent
  rw [sn] at ent
  have has := rk_has (ah := sdv (D.2.1 1)) (m := m) 16 0 0 s0 (fun g hg => absurd hg (Nat.not_lt_zero g))
  have has : ∀ g, g < 0 + 16 → bit m g = 1 → ∃ i, i < (SEE D m s0).1 ∧ (SEE D m s0).2 i = nI g := has
  rw [sn] at has
  generalize hsq : (SEE D m s0).2 = sq at se ent has
  have hs : ∀ i, i < n → sq i = nI (sq i).toNatClampNeg ∧ (sq i).toNatClampNeg < 16 ∧ bit m (sq i).toNatClampNeg = 1 := fun i hi => by
    obtain ⟨g, g1, g2, g3⟩ := ent i hi
    rw [g3, nI_clamp (by omega)]
    exact ⟨rfl, by omega, g2⟩
  generalize hsd : (fun i => (sq i).toNatClampNeg) = sd
  have hs : ∀ i, i < n → sq i = nI (sd i) ∧ sd i < 16 ∧ bit m (sd i) = 1 := fun i hi => by rw [← hsd]; exact hs i hi
  obtain ⟨cl, a4, C, e1⟩ := c_mk_out (X := X) (B := h) (pl := nI P) (ls := 1000000) (sq := sq) (sd := sd) (ch := c0) (be := b0) (a1 := .int (nI m)) (a2 := .int (nI P)) L e44 hn (fun i hi => ⟨(hs i hi).1, (hs i hi).2.1⟩) n 0 k0 (.float 0) (by omega) (fun a b hab => by omega)
  have hc : ∀ k j, k < n → j < k → cl (k * 12 + j) = nI ((fun k j => clN D (sd k) (sd j)) k j) := fun k j h1 h2 => C k j (by omega)
  have h3 : ∀ k j, (fun k j => clN D (sd k) (sd j)) k j ≤ 3 := fun k j => clN_le D _ _
  have T : TF X h P n (fun k j => clN D (sd k) (sd j)) sq cl 250 0 := c_tf250 hP1 hP hn e44 h3 hc (c_tf251 hP1 hP hn e44 h3 hc (c_tf252 hP1 hP hn e44 h3 hc (c_tf253 hP1 hP hn e44 h3 hc (c_tf254 hP1 hP hn e44 h3 hc (c_tf255 hP1 hP hn e44 h3 hc (c_tf256 hP1 hP hn e44 h3 hc (c_tf257 hP1 hP hn e44 h3 hc (c_tf258 hP1 hP hn e44 h3 hc (c_tf259 hP1 hP hn e44 h3 hc (c_tf260 hP1 hP hn e44 h3 hc (c_tf261 hP1 hP hn e44 h3 hc (c_tf262 hP1 hP hn e44 h3 hc))))))))))))
  obtain ⟨ch', be', ls', e2, -, A⟩ := T (Nat.zero_le n) (w99 0) none c0 b0 1000000 (fun i hi => absurd hi (Nat.not_lt_zero i)) rfl
  rw [cmb_nl, Nat.sub_zero, bst_same hP n 0 (by omega) (Nat.zero_le P)] at A
  have e2 : (ev X 250 0 [.ref 40, .int 0, .int 0, .float 0] [] (AH h (nI n) (nI P) 1000000 sq c0 b0 cl)) = some (none, (AH h (nI n) (nI P) ls' sq ch' be' cl)) := e2
  have mx : (if (1 : Int32) < nI P then nI P else 1) = nI P := by
    by_cases z : 1 < P
    · have z' : (1 : Int32) < nI P := nI_lt (a := 1) z (by omega)
      rw [if_pos z']
    · have z' : ¬ (1 : Int32) < nI P := nI_nlt (a := 1) (by omega) (by decide)
      rw [if_neg z', show P = 1 by omega]; rfl
  rw [nI_0] at e1
  refine ⟨sd, ls', sq, ch', be', cl, ?_, hs, ⟨s0, hsq.symm⟩, fun g hg hb => has g (by omega) hb, A⟩
  simp only [s1_0, s1_1, s1_2, s1_5, s1_6, s1_7, s1_10, s1_13, s1_16, s1_17, s1_18, s1_19, s1_22, s1_25, s1_26, s1_28, s1_31, s1_32, s1_34, s1_35, s1_38, s1_41, s1_42, s1_46, s1_47, s1_50, s1_51, s1_54, s1_55, s1_57, s1_58, s1_59, s1_62, s1_63, s1_64, s1_65, s1_68, s1_70, s1_71, s1_74, s1_77, s1_80, s1_86, s1_89, s1_90, s1_91, s1_92, s1_95, okF, okA, mcC_o, mcF_o, mcT_i, mcT_l, mcT_z, mcT_q, mcN_i, mcN_l, mcN_z, mcN_q, mcI_i, mcI_z, mcL_l, mcQ_q, hg_hp, hp_hp, List.getD_cons_zero, List.getD_cons_succ, List.set_cons_zero, List.set_cons_succ, List.length_cons, List.length_nil, Nat.reduceAdd, Nat.reduceLT, Nat.reduceEqDiff, Nat.lt_add_one, decide_true, decide_false, Bool.and_true, Bool.true_and, Bool.and_false, Bool.false_and, Bool.false_eq_true, if_true, if_false, ↓reduceIte, Option.bind_some, Option.bind_none, kont_v, kont_n, e40, se, AH_40, AHp_40, isO0_o, mx, e1, e2, lgo L]
end AP3

-- SERVICE 4: service, serve
theorem RFH_id {h : MH} {m : Int32} {a b c e : Nat → Int32} (h46 : hg h 46 = oB 8 [.ref 1, .ref 47, .ref 48, .ref 49, .ref 50, .int m]) (h47 : hg h 47 = iA 8 a) (h48 : hg h 48 = iA 8 b) (h49 : hg h 49 = iA 8 c) (h50 : hg h 50 = iA 256 e) : RFH h m a b c e = h := by
  unfold RFH
  rw [hp_self h46, hp_self h47, hp_self h48, hp_self h49, hp_self h50]
theorem QH_id {h : MH} {Z : Nat → Int32} {sv bq : Int32} {a w v : Nat → Int32} (h55 : hg h 55 = oB 12 (MO (Z 0) (Z 1) (Z 2) (Z 3) (Z 4) (Z 5) (Z 6) sv bq)) (h81 : hg h 81 = iA 8 a) (h82 : hg h 82 = iA 8 w) (h83 : hg h 83 = iA 8 v) : QH h Z sv bq a w v = h := by
  unfold QH
  rw [hp_self h55, hp_self h81, hp_self h82, hp_self h83]
section SV4
variable {X : MX} {t : Nat} {h B : MH} {D : LD} {S IM KP : Nat → Int32} {Z : Nat → Int32}
theorem RFH_cok0 (F : FIX h) {m : Int32} {a b c e : Nat → Int32} : hg (RFH h m a b c e) 0 = oB 11 [.ref 1, .ref 20, .ref 21, .ref 22, .ref 31, .ref 23, .ref 37, .ref 40, .ref 46, .ref 51, .ref 53] := (RFH_o (by decide)).trans F.c0
theorem RFH_cok (F : FIX h) {m : Int32} {a b c e : Nat → Int32} : COK h (RFH h m a b c e) := (((((COK.refl F).put (k := 46) (by decide) ⟨m, rfl⟩).put (k := 47) (by decide) ⟨a, rfl⟩).put (k := 48) (by decide) ⟨b, rfl⟩).put (k := 49) (by decide) ⟨c, rfl⟩).put (k := 50) (by decide) ⟨e, rfl⟩
theorem QH_mok (F : FIX h) {sv bq : Int32} {a w v : Nat → Int32} : MOK h (QH h Z sv bq a w v) := ((((MOK.refl F).put (k := 55) (by decide) ⟨_, _, _, _, _, _, _, _, _, rfl⟩).put (k := 81) (by decide) ⟨a, rfl⟩).put (k := 82) (by decide) ⟨w, rfl⟩).put (k := 83) (by decide) ⟨v, rfl⟩
def hsm (D : LD) (r : Nat) : Nat := (D.2.1 5 (r * 3 + 2)).toNatClampNeg
/-- what both find for an hour -/
def hres (D : LD) (m n : Nat) : WY := rb (D.1 5) n (frm D m) (hsm D) n 0
theorem hsm_ok (N : RNG t D) (ht : t ≤ 1000) : ∀ r, r < D.1 5 → D.2.1 5 (r * 3 + 2) = nI (hsm D r) ∧ hsm D r ≤ t ∧ hsm D r ≤ 1000 := fun r hr => by
  obtain ⟨hh, h1, h2⟩ := N.2.2.2.2.1 r hr
  have : hsm D r = hh := by unfold hsm; rw [h2, nI_clamp (by omega)]
  rw [this]
  exact ⟨h2, h1, by omega⟩
theorem hour_b {m r : Nat} (hm : m < 2 ^ r) : ∀ b, bit m b = 1 → b < r := fun b hb => by
  by_cases q : b < r
  · exact q
  · have : m < 2 ^ b := Nat.lt_of_lt_of_le hm (Nat.pow_le_pow_right (by decide) (by omega))
    have := bit_h0 this
    omega
theorem hour_30 {m n : Nat} (hn : pcn 30 m = n) (hm : m < 2 ^ hrN (D.1 2)) (h8 : pcn 32 m ≤ 8) : m < 2 ^ 30 ∧ n ≤ 8 ∧ ∀ b, bit m b = 1 → b < D.1 2 := by
  obtain ⟨r30, r2⟩ := hrN_le (D.1 2)
  have m30 : m < 2 ^ 30 := Nat.lt_of_lt_of_le hm (Nat.pow_le_pow_right (by decide) r30)
  have e32 : pcn 32 m = pcn 30 m := pcn_pow m30 2
  exact ⟨m30, by omega, fun b hb => by have := hour_b hm b hb; omega⟩
theorem acc_res {n : Nat} {res : WY} {hs w : Nat → Nat} {bq : Int32} {v : Nat → Int32} (h : ACC n (res.map (fun x => (sm hs w 0 + x.1, fun i => if i < 0 then w i else x.2 i))) bq v) : (res = none → bq = -1) ∧ ∀ y, res = some y → bq = nI y.1 ∧ y.1 < 1000000 ∧ ∀ i, i < n → v i = nI (y.2 i) := by
  cases res with
  | none => exact ⟨fun _ => h, fun y hy => by cases hy⟩
  | some y =>
    refine ⟨fun z => (by cases z), fun y' hy' => ?_⟩
    have hy' := Option.some.inj hy'
    subst hy'
    obtain ⟨s1, s2, s3⟩ := h
    have s1 : bq = nI (0 + y.1) := s1
    have s2 : 0 + y.1 < 1000000 := s2
    rw [Nat.zero_add] at s1 s2
    refine ⟨s1, s2, fun i hi => ?_⟩
    have this : v i = nI (if i < 0 then w i else y.2 i) := s3 i hi
    rw [if_neg (Nat.not_lt_zero i)] at this
    exact this
theorem hour_fin {n : Nat} {res bw : WY} {hs w : Nat → Nat} {bq : Int32} {v : Nat → Int32} (e : bw = res.map (fun x => (sm hs w 0 + x.1, fun i => if i < 0 then w i else x.2 i))) (h : ACC n bw bq v) : (res = none → bq = -1) ∧ ∀ y, res = some y → bq = nI y.1 ∧ y.1 < 1000000 ∧ ∀ i, i < n → v i = nI (y.2 i) := by
  rw [e] at h
  exact acc_res h
theorem hbm_n {m k n : Nat} (hn : pcn 30 m = n) (h : k < n) : bit m (hbm m k) = 1 ∧ hbm m k < 30 ∧ pcn (hbm m k) m = k ∧ ∀ v a, gat v m a 30 k = v (hbm m k) := hbm_k (by rw [hn]; exact h)
theorem hour_c (R : REL D S) (L : LG h 1 D) (F : FIX h) (N : RNG t D) (ht : t ≤ 1000) {m n : Nat} {res : WY} (hn : pcn 30 m = n) (er : res = hres D m n) (hm : m < 2 ^ hrN (D.1 2)) (h8 : pcn 32 m ≤ 8) : ∃ a b c e, (ev X 79 0 [.ref 46, .int (nI m), .float 0, .float 0, .float 0] [] (h)) = some (some (.int (if (res).isSome = true then 1 else 0)), (RFH h (nI (n)) a b c e)) ∧ (∀ k, k < n → a k = nI (hbm m k)) ∧ ∀ y, res = some y → ∀ i, i < n → c i = nI (y.2 i) := by
  obtain ⟨x, e46⟩ := F.c46
  obtain ⟨a0, e47⟩ := F.c47
  obtain ⟨b0, e48⟩ := F.c48
  obtain ⟨c0, e49⟩ := F.c49
  obtain ⟨e0, e50⟩ := F.c50
  obtain ⟨m30, n8, mb⟩ := hour_30 (D := D) hn hm h8
  have b5 := (LBD L).2.2.2.2.1
  have p5 : 2 ^ D.1 5 ≤ 256 := Nat.pow_le_pow_right (n := 2) (by decide) (show D.1 5 ≤ 8 by omega)
  have ca := c_assign (X := X) (B := h) L R m30 (by rw [hn]; exact n8) mb (fr := frm D m) (hs := hsm D) (x := x) (a0 := a0) (b0 := b0) (c := c0) (e := e0) (fun k hk => by
    rw [hn] at hk
    obtain ⟨-, -, -, g⟩ := hbm_n hn hk
    rw [g]
    have := wkm_lt (may D (hbm m k)) (D.1 5)
    exact ⟨rfl, by unfold frm; omega⟩) (fun r hr => ⟨(hsm_ok N ht r hr).1, (hsm_ok N ht r hr).2.2⟩)
  rw [hn, RFH_id e46 e47 e48 e49 e50] at ca
  have er' : res = rb (D.1 5) n (frm D m) (hsm D) n 0 := er
  rw [← er'] at ca
  obtain ⟨c', e', q1, q2⟩ := ca
  exact ⟨_, _, _, _, q1, fun k hk => (hbm_n hn hk).2.2.2 nI a0, q2⟩
theorem Zex {io wl pl sp wa se bc sv bq : Int32} (h0 : hg h 55 = oB 12 (MO io wl pl sp wa se bc sv bq)) : ∃ Z : Nat → Int32, hg h 55 = oB 12 (MO (Z 0) (Z 1) (Z 2) (Z 3) (Z 4) (Z 5) (Z 6) sv bq) := ⟨fun i => match i with
  | 0 => io
  | 1 => wl
  | 2 => pl
  | 3 => sp
  | 4 => wa
  | 5 => se
  | _ => bc, h0⟩
theorem hour_m (R : REL D S) (F : FIX h) (M : MD h S IM KP) (b2 : D.1 2 ≤ 120) (b5 : D.1 5 ≤ 8) (N : RNG t D) (ht : t ≤ 1000) {m n : Nat} {res : WY} (hn : pcn 30 m = n) (er : res = hres D m n) (hm : m < 2 ^ hrN (D.1 2)) (h8 : pcn 32 m ≤ 8) : ∃ Z bq a w v, (ev X 217 0 [.ref 55, .int (nI m), .float 0, .float 0, .float 0] [] (h)) = some (none, (QH h Z (nI (n)) bq a w v)) ∧ (∀ k, k < n → a k = nI (hbm m k)) ∧ (res = none → bq = -1) ∧ ∀ y, res = some y → bq = nI y.1 ∧ y.1 < 1000000 ∧ ∀ i, i < n → v i = nI (y.2 i) := by
  obtain ⟨io, wl, pl, sp, wa, se, bc, sv, bq, h0⟩ := F.c55
  obtain ⟨a0, e81⟩ := F.c81
  obtain ⟨w0, e82⟩ := F.c82
  obtain ⟨v0, e83⟩ := F.c83
  obtain ⟨m30, n8, mb⟩ := hour_30 (D := D) hn hm h8
  obtain ⟨Z, h0⟩ := Zex h0
  have fh : ∀ k, k < n → gat nI m a0 30 k = nI (hbm m k) ∧ hbm m k < D.1 2 := fun k hk => by
    obtain ⟨g1, g2, -, g⟩ := hbm_n hn hk
    exact ⟨g nI a0, mb _ g1⟩
  have q := M_findService (X := X) (B := h) (Z := Z) M.1 R b2 b5 m30 (by rw [hn]; exact n8) (sv := sv) (bq := bq) (a0 := a0) (w := w0) (v := v0) (hb := hbm m) (hs := hsm D) (fun k hk => fh k (by rw [← hn]; exact hk)) (fun r hr => ⟨(hsm_ok N ht r hr).1, (hsm_ok N ht r hr).2.2⟩)
  rw [hn, QH_id h0 e81 e82 e83] at q
  obtain ⟨w', v', bq', q1, q2⟩ := q
  refine ⟨Z, bq', _, w', v', q1, fun k hk => (hbm_n hn hk).2.2.2 nI a0, ?_⟩
  have eb := bst_rb (D := D) (R := D.1 5) (n := n) (fr := frm D m) (hs := hsm D) (hb := hbm m) (fun k hk p hp => by
    unfold frm
    rw [wkm_bit]
    exact ⟨fun z => z.2, fun z => ⟨hp, z⟩⟩) (n) 0 (fun _ => 0) 0 (by omega) (fun _ _ => rfl) (fun r hr => ⟨fun z => absurd z (by rw [bit_tb, Nat.zero_testBit]; decide), fun ⟨j, j1, _⟩ => absurd j1 (Nat.not_lt_zero j)⟩)
  have er' : res = rb (D.1 5) n (frm D m) (hsm D) n 0 := er
  rw [← er'] at eb
  exact hour_fin eb q2
theorem c_sa_lp {n' : Int32} {n j0 bo : Nat} {a b c e : Nat → Int32} (en : n' = nI n) (hn : n ≤ 8) (hj : j0 < n) (a0 : a j0 = nI bo) (al : ∀ i, i < j0 → ¬ a i = nI bo) : ∀ (d j : Nat), j + d = j0 → ev X 86 2 [.ref 46, .int (nI bo), .int (nI j)] [] (RFH B n' a b c e) = some (some (.int (c j0)), (RFH B n' a b c e)) := by
  intro d
  subst en
  induction d with
  | zero =>
    intro j q
    have q : j = j0 := by omega
    have l := nI_lt (show j < n by omega) (by omega)
    have r1 : inR (nI j) 8 = true := inR_n (by omega) (by decide)
    have c1 : (nI j).toNatClampNeg = j := nI_clamp (by omega)
    subst q
    have ea := eq_true a0
    rw [a0] at ea
    rw [s86_2]
    simp only [s86_0, s86_1, s86_3, s86_4, s86_7, s86_10, s86_11, s86_14, s86_15, s86_16, s86_17, s86_20, s86_21, s86_24, s86_25, s86_26, s86_27, s86_30, s86_33, s86_34, okF, okA, mcC_o, mcF_o, mcT_i, mcT_l, mcT_z, mcT_q, mcN_i, mcN_l, mcN_z, mcN_q, mcI_i, mcI_z, mcL_l, mcQ_q, hg_hp, hp_hp, List.getD_cons_zero, List.getD_cons_succ, List.set_cons_zero, List.set_cons_succ, List.length_cons, List.length_nil, Nat.reduceAdd, Nat.reduceLT, Nat.reduceEqDiff, Nat.lt_add_one, decide_true, decide_false, Bool.and_true, Bool.true_and, Bool.and_false, Bool.false_and, Bool.false_eq_true, if_true, if_false, ↓reduceIte, Option.bind_some, Option.bind_none, kont_v, kont_n, RFH_46, RFH_47, RFH_49, l, r1, c1, a0]
  | succ d ih =>
    intro j q
    have l := nI_lt (show j < n by omega) (by omega)
    have p1 : nI j + 1 = nI (j + 1) := nI_add j 1
    have r1 : inR (nI j) 8 = true := inR_n (by omega) (by decide)
    have c1 : (nI j).toNatClampNeg = j := nI_clamp (by omega)
    have ea := eq_false (al j (by omega))
    rw [← ih (j + 1) (by omega), s86_2]
    simp only [s86_0, s86_1, s86_3, s86_4, s86_7, s86_10, s86_11, s86_14, s86_15, s86_16, s86_17, s86_20, s86_21, s86_24, s86_25, s86_26, s86_27, s86_30, s86_33, s86_34, okF, okA, mcC_o, mcF_o, mcT_i, mcT_l, mcT_z, mcT_q, mcN_i, mcN_l, mcN_z, mcN_q, mcI_i, mcI_z, mcL_l, mcQ_q, hg_hp, hp_hp, List.getD_cons_zero, List.getD_cons_succ, List.set_cons_zero, List.set_cons_succ, List.length_cons, List.length_nil, Nat.reduceAdd, Nat.reduceLT, Nat.reduceEqDiff, Nat.lt_add_one, decide_true, decide_false, Bool.and_true, Bool.true_and, Bool.and_false, Bool.false_and, Bool.false_eq_true, if_true, if_false, ↓reduceIte, Option.bind_some, Option.bind_none, kont_v, kont_n, RFH_46, RFH_47, RFH_49, l, r1, c1, ea, p1]
theorem m_sa_lp {n' bq : Int32} {n j0 bo : Nat} {a w v : Nat → Int32} {a1 : Value} (hn : n ≤ 8) (hj : j0 < n) (a0 : a j0 = nI bo) (al : ∀ i, i < j0 → ¬ a i = nI bo) : ∀ (d j : Nat), j + d = j0 → ev X 215 46 [.ref 55, a1, .int (nI bo), .int (nI j)] [] (QH B Z n' bq a w v) = some (some (.int (v j0)), (QH B Z n' bq a w v)) := by
  intro d
  induction d with
  | zero =>
    intro j q
    have q : j = j0 := by omega
    have r1 : inR (nI j) 8 = true := inR_n (by omega) (by decide)
    have c1 : (nI j).toNatClampNeg = j := nI_clamp (by omega)
    subst q
    rw [s215_46]
    simp only [s215_0, s215_1, s215_2, s215_5, s215_8, s215_9, s215_10, s215_12, s215_15, s215_18, s215_19, s215_20, s215_21, s215_22, s215_23, s215_26, s215_28, s215_29, s215_30, s215_31, s215_34, s215_35, s215_38, s215_39, s215_42, s215_43, s215_44, s215_45, s215_47, s215_50, s215_51, s215_52, s215_53, s215_56, s215_59, s215_62, s215_63, s215_66, s215_67, s215_68, okF, okA, mcC_o, mcF_o, mcT_i, mcT_l, mcT_z, mcT_q, mcN_i, mcN_l, mcN_z, mcN_q, mcI_i, mcI_z, mcL_l, mcQ_q, hg_hp, hp_hp, List.getD_cons_zero, List.getD_cons_succ, List.set_cons_zero, List.set_cons_succ, List.length_cons, List.length_nil, Nat.reduceAdd, Nat.reduceLT, Nat.reduceEqDiff, Nat.lt_add_one, decide_true, decide_false, Bool.and_true, Bool.true_and, Bool.and_false, Bool.false_and, Bool.false_eq_true, if_true, if_false, ↓reduceIte, Option.bind_some, Option.bind_none, kont_v, kont_n, QH_55, QH_81, QH_83, MO_len, MO_33, MO_35, r1, c1, a0]
  | succ d ih =>
    intro j q
    have p1 : nI j + 1 = nI (j + 1) := nI_add j 1
    have r1 : inR (nI j) 8 = true := inR_n (by omega) (by decide)
    have c1 : (nI j).toNatClampNeg = j := nI_clamp (by omega)
    have ea := eq_false (al j (by omega))
    rw [← ih (j + 1) (by omega), s215_46]
    simp only [s215_0, s215_1, s215_2, s215_5, s215_8, s215_9, s215_10, s215_12, s215_15, s215_18, s215_19, s215_20, s215_21, s215_22, s215_23, s215_26, s215_28, s215_29, s215_30, s215_31, s215_34, s215_35, s215_38, s215_39, s215_42, s215_43, s215_44, s215_45, s215_47, s215_50, s215_51, s215_52, s215_53, s215_56, s215_59, s215_62, s215_63, s215_66, s215_67, s215_68, okF, okA, mcC_o, mcF_o, mcT_i, mcT_l, mcT_z, mcT_q, mcN_i, mcN_l, mcN_z, mcN_q, mcI_i, mcI_z, mcL_l, mcQ_q, hg_hp, hp_hp, List.getD_cons_zero, List.getD_cons_succ, List.set_cons_zero, List.set_cons_succ, List.length_cons, List.length_nil, Nat.reduceAdd, Nat.reduceLT, Nat.reduceEqDiff, Nat.lt_add_one, decide_true, decide_false, Bool.and_true, Bool.true_and, Bool.and_false, Bool.false_and, Bool.false_eq_true, if_true, if_false, ↓reduceIte, Option.bind_some, Option.bind_none, kont_v, kont_n, QH_55, QH_81, QH_83, MO_len, MO_33, MO_35, r1, c1, ea, p1]
theorem QH_md (M : MD h S IM KP) {sv bq : Int32} {a w v : Nat → Int32} : MD (QH h Z sv bq a w v) S IM KP := M.same (fun k h1 h2 => by
  unfold QH
  rw [hg_hp, if_neg (by omega), hg_hp, if_neg (by omega), hg_hp, if_neg (by omega), hg_hp, if_neg (by omega)])
theorem S_service (I : INVD t h D S IM KP) (ht : t ≤ 1000) {s b : Int32} : SAME X t h 137 [.ref 0, .int s, .int b] 215 [.ref 55, .int s, .int b, .float 0] := by
  have I' := I
  obtain ⟨L, F, M, R, N, G⟩ := I
  obtain ⟨-, -, b2, -, b5, -⟩ := LBD L
  have z2 := (RCC R).2.2.1
  have one0 : ¬ (1 : Int32) = 0 := by decide
  have ms : ∀ h', FIX h' → MD h' S IM KP → (ev X 216 0 [.ref 55, .int s, .float 0] [] (h')) = some (some (.int (hq (hrN (D.1 2)) s)), (h')) := fun h' F' M' => by
    obtain ⟨io, wl, pl, sp, wa, se, bc, sv, bq, h0⟩ := F'.c55
    exact m_isService (X := X) h0 M'.1 z2 (show D.1 2 < 1000 by omega) (s := s)
  have cs := c_isOneHour (X := X) L F.c46 (s := s)
  obtain ⟨x46, e46⟩ := F.c46
  by_cases q : hq (hrN (D.1 2)) s = 0
  · rw [q] at cs ms
    refine step_ok I' (v := .int (-2)) (CA.id F L ?_) (fun h' F' M' => MA.id F' M' ?_) R (N.mono (by omega))
    · simp only [s137_0, s137_1, s137_4, s137_5, s137_8, s137_11, s137_12, s137_13, s137_15, s137_18, s137_21, s137_22, s137_23, s137_24, s137_25, s137_26, s137_29, s137_31, s137_32, s137_33, s137_36, s137_37, s137_40, s137_43, s137_44, s137_47, s137_48, s137_51, s137_54, s137_55, okF, okA, mcC_o, mcF_o, mcT_i, mcT_l, mcT_z, mcT_q, mcN_i, mcN_l, mcN_z, mcN_q, mcI_i, mcI_z, mcL_l, mcQ_q, hg_hp, hp_hp, List.getD_cons_zero, List.getD_cons_succ, List.set_cons_zero, List.set_cons_succ, List.length_cons, List.length_nil, Nat.reduceAdd, Nat.reduceLT, Nat.reduceEqDiff, Nat.lt_add_one, decide_true, decide_false, Bool.and_true, Bool.true_and, Bool.and_false, Bool.false_and, Bool.false_eq_true, if_true, if_false, ↓reduceIte, Option.bind_some, Option.bind_none, kont_v, kont_n, F.c0, e46, cs]
    · obtain ⟨io, wl, pl, sp, wa, se, bc, sv, bq, h0⟩ := F'.c55
      simp only [s215_0, s215_1, s215_2, s215_5, s215_8, s215_9, s215_10, s215_12, s215_15, s215_18, s215_19, s215_20, s215_21, s215_22, s215_23, s215_26, s215_28, s215_29, s215_30, s215_31, s215_34, s215_35, s215_38, s215_39, s215_42, s215_43, s215_44, s215_45, s215_47, s215_50, s215_51, s215_52, s215_53, s215_56, s215_59, s215_62, s215_63, s215_66, s215_67, s215_68, okF, okA, mcC_o, mcF_o, mcT_i, mcT_l, mcT_z, mcT_q, mcN_i, mcN_l, mcN_z, mcN_q, mcI_i, mcI_z, mcL_l, mcQ_q, hg_hp, hp_hp, List.getD_cons_zero, List.getD_cons_succ, List.set_cons_zero, List.set_cons_succ, List.length_cons, List.length_nil, Nat.reduceAdd, Nat.reduceLT, Nat.reduceEqDiff, Nat.lt_add_one, decide_true, decide_false, Bool.and_true, Bool.true_and, Bool.and_false, Bool.false_and, Bool.false_eq_true, if_true, if_false, ↓reduceIte, Option.bind_some, Option.bind_none, kont_v, kont_n, h0, ms h' F' M']
  obtain ⟨q1, m, rfl, hm, h8, m31⟩ := hq_1 q
  rw [q1] at cs ms
  by_cases wb : wi b 0 29 = 0
  · refine step_ok I' (v := .int (-2)) (CA.id F L ?_) (fun h' F' M' => MA.id F' M' ?_) R (N.mono (by omega))
    · simp only [s137_0, s137_1, s137_4, s137_5, s137_8, s137_11, s137_12, s137_13, s137_15, s137_18, s137_21, s137_22, s137_23, s137_24, s137_25, s137_26, s137_29, s137_31, s137_32, s137_33, s137_36, s137_37, s137_40, s137_43, s137_44, s137_47, s137_48, s137_51, s137_54, s137_55, okF, okA, mcC_o, mcF_o, mcT_i, mcT_l, mcT_z, mcT_q, mcN_i, mcN_l, mcN_z, mcN_q, mcI_i, mcI_z, mcL_l, mcQ_q, hg_hp, hp_hp, List.getD_cons_zero, List.getD_cons_succ, List.set_cons_zero, List.set_cons_succ, List.length_cons, List.length_nil, Nat.reduceAdd, Nat.reduceLT, Nat.reduceEqDiff, Nat.lt_add_one, decide_true, decide_false, Bool.and_true, Bool.true_and, Bool.and_false, Bool.false_and, Bool.false_eq_true, if_true, if_false, ↓reduceIte, Option.bind_some, Option.bind_none, kont_v, kont_n, F.c0, e46, cs, one0, c_within, wb]
    · obtain ⟨io, wl, pl, sp, wa, se, bc, sv, bq, h0⟩ := F'.c55
      simp only [s215_0, s215_1, s215_2, s215_5, s215_8, s215_9, s215_10, s215_12, s215_15, s215_18, s215_19, s215_20, s215_21, s215_22, s215_23, s215_26, s215_28, s215_29, s215_30, s215_31, s215_34, s215_35, s215_38, s215_39, s215_42, s215_43, s215_44, s215_45, s215_47, s215_50, s215_51, s215_52, s215_53, s215_56, s215_59, s215_62, s215_63, s215_66, s215_67, s215_68, okF, okA, mcC_o, mcF_o, mcT_i, mcT_l, mcT_z, mcT_q, mcN_i, mcN_l, mcN_z, mcN_q, mcI_i, mcI_z, mcL_l, mcQ_q, hg_hp, hp_hp, List.getD_cons_zero, List.getD_cons_succ, List.set_cons_zero, List.set_cons_succ, List.length_cons, List.length_nil, Nat.reduceAdd, Nat.reduceLT, Nat.reduceEqDiff, Nat.lt_add_one, decide_true, decide_false, Bool.and_true, Bool.true_and, Bool.and_false, Bool.false_and, Bool.false_eq_true, if_true, if_false, ↓reduceIte, Option.bind_some, Option.bind_none, kont_v, kont_n, h0, ms h' F' M', one0, m_in, wb]
  obtain ⟨w1, w2⟩ := wi_1 wb
  obtain ⟨bo, -, hbo, rfl⟩ := wit_n (a := 0) (b := 29) (by decide) w2 (by decide)
  have bt := nI_bit2 (m := m) (k := bo) m31 (by omega)
  rcases bit_01 m bo with qb | qb
  · have z0 : (nI 0 = (0 : Int32)) = True := eq_true rfl
    rw [qb] at bt
    refine step_ok I' (v := .int (-2)) (CA.id F L ?_) (fun h' F' M' => MA.id F' M' ?_) R (N.mono (by omega))
    · simp only [s137_0, s137_1, s137_4, s137_5, s137_8, s137_11, s137_12, s137_13, s137_15, s137_18, s137_21, s137_22, s137_23, s137_24, s137_25, s137_26, s137_29, s137_31, s137_32, s137_33, s137_36, s137_37, s137_40, s137_43, s137_44, s137_47, s137_48, s137_51, s137_54, s137_55, okF, okA, mcC_o, mcF_o, mcT_i, mcT_l, mcT_z, mcT_q, mcN_i, mcN_l, mcN_z, mcN_q, mcI_i, mcI_z, mcL_l, mcQ_q, hg_hp, hp_hp, List.getD_cons_zero, List.getD_cons_succ, List.set_cons_zero, List.set_cons_succ, List.length_cons, List.length_nil, Nat.reduceAdd, Nat.reduceLT, Nat.reduceEqDiff, Nat.lt_add_one, decide_true, decide_false, Bool.and_true, Bool.true_and, Bool.and_false, Bool.false_and, Bool.false_eq_true, if_true, if_false, ↓reduceIte, Option.bind_some, Option.bind_none, kont_v, kont_n, F.c0, e46, cs, one0, c_within, w1, bt, z0]
    · obtain ⟨io, wl, pl, sp, wa, se, bc, sv, bq, h0⟩ := F'.c55
      simp only [s215_0, s215_1, s215_2, s215_5, s215_8, s215_9, s215_10, s215_12, s215_15, s215_18, s215_19, s215_20, s215_21, s215_22, s215_23, s215_26, s215_28, s215_29, s215_30, s215_31, s215_34, s215_35, s215_38, s215_39, s215_42, s215_43, s215_44, s215_45, s215_47, s215_50, s215_51, s215_52, s215_53, s215_56, s215_59, s215_62, s215_63, s215_66, s215_67, s215_68, okF, okA, mcC_o, mcF_o, mcT_i, mcT_l, mcT_z, mcT_q, mcN_i, mcN_l, mcN_z, mcN_q, mcI_i, mcI_z, mcL_l, mcQ_q, hg_hp, hp_hp, List.getD_cons_zero, List.getD_cons_succ, List.set_cons_zero, List.set_cons_succ, List.length_cons, List.length_nil, Nat.reduceAdd, Nat.reduceLT, Nat.reduceEqDiff, Nat.lt_add_one, decide_true, decide_false, Bool.and_true, Bool.true_and, Bool.and_false, Bool.false_and, Bool.false_eq_true, if_true, if_false, ↓reduceIte, Option.bind_some, Option.bind_none, kont_v, kont_n, h0, ms h' F' M', one0, m_in, w1, bt, z0]
  rw [qb] at bt
  have z0 : (nI 1 = (0 : Int32)) = False := eq_false (by decide)
  obtain ⟨n, hn⟩ : ∃ n, pcn 30 m = n := ⟨_, rfl⟩
  obtain ⟨res, er0⟩ : ∃ res, res = hres D m n := ⟨_, rfl⟩
  obtain ⟨m30, n8, mb⟩ := hour_30 (D := D) hn hm h8
  obtain ⟨a, b', c, e, e1, ea, ec⟩ := hour_c (X := X) R L F N ht hn er0 hm h8
  have hj : pcn bo m < n := by
    have := pcn_mo (m := m) (show bo + 1 ≤ 30 by omega)
    rw [pcn_s, qb, hn] at this
    omega
  have hk : ∀ i, i < n → (hbm m i = bo ↔ i = pcn bo m) := fun i hi => by
    obtain ⟨g1, g2, g3, g4⟩ := hbm_n hn hi
    constructor
    · intro z; rw [z] at g3; exact g3.symm
    · intro z
      have := gat_at (v := nI) (a := fun _ => 0) qb 30 (by omega)
      rw [← z, g4] at this
      exact (nI_eq (by omega) (by omega)).mp this
  have a1 : ∀ (a : Nat → Int32), (∀ k, k < n → a k = nI (hbm m k)) → a (pcn bo m) = nI bo ∧ ∀ i, i < pcn bo m → ¬ a i = nI bo := fun a ea => by
    refine ⟨by rw [ea _ hj, (hk _ hj).mpr rfl], fun i hi z => ?_⟩
    rw [ea i (by omega)] at z
    have := (hk i (by omega)).mp ((nI_eq (by have := (hbm_n hn (m := m) (k := i) (by omega)).2.1; omega) (by omega)).mp z)
    omega
  have main : ∀ v : Int32, (ev X 137 0 [.ref 0, .int (nI m), .int (nI bo)] [] (h)) = some (some (.int (v)), (RFH h (nI (n)) a b' c e)) → (∀ h', FIX h' → MD h' S IM KP → ∃ Z bq a w v', (ev X 215 0 [.ref 55, .int (nI m), .int (nI bo), .float 0] [] (h')) = some (some (.int (v)), (QH h' Z (nI (n)) bq a w v'))) → SAME X t h 137 [.ref 0, .int (nI m), .int (nI bo)] 215 [.ref 55, .int (nI m), .int (nI bo), .float 0] := fun v e1 e2 => by
    refine step_ok I' (v := .int v) ⟨_, e1, RFH_cok F, RFH_lg L⟩ (fun h' F' M' => ?_) R (N.mono (by omega))
    obtain ⟨Z, bq, a, w, v', e2⟩ := e2 h' F' M'
    exact ⟨_, e2, QH_mok F', QH_md M'⟩
  cases er : res with
  | none =>
    rw [er] at e1
    have e1 : (ev X 79 0 [.ref 46, .int (nI m), .float 0, .float 0, .float 0] [] (h)) = some (some (.int (0)), (RFH h (nI (n)) a b' c e)) := e1
    refine main (-1) ?_ (fun h' F' M' => ?_)
    · simp only [s137_0, s137_1, s137_4, s137_5, s137_8, s137_11, s137_12, s137_13, s137_15, s137_18, s137_21, s137_22, s137_23, s137_24, s137_25, s137_26, s137_29, s137_31, s137_32, s137_33, s137_36, s137_37, s137_40, s137_43, s137_44, s137_47, s137_48, s137_51, s137_54, s137_55, okF, okA, mcC_o, mcF_o, mcT_i, mcT_l, mcT_z, mcT_q, mcN_i, mcN_l, mcN_z, mcN_q, mcI_i, mcI_z, mcL_l, mcQ_q, hg_hp, hp_hp, List.getD_cons_zero, List.getD_cons_succ, List.set_cons_zero, List.set_cons_succ, List.length_cons, List.length_nil, Nat.reduceAdd, Nat.reduceLT, Nat.reduceEqDiff, Nat.lt_add_one, decide_true, decide_false, Bool.and_true, Bool.true_and, Bool.and_false, Bool.false_and, Bool.false_eq_true, if_true, if_false, ↓reduceIte, Option.bind_some, Option.bind_none, kont_v, kont_n, F.c0, e46, cs, one0, c_within, w1, bt, z0, e1]
    · obtain ⟨Z, bq, a, w, v, e2, f1, f2, f3⟩ := hour_m (X := X) R F' M' b2 b5 N ht hn er0 hm h8
      have f2 := f2 er
      subst f2
      obtain ⟨io, wl, pl, sp, wa, se, bc, sv, bq, h0⟩ := F'.c55
      refine ⟨Z, (-1), a, w, v, ?_⟩
      simp only [s215_0, s215_1, s215_2, s215_5, s215_8, s215_9, s215_10, s215_12, s215_15, s215_18, s215_19, s215_20, s215_21, s215_22, s215_23, s215_26, s215_28, s215_29, s215_30, s215_31, s215_34, s215_35, s215_38, s215_39, s215_42, s215_43, s215_44, s215_45, s215_47, s215_50, s215_51, s215_52, s215_53, s215_56, s215_59, s215_62, s215_63, s215_66, s215_67, s215_68, okF, okA, mcC_o, mcF_o, mcT_i, mcT_l, mcT_z, mcT_q, mcN_i, mcN_l, mcN_z, mcN_q, mcI_i, mcI_z, mcL_l, mcQ_q, hg_hp, hp_hp, List.getD_cons_zero, List.getD_cons_succ, List.set_cons_zero, List.set_cons_succ, List.length_cons, List.length_nil, Nat.reduceAdd, Nat.reduceLT, Nat.reduceEqDiff, Nat.lt_add_one, decide_true, decide_false, Bool.and_true, Bool.true_and, Bool.and_false, Bool.false_and, Bool.false_eq_true, if_true, if_false, ↓reduceIte, Option.bind_some, Option.bind_none, kont_v, kont_n, h0, ms h' F' M', one0, m_in, w1, bt, z0, e2, QH_55, MO_len, MO_36]
  | some y =>
    rw [er] at e1
    have e1 : (ev X 79 0 [.ref 46, .int (nI m), .float 0, .float 0, .float 0] [] (h)) = some (some (.int (1)), (RFH h (nI (n)) a b' c e)) := e1
    have cl := c_sa_lp (X := X) (B := h) (b := b') (c := c) (e := e) rfl n8 hj (a1 a ea).1 (a1 a ea).2 (pcn bo m) 0 (by omega)
    rw [ec y er _ hj, nI_0] at cl
    refine main (nI (y.2 (pcn bo m))) ?_ (fun h' F' M' => ?_)
    · simp only [s137_0, s137_1, s137_4, s137_5, s137_8, s137_11, s137_12, s137_13, s137_15, s137_18, s137_21, s137_22, s137_23, s137_24, s137_25, s137_26, s137_29, s137_31, s137_32, s137_33, s137_36, s137_37, s137_40, s137_43, s137_44, s137_47, s137_48, s137_51, s137_54, s137_55, s86_0, s86_1, s86_3, s86_4, s86_7, s86_10, s86_11, s86_14, s86_15, s86_16, s86_17, s86_20, s86_21, s86_24, s86_25, s86_26, s86_27, s86_30, s86_33, s86_34, okF, okA, mcC_o, mcF_o, mcT_i, mcT_l, mcT_z, mcT_q, mcN_i, mcN_l, mcN_z, mcN_q, mcI_i, mcI_z, mcL_l, mcQ_q, hg_hp, hp_hp, List.getD_cons_zero, List.getD_cons_succ, List.set_cons_zero, List.set_cons_succ, List.length_cons, List.length_nil, Nat.reduceAdd, Nat.reduceLT, Nat.reduceEqDiff, Nat.lt_add_one, decide_true, decide_false, Bool.and_true, Bool.true_and, Bool.and_false, Bool.false_and, Bool.false_eq_true, if_true, if_false, ↓reduceIte, Option.bind_some, Option.bind_none, kont_v, kont_n, F.c0, e46, cs, one0, c_within, w1, bt, z0, e1, RFH_cok0 F, RFH_46, cl]
    · obtain ⟨Z, bq, a, w, v, e2, f1, f2, f3⟩ := hour_m (X := X) R F' M' b2 b5 N ht hn er0 hm h8
      obtain ⟨g1, g2, g3⟩ := f3 y er
      subst g1
      have nm : (nI y.1 = (-1 : Int32)) = False := eq_false (nI_m1 (by omega))
      have ml := m_sa_lp (X := X) (B := h') (Z := Z) (n' := nI (n)) (bq := nI y.1) (w := w) (v := v) (a1 := .int (nI m)) n8 hj (a1 a f1).1 (a1 a f1).2 (pcn bo m) 0 (by omega)
      rw [g3 _ hj, nI_0] at ml
      obtain ⟨io, wl, pl, sp, wa, se, bc, sv, bq, h0⟩ := F'.c55
      refine ⟨Z, nI y.1, a, w, v, ?_⟩
      simp only [s215_0, s215_1, s215_2, s215_5, s215_8, s215_9, s215_10, s215_12, s215_15, s215_18, s215_19, s215_20, s215_21, s215_22, s215_23, s215_26, s215_28, s215_29, s215_30, s215_31, s215_34, s215_35, s215_38, s215_39, s215_42, s215_43, s215_44, s215_45, s215_47, s215_50, s215_51, s215_52, s215_53, s215_56, s215_59, s215_62, s215_63, s215_66, s215_67, s215_68, okF, okA, mcC_o, mcF_o, mcT_i, mcT_l, mcT_z, mcT_q, mcN_i, mcN_l, mcN_z, mcN_q, mcI_i, mcI_z, mcL_l, mcQ_q, hg_hp, hp_hp, List.getD_cons_zero, List.getD_cons_succ, List.set_cons_zero, List.set_cons_succ, List.length_cons, List.length_nil, Nat.reduceAdd, Nat.reduceLT, Nat.reduceEqDiff, Nat.lt_add_one, decide_true, decide_false, Bool.and_true, Bool.true_and, Bool.and_false, Bool.false_and, Bool.false_eq_true, if_true, if_false, ↓reduceIte, Option.bind_some, Option.bind_none, kont_v, kont_n, h0, ms h' F' M', one0, m_in, w1, bt, z0, e2, QH_55, MO_len, MO_36, nm, ml]
/-- hours worked -/
def wrk (f : Nat → Int32) (w : Nat → Nat) : Nat → Nat → Int32
  | 0 => f
  | j + 1 => upd (wrk f w j) (w j * 3 + 2) (wrk f w j (w j * 3 + 2) + 1)
def wrs (S : Nat → Int32) (w : Nat → Nat) : Nat → Nat → Int32
  | 0 => S
  | j + 1 => upd (wrs S w j) (124 + 3 * w j + 2) (wrs S w j (124 + 3 * w j + 2) + 1)
def cw (w : Nat → Nat) (r : Nat) : Nat → Nat
  | 0 => 0
  | j + 1 => cw w r j + (if w j = r then 1 else 0)
theorem cw_le {w : Nat → Nat} {r n : Nat} (hd : ∀ i j, i < j → j < n → w i ≠ w j) : ∀ j, j ≤ n → cw w r j ≤ 1 ∧ (cw w r j = 1 → ∃ i, i < j ∧ w i = r) := by
  intro j
  induction j with
  | zero => intro _; exact ⟨Nat.zero_le _, fun z => absurd z (by show ¬ (0 = 1); omega)⟩
  | succ j ih =>
    intro hj
    obtain ⟨i1, i2⟩ := ih (by omega)
    show cw w r j + (if w j = r then 1 else 0) ≤ 1 ∧ (cw w r j + (if w j = r then 1 else 0) = 1 → _)
    by_cases q : w j = r
    · rw [if_pos q]
      by_cases z : cw w r j = 1
      · obtain ⟨i, a, b⟩ := i2 z
        exact absurd (b.trans q.symm) (hd i j a (by omega))
      · exact ⟨by omega, fun _ => ⟨j, by omega, q⟩⟩
    · rw [if_neg q]
      exact ⟨by omega, fun z => by obtain ⟨i, a, b⟩ := i2 (by omega); exact ⟨i, by omega, b⟩⟩
theorem wrk_v {f : Nat → Int32} {w : Nat → Nat} {r hh : Nat} (e : f (r * 3 + 2) = nI hh) : ∀ j, wrk f w j (r * 3 + 2) = nI (hh + cw w r j) := by
  intro j
  induction j with
  | zero => exact e
  | succ j ih =>
    rw [wrk, cw]
    by_cases q : w j = r
    · rw [if_pos q, q, upd_eq, ih, nI_1]; rfl
    · rw [if_neg q, upd_ne (by omega), ih]; rfl
theorem rel_wr (R : REL D S) {w : Nat → Nat} {n : Nat} (hw : ∀ j, j < n → w j < 8) : ∀ j, j ≤ n → REL (D.1, fu D.2.1 5 (wrk (D.2.1 5) w j), D.2.2) (wrs S w j) := by
  intro j
  induction j with
  | zero => intro _; show REL (D.1, fu D.2.1 5 (D.2.1 5), D.2.2) S; rw [fu_id]; exact R
  | succ j ih =>
    intro hj
    have R1 := ih (by omega)
    have w8 := hw j (by omega)
    have ev : wrs S w j (124 + 3 * w j + 2) = wrk (D.2.1 5) w j (w j * 3 + 2) := by
      have e1 : wrs S w j (124 + 3 * w j + 2) = fu D.2.1 5 (wrk (D.2.1 5) w j) 5 (w j * 3 + 2) := R1.s (i := 5) (c := w j * 3 + 2) (by decide) (by decide) (by show w j * 3 + 2 < 24; omega) (by show _ = 124 + (w j * 3 + 2); omega)
      rw [e1, fu_s]
    have R2 := R1.put (i := 5) (f := wrk (D.2.1 5) w j) (c := w j * 3 + 2) (k := 124 + 3 * w j + 2) (by decide) (by decide) (by show w j * 3 + 2 < 24; omega) (by show _ = 124 + (w j * 3 + 2); omega) (fu_s D.2.1 5 (wrk (D.2.1 5) w j)) (wrk (D.2.1 5) w j (w j * 3 + 2) + 1)
    have e : fu (fu D.2.1 5 (wrk (D.2.1 5) w j)) 5 (upd (wrk (D.2.1 5) w j) (w j * 3 + 2) (wrk (D.2.1 5) w j (w j * 3 + 2) + 1)) = fu D.2.1 5 (wrk (D.2.1 5) w (j + 1)) := fu_fu _ _ _ _
    have R2 : REL (D.1, fu (fu D.2.1 5 (wrk (D.2.1 5) w j)) 5 (upd (wrk (D.2.1 5) w j) (w j * 3 + 2) (wrk (D.2.1 5) w j (w j * 3 + 2) + 1)), D.2.2) _ := R2
    rw [e] at R2
    rw [wrs, ev]
    exact R2
theorem c_wh_lp (L : LG h 1 D) {n : Nat} {a b c e : Nat → Int32} {w : Nat → Nat} (hn : n ≤ 8) (hw : ∀ j, j < n → w j < 8 ∧ c j = nI (w j)) : ∀ (d j : Nat), j + d = n → ev X 87 2 [.ref 46, .int (nI j)] [] (hp (RFH h (nI n) a b c e) 13 (iA (8 * 3) (wrk (D.2.1 5) w j))) = some (some (.int (nI n)), (hp (RFH h (nI n) a b c e) 13 (iA (8 * 3) (wrk (D.2.1 5) w n)))) := by
  intro d
  have Lr := RFH_lg (m := nI n) (a := a) (b := b) (c := c) (e := e) L
  induction d with
  | zero =>
    intro j q
    have q : j = n := by omega
    have l := nI_nlt (Nat.le_refl n) (by omega)
    subst q
    rw [s87_2]
    simp only [s87_0, s87_1, s87_3, s87_4, s87_7, s87_10, s87_11, s87_14, s87_17, s87_18, s87_21, s87_22, s87_23, s87_24, s87_25, s87_28, s87_31, s87_34, s87_35, s87_38, okF, okA, mcC_o, mcF_o, mcT_i, mcT_l, mcT_z, mcT_q, mcN_i, mcN_l, mcN_z, mcN_q, mcI_i, mcI_z, mcL_l, mcQ_q, hg_hp, hp_hp, List.getD_cons_zero, List.getD_cons_succ, List.set_cons_zero, List.set_cons_succ, List.length_cons, List.length_nil, Nat.reduceAdd, Nat.reduceLT, Nat.reduceEqDiff, Nat.lt_add_one, decide_true, decide_false, Bool.and_true, Bool.true_and, Bool.and_false, Bool.false_and, Bool.false_eq_true, if_true, if_false, ↓reduceIte, Option.bind_some, Option.bind_none, kont_v, kont_n, RFH_46, l]
  | succ d ih =>
    intro j q
    obtain ⟨w8, wc⟩ := hw j (by omega)
    have l := nI_lt (show j < n by omega) (by omega)
    have p1 : nI j + 1 = nI (j + 1) := nI_add j 1
    have r1 : inR (nI j) 8 = true := inR_n (by omega) (by decide)
    have c1 : (nI j).toNatClampNeg = j := nI_clamp (by omega)
    have ra : (ev X 105 0 [.ref 12, .int (nI (w j)), .int 2, .int 1] [] (hp (RFH h (nI n) a b c e) 13 (iA (8 * 3) (wrk (D.2.1 5) w j)))) = some (none, (hp (RFH h (nI n) a b c e) 13 (iA (8 * 3) (wrk (D.2.1 5) w (j + 1))))) := by
      have := ((lt5 Lr).put (wrk (D.2.1 5) w j)).raise (X := X) (r := w j) (q := 2) (x := 1) w8 (by decide)
      rw [hp_hp] at this
      exact this
    rw [← ih (j + 1) (by omega), s87_2]
    simp only [s87_0, s87_1, s87_3, s87_4, s87_7, s87_10, s87_11, s87_14, s87_17, s87_18, s87_21, s87_22, s87_23, s87_24, s87_25, s87_28, s87_31, s87_34, s87_35, s87_38, okF, okA, mcC_o, mcF_o, mcT_i, mcT_l, mcT_z, mcT_q, mcN_i, mcN_l, mcN_z, mcN_q, mcI_i, mcI_z, mcL_l, mcQ_q, hg_hp, hp_hp, List.getD_cons_zero, List.getD_cons_succ, List.set_cons_zero, List.set_cons_succ, List.length_cons, List.length_nil, Nat.reduceAdd, Nat.reduceLT, Nat.reduceEqDiff, Nat.lt_add_one, decide_true, decide_false, Bool.and_true, Bool.true_and, Bool.and_false, Bool.false_and, Bool.false_eq_true, if_true, if_false, ↓reduceIte, Option.bind_some, Option.bind_none, kont_v, kont_n, RFH_46, RFH_49, lgo Lr, (lt5 Lr).1, l, r1, c1, wc, ra, p1]
theorem m_wh_lp (h56 : hg h 56 = iA 16450 S) {n : Nat} {bq : Int32} {a w0 v : Nat → Int32} {w : Nat → Nat} {a1 : Value} (hn : n ≤ 8) (hw : ∀ j, j < n → w j < 8 ∧ v j = nI (w j)) : ∀ (d j : Nat), j + d = n → ev X 219 28 [.ref 55, a1, .int (nI j)] [] (hp (QH h Z (nI n) bq a w0 v) 56 (iA 16450 (wrs S w j))) = some (some (.int (nI n)), (hp (QH h Z (nI n) bq a w0 v) 56 (iA 16450 (wrs S w n)))) := by
  intro d
  induction d with
  | zero =>
    intro j q
    have q : j = n := by omega
    have l := nI_nlt (Nat.le_refl n) (by omega)
    subst q
    rw [s219_28]
    simp only [s219_0, s219_1, s219_2, s219_5, s219_8, s219_10, s219_11, s219_12, s219_13, s219_16, s219_17, s219_20, s219_21, s219_24, s219_25, s219_26, s219_27, s219_29, s219_30, s219_33, s219_36, s219_37, s219_40, s219_42, s219_43, s219_44, s219_47, s219_48, s219_49, s219_50, s219_51, s219_52, s219_53, s219_54, s219_55, s219_56, s219_57, s219_58, s219_61, s219_64, s219_65, s219_68, okF, okA, mcC_o, mcF_o, mcT_i, mcT_l, mcT_z, mcT_q, mcN_i, mcN_l, mcN_z, mcN_q, mcI_i, mcI_z, mcL_l, mcQ_q, hg_hp, hp_hp, List.getD_cons_zero, List.getD_cons_succ, List.set_cons_zero, List.set_cons_succ, List.length_cons, List.length_nil, Nat.reduceAdd, Nat.reduceLT, Nat.reduceEqDiff, Nat.lt_add_one, decide_true, decide_false, Bool.and_true, Bool.true_and, Bool.and_false, Bool.false_and, Bool.false_eq_true, if_true, if_false, ↓reduceIte, Option.bind_some, Option.bind_none, kont_v, kont_n, QH_55, MO_len, MO_32, l]
  | succ d ih =>
    intro j q
    obtain ⟨w8, wc⟩ := hw j (by omega)
    have l := nI_lt (show j < n by omega) (by omega)
    have p1 : nI j + 1 = nI (j + 1) := nI_add j 1
    have r1 : inR (nI j) 8 = true := inR_n (by omega) (by decide)
    have c1 : (nI j).toNatClampNeg = j := nI_clamp (by omega)
    have i1 : (124 : Int32) + 3 * nI (w j) + 2 = nI (124 + 3 * w j + 2) := by rw [show (3 : Int32) = nI 3 from rfl, nI_mul, show (124 : Int32) = nI 124 from rfl, nI_add, show (2 : Int32) = nI 2 from rfl, nI_add]
    have r2 : inR (nI (124 + 3 * w j + 2)) 16450 = true := inR_n (by omega) (by decide)
    have c2 : (nI (124 + 3 * w j + 2)).toNatClampNeg = 124 + 3 * w j + 2 := nI_clamp (by omega)
    rw [← ih (j + 1) (by omega), wrs, s219_28]
    simp only [s219_0, s219_1, s219_2, s219_5, s219_8, s219_10, s219_11, s219_12, s219_13, s219_16, s219_17, s219_20, s219_21, s219_24, s219_25, s219_26, s219_27, s219_29, s219_30, s219_33, s219_36, s219_37, s219_40, s219_42, s219_43, s219_44, s219_47, s219_48, s219_49, s219_50, s219_51, s219_52, s219_53, s219_54, s219_55, s219_56, s219_57, s219_58, s219_61, s219_64, s219_65, s219_68, okF, okA, mcC_o, mcF_o, mcT_i, mcT_l, mcT_z, mcT_q, mcN_i, mcN_l, mcN_z, mcN_q, mcI_i, mcI_z, mcL_l, mcQ_q, hg_hp, hp_hp, List.getD_cons_zero, List.getD_cons_succ, List.set_cons_zero, List.set_cons_succ, List.length_cons, List.length_nil, Nat.reduceAdd, Nat.reduceLT, Nat.reduceEqDiff, Nat.lt_add_one, decide_true, decide_false, Bool.and_true, Bool.true_and, Bool.and_false, Bool.false_and, Bool.false_eq_true, if_true, if_false, ↓reduceIte, Option.bind_some, Option.bind_none, kont_v, kont_n, QH_55, QH_83, MO_len, MO_0, MO_32, MO_35, l, r1, c1, wc, i1, r2, c2, p1]
theorem S_serve (I : INVD t h D S IM KP) (ht : t ≤ 1000) {s : Int32} : SAME X t h 138 [.ref 0, .int s] 219 [.ref 55, .int s, .float 0] := by
  have I' := I
  obtain ⟨L, F, M, R, N, G⟩ := I
  obtain ⟨-, -, b2, -, b5, -⟩ := LBD L
  have z2 := (RCC R).2.2.1
  have one0 : ¬ (1 : Int32) = 0 := by decide
  have ms : ∀ h', FIX h' → MD h' S IM KP → (ev X 216 0 [.ref 55, .int s, .float 0] [] (h')) = some (some (.int (hq (hrN (D.1 2)) s)), (h')) := fun h' F' M' => by
    obtain ⟨io, wl, pl, sp, wa, se, bc, sv, bq, h0⟩ := F'.c55
    exact m_isService (X := X) h0 M'.1 z2 (show D.1 2 < 1000 by omega) (s := s)
  have cs := c_isOneHour (X := X) L F.c46 (s := s)
  obtain ⟨x46, e46⟩ := F.c46
  by_cases q : hq (hrN (D.1 2)) s = 0
  · rw [q] at cs ms
    refine step_ok I' (v := .int (-2)) (CA.id F L ?_) (fun h' F' M' => MA.id F' M' ?_) R (N.mono (by omega))
    · simp only [s138_0, s138_1, s138_4, s138_5, s138_8, s138_11, s138_13, s138_14, s138_15, s138_18, s138_19, s138_22, s138_25, s138_26, s138_29, s138_32, s138_35, s138_36, okF, okA, mcC_o, mcF_o, mcT_i, mcT_l, mcT_z, mcT_q, mcN_i, mcN_l, mcN_z, mcN_q, mcI_i, mcI_z, mcL_l, mcQ_q, hg_hp, hp_hp, List.getD_cons_zero, List.getD_cons_succ, List.set_cons_zero, List.set_cons_succ, List.length_cons, List.length_nil, Nat.reduceAdd, Nat.reduceLT, Nat.reduceEqDiff, Nat.lt_add_one, decide_true, decide_false, Bool.and_true, Bool.true_and, Bool.and_false, Bool.false_and, Bool.false_eq_true, if_true, if_false, ↓reduceIte, Option.bind_some, Option.bind_none, kont_v, kont_n, F.c0, e46, cs]
    · obtain ⟨io, wl, pl, sp, wa, se, bc, sv, bq, h0⟩ := F'.c55
      simp only [s219_0, s219_1, s219_2, s219_5, s219_8, s219_10, s219_11, s219_12, s219_13, s219_16, s219_17, s219_20, s219_21, s219_24, s219_25, s219_26, s219_27, s219_29, s219_30, s219_33, s219_36, s219_37, s219_40, s219_42, s219_43, s219_44, s219_47, s219_48, s219_49, s219_50, s219_51, s219_52, s219_53, s219_54, s219_55, s219_56, s219_57, s219_58, s219_61, s219_64, s219_65, s219_68, okF, okA, mcC_o, mcF_o, mcT_i, mcT_l, mcT_z, mcT_q, mcN_i, mcN_l, mcN_z, mcN_q, mcI_i, mcI_z, mcL_l, mcQ_q, hg_hp, hp_hp, List.getD_cons_zero, List.getD_cons_succ, List.set_cons_zero, List.set_cons_succ, List.length_cons, List.length_nil, Nat.reduceAdd, Nat.reduceLT, Nat.reduceEqDiff, Nat.lt_add_one, decide_true, decide_false, Bool.and_true, Bool.true_and, Bool.and_false, Bool.false_and, Bool.false_eq_true, if_true, if_false, ↓reduceIte, Option.bind_some, Option.bind_none, kont_v, kont_n, h0, ms h' F' M']
  obtain ⟨q1, m, rfl, hm, h8, m31⟩ := hq_1 q
  rw [q1] at cs ms
  obtain ⟨n, hn⟩ : ∃ n, pcn 30 m = n := ⟨_, rfl⟩
  obtain ⟨res, er0⟩ : ∃ res, res = hres D m n := ⟨_, rfl⟩
  obtain ⟨m30, n8, mb⟩ := hour_30 (D := D) hn hm h8
  obtain ⟨a, b', c, e, e1, ea, ec⟩ := hour_c (X := X) R L F N ht hn er0 hm h8
  cases er : res with
  | none =>
    rw [er] at e1
    have e1 : (ev X 79 0 [.ref 46, .int (nI m), .float 0, .float 0, .float 0] [] (h)) = some (some (.int (0)), (RFH h (nI (n)) a b' c e)) := e1
    have eC : (ev X 138 0 [.ref 0, .int (nI m)] [] (h)) = some (some (.int (-1)), (RFH h (nI (n)) a b' c e)) := by
      simp only [s138_0, s138_1, s138_4, s138_5, s138_8, s138_11, s138_13, s138_14, s138_15, s138_18, s138_19, s138_22, s138_25, s138_26, s138_29, s138_32, s138_35, s138_36, okF, okA, mcC_o, mcF_o, mcT_i, mcT_l, mcT_z, mcT_q, mcN_i, mcN_l, mcN_z, mcN_q, mcI_i, mcI_z, mcL_l, mcQ_q, hg_hp, hp_hp, List.getD_cons_zero, List.getD_cons_succ, List.set_cons_zero, List.set_cons_succ, List.length_cons, List.length_nil, Nat.reduceAdd, Nat.reduceLT, Nat.reduceEqDiff, Nat.lt_add_one, decide_true, decide_false, Bool.and_true, Bool.true_and, Bool.and_false, Bool.false_and, Bool.false_eq_true, if_true, if_false, ↓reduceIte, Option.bind_some, Option.bind_none, kont_v, kont_n, F.c0, e46, cs, one0, e1]
    refine step_ok I' (v := .int (-1)) ⟨_, eC, RFH_cok F, RFH_lg L⟩ (fun h' F' M' => ?_) R (N.mono (by omega))
    · obtain ⟨Z, bq, a, w, v, e2, f1, f2, f3⟩ := hour_m (X := X) R F' M' b2 b5 N ht hn er0 hm h8
      have f2 := f2 er
      subst f2
      obtain ⟨io, wl, pl, sp, wa, se, bc, sv, bq, h0⟩ := F'.c55
      have e3 : (ev X 219 0 [.ref 55, .int (nI m), .float 0] [] (h')) = some (some (.int (-1)), (QH h' Z (nI (n)) (-1) a w v)) := by
        simp only [s219_0, s219_1, s219_2, s219_5, s219_8, s219_10, s219_11, s219_12, s219_13, s219_16, s219_17, s219_20, s219_21, s219_24, s219_25, s219_26, s219_27, s219_29, s219_30, s219_33, s219_36, s219_37, s219_40, s219_42, s219_43, s219_44, s219_47, s219_48, s219_49, s219_50, s219_51, s219_52, s219_53, s219_54, s219_55, s219_56, s219_57, s219_58, s219_61, s219_64, s219_65, s219_68, okF, okA, mcC_o, mcF_o, mcT_i, mcT_l, mcT_z, mcT_q, mcN_i, mcN_l, mcN_z, mcN_q, mcI_i, mcI_z, mcL_l, mcQ_q, hg_hp, hp_hp, List.getD_cons_zero, List.getD_cons_succ, List.set_cons_zero, List.set_cons_succ, List.length_cons, List.length_nil, Nat.reduceAdd, Nat.reduceLT, Nat.reduceEqDiff, Nat.lt_add_one, decide_true, decide_false, Bool.and_true, Bool.true_and, Bool.and_false, Bool.false_and, Bool.false_eq_true, if_true, if_false, ↓reduceIte, Option.bind_some, Option.bind_none, kont_v, kont_n, h0, ms h' F' M', one0, e2, QH_55, MO_len, MO_36]
      exact ⟨_, e3, QH_mok F', QH_md M'⟩
  | some y =>
    rw [er] at e1
    have e1 : (ev X 79 0 [.ref 46, .int (nI m), .float 0, .float 0, .float 0] [] (h)) = some (some (.int (1)), (RFH h (nI (n)) a b' c e)) := e1
    have er1 : rb (D.1 5) n (frm D m) (hsm D) n 0 = some y := er0.symm.trans er
    have yR : ∀ i, i < n → y.2 i < D.1 5 := fun i hi => rb_at _ _ y er1 (Nat.le_refl _) i (by omega) hi
    have yd : ∀ i j, i < j → j < n → y.2 i ≠ y.2 j := fun i j h1 h2 => (rb_dist _ _ y er1 (Nat.le_refl _) i (by omega) (by omega)).2 j h1 h2
    have wl := c_wh_lp (X := X) (a := a) (b := b') (c := c) (e := e) (w := y.2) L n8 (fun j hj => ⟨by have := yR j hj; omega, ec y er j hj⟩) (n) 0 (by omega)
    have T5 := lt5 (RFH_lg (m := nI (n)) (a := a) (b := b') (c := c) (e := e) L)
    rw [show wrk (D.2.1 5) y.2 0 = D.2.1 5 from rfl, hp_self T5.2.1, nI_0] at wl
    have Lg := LG.put (RFH_lg (m := nI (n)) (a := a) (b := b') (c := c) (e := e) L) (i := 5) (by decide) (wrk (D.2.1 5) y.2 (n))
    have eC : (ev X 138 0 [.ref 0, .int (nI m)] [] (h)) = some (some (.int (nI (n))), (hp (RFH h (nI (n)) a b' c e) 13 (iA (8 * 3) (wrk (D.2.1 5) y.2 (n))))) := by
      simp only [s138_0, s138_1, s138_4, s138_5, s138_8, s138_11, s138_13, s138_14, s138_15, s138_18, s138_19, s138_22, s138_25, s138_26, s138_29, s138_32, s138_35, s138_36, s87_0, s87_1, s87_3, s87_4, s87_7, s87_10, s87_11, s87_14, s87_17, s87_18, s87_21, s87_22, s87_23, s87_24, s87_25, s87_28, s87_31, s87_34, s87_35, s87_38, okF, okA, mcC_o, mcF_o, mcT_i, mcT_l, mcT_z, mcT_q, mcN_i, mcN_l, mcN_z, mcN_q, mcI_i, mcI_z, mcL_l, mcQ_q, hg_hp, hp_hp, List.getD_cons_zero, List.getD_cons_succ, List.set_cons_zero, List.set_cons_succ, List.length_cons, List.length_nil, Nat.reduceAdd, Nat.reduceLT, Nat.reduceEqDiff, Nat.lt_add_one, decide_true, decide_false, Bool.and_true, Bool.true_and, Bool.and_false, Bool.false_and, Bool.false_eq_true, if_true, if_false, ↓reduceIte, Option.bind_some, Option.bind_none, kont_v, kont_n, F.c0, e46, cs, one0, e1, RFH_cok0 F, RFH_46, wl]
    refine step_ok I' (v := .int (nI (n))) (D' := (D.1, fu D.2.1 5 (wrk (D.2.1 5) y.2 (n)), D.2.2)) (S' := wrs S y.2 (n)) ⟨_, eC, (RFH_cok F).put (k := 13) (by decide) (FC_lg 13 (by decide) (by decide)), Lg⟩ (fun h' F' M' => ?_) (rel_wr R (fun j hj => by have := yR j hj; omega) _ (Nat.le_refl _)) ?_
    · obtain ⟨Z, bq, a, w, v, e2, f1, f2, f3⟩ := hour_m (X := X) R F' M' b2 b5 N ht hn er0 hm h8
      obtain ⟨g1, g2, g3⟩ := f3 y er
      subst g1
      have nm : (nI y.1 = (-1 : Int32)) = False := eq_false (nI_m1 (by omega))
      have ml := m_wh_lp (X := X) (Z := Z) (bq := nI y.1) (a := a) (w0 := w) (v := v) (w := y.2) (a1 := .int (nI m)) M'.1 n8 (fun j hj => ⟨by have := yR j hj; omega, g3 j hj⟩) (n) 0 (by omega)
      rw [show wrs S y.2 0 = S from rfl, hp_self (QH_56.trans M'.1), nI_0] at ml
      obtain ⟨io, wl, pl, sp, wa, se, bc, sv, bq, h0⟩ := F'.c55
      have e3 : (ev X 219 0 [.ref 55, .int (nI m), .float 0] [] (h')) = some (some (.int (nI (n))), (hp (QH h' Z (nI (n)) (nI y.1) a w v) 56 (iA 16450 (wrs S y.2 (n))))) := by
        simp only [s219_0, s219_1, s219_2, s219_5, s219_8, s219_10, s219_11, s219_12, s219_13, s219_16, s219_17, s219_20, s219_21, s219_24, s219_25, s219_26, s219_27, s219_29, s219_30, s219_33, s219_36, s219_37, s219_40, s219_42, s219_43, s219_44, s219_47, s219_48, s219_49, s219_50, s219_51, s219_52, s219_53, s219_54, s219_55, s219_56, s219_57, s219_58, s219_61, s219_64, s219_65, s219_68, okF, okA, mcC_o, mcF_o, mcT_i, mcT_l, mcT_z, mcT_q, mcN_i, mcN_l, mcN_z, mcN_q, mcI_i, mcI_z, mcL_l, mcQ_q, hg_hp, hp_hp, List.getD_cons_zero, List.getD_cons_succ, List.set_cons_zero, List.set_cons_succ, List.length_cons, List.length_nil, Nat.reduceAdd, Nat.reduceLT, Nat.reduceEqDiff, Nat.lt_add_one, decide_true, decide_false, Bool.and_true, Bool.true_and, Bool.and_false, Bool.false_and, Bool.false_eq_true, if_true, if_false, ↓reduceIte, Option.bind_some, Option.bind_none, kont_v, kont_n, h0, ms h' F' M', one0, e2, QH_55, MO_len, MO_36, nm, ml]
      exact ⟨_, e3, (QH_mok F').put (k := 56) (by decide) trivial, (QH_md M').put _⟩
    · have hsm5 := hsm_ok N ht
      obtain ⟨n1, n2, n3, n4, n5, n6⟩ := N.mono (show t ≤ t + 1 by omega)
      refine ⟨n1, n2, n3, n4, fun r hr => ?_, n6⟩
      obtain ⟨x1, x2, -⟩ := hsm5 r hr
      refine ⟨hsm D r + cw y.2 r (n), ?_, ?_⟩
      · have := (cw_le (r := r) yd (n) (Nat.le_refl _)).1
        omega
      · show fu D.2.1 5 _ 5 _ = _
        rw [fu_s]
        exact wrk_v x1 _
end SV4

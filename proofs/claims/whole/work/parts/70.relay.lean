-- RELAYS
def ORL : List Nat := [12, 21, 102, 120, 201, 210]
def FPl (t : Nat) : Nat := ([2, 0, 1, 2, 0, 1, 0, 1, 2] : List Nat).getD t 0
def SPl (t : Nat) : Nat := ([2, 1, 0, 1, 0, 2, 2, 1, 0] : List Nat).getD t 0
def dig (k p : Nat) : Nat := if p = 0 then k / 100 else if p = 1 then k / 10 % 10 else k % 10
def rlp (B : Int32) (till : Nat) : Nat → Nat → Nat × Nat → Nat × Nat
  | 0, _, s => s
  | d + 1, i, s => if s.1 < till ∧ s.2 < till then rlp B till d (i + 1) (if B >>> (nI i &&& 31) &&& 1 = 0 then (s.1 + 1, s.2) else (s.1, s.2 + 1)) else s
def rrow (k t : Nat) : Nat := dig k (FPl t) * 3 + SPl t
def stt (f8 : Nat → Int32) (k : Nat) : Nat → Nat × Nat
  | 0 => (0, 0)
  | t + 1 => rlp (f8 (rrow k t * 2 + 1)) (5 * (t + 1)) (fnn (f8 (rrow k t * 2))) 0 (stt f8 k t)
theorem rlp_le {B : Int32} {till : Nat} : ∀ (d i : Nat) (s : Nat × Nat), s.1 ≤ till → s.2 ≤ till → (rlp B till d i s).1 ≤ till ∧ (rlp B till d i s).2 ≤ till
  | 0, _, s, h1, h2 => ⟨h1, h2⟩
  | d + 1, i, s, h1, h2 => by
    simp only [rlp]
    split
    · rename_i h
      split
      · exact rlp_le d (i + 1) _ (by show s.1 + 1 ≤ till; omega) (by show s.2 ≤ till; omega)
      · exact rlp_le d (i + 1) _ (by show s.1 ≤ till; omega) (by show s.2 + 1 ≤ till; omega)
    · exact ⟨h1, h2⟩
theorem stt_le {f8 : Nat → Int32} {k : Nat} : ∀ t, (stt f8 k t).1 ≤ 5 * t ∧ (stt f8 k t).2 ≤ 5 * t
  | 0 => ⟨Nat.le_refl _, Nat.le_refl _⟩
  | t + 1 => by
    obtain ⟨h1, h2⟩ := stt_le (f8 := f8) (k := k) t
    exact rlp_le _ _ _ (by omega) (by omega)
theorem dig_le : ∀ k, k ∈ ORL → ∀ t, t < 9 → dig k (FPl t) ≤ 2 ∧ SPl t ≤ 2 ∧ rrow k t < 9 ∧ FPl t ≤ 2 := by decide
theorem ORL_lt : ∀ k, k ∈ ORL → k < 223 := by decide
theorem roF2 : ∀ t, t < 9 → roF 2 t = nI (FPl t) := by decide
theorem roF3 : ∀ t, t < 9 → roF 3 t = nI (SPl t) := by decide
theorem bit01 (B : Int32) (i : Int32) : B >>> (i &&& 31) &&& 1 = 0 ∨ B >>> (i &&& 31) &&& 1 = 1 := by
  obtain ⟨j, hj, e⟩ := pk_andE (B >>> (i &&& 31)) (m := 1) 1 (by decide)
  rw [e]
  rcases (by omega : j = 0 ∨ j = 1) with rfl | rfl
  · exact Or.inl rfl
  · exact Or.inr rfl
theorem rem10 {a : Nat} (ha : a < 2 ^ 31) : nI a - nI a / 10 * 10 = nI (a % 10) := pk_rem (d := 10) ha (by decide) (by decide)
theorem dv10 {a : Nat} (ha : a < 2 ^ 31) : nI a / 10 = nI (a / 10) := pk_div (d := 10) ha (by decide) (by decide)
theorem dv100 {a : Nat} (ha : a < 2 ^ 31) : nI a / 100 = nI (a / 100) := pk_div (d := 100) ha (by decide) (by decide)
section RLY
variable {X : MX} {t : Nat} {h : MH} {D : LD} {S IM KP : Nat → Int32}
theorem s93_6r {st : List Value} {a0 a1 a2 : Value} : ev X 93 6 [a0, a1, a2] (.retAddr 1 :: st) h = ev X 93 7 [a0, a1, a2] (.int 6 :: st) h := r_sim (q := (7, [a0, a1, a2], .int 6 :: st, h)) mb_93 (show decode prog_11_method_2_code 6 = .ok (.arraylength, 1) by decide +kernel) (by decide) rfl rfl
theorem s97_18r {st : List Value} {a0 a1 a2 a3 a4 : Value} : ev X 97 18 [a0, a1, a2, a3, a4] (.retAddr 1 :: st) h = ev X 97 19 [a0, a1, a2, a3, a4] (.int 6 :: st) h := r_sim (q := (19, [a0, a1, a2, a3, a4], .int 6 :: st, h)) mb_97 (show decode prog_11_method_6_code 18 = .ok (.arraylength, 1) by decide +kernel) (by decide) rfl rfl
theorem roF1 : roF 1 0 = 12 ∧ roF 1 1 = 21 ∧ roF 1 2 = 102 ∧ roF 1 3 = 120 ∧ roF 1 4 = 201 ∧ roF 1 5 = 210 := by decide
def ORI (o : Int32) : Prop := o = 12 ∨ o = 21 ∨ o = 102 ∨ o = 120 ∨ o = 201 ∨ o = 210
theorem c_isOrder {o : Int32} : ∃ v : Int32, (ev X 93 0 [.ref 51, .int o, .float 0] [] (h)) = some (some (.int (v)), (h)) ∧ ((v = 1 ∧ ORI o) ∨ (v = 0 ∧ ¬ ORI o)) := by
  obtain ⟨r0, r1, r2, r3, r4, r5⟩ := roF1
  have l0 : (0 : Int32) < 6 := by decide
  have l1 : (1 : Int32) < 6 := by decide
  have l2 : (2 : Int32) < 6 := by decide
  have l3 : (3 : Int32) < 6 := by decide
  have l4 : (4 : Int32) < 6 := by decide
  have l5 : (5 : Int32) < 6 := by decide
  have l6 : ¬ (6 : Int32) < 6 := by decide
  have p0 : (0 : Int32) + 1 = 1 := by decide
  have p1 : (1 : Int32) + 1 = 2 := by decide
  have p2 : (2 : Int32) + 1 = 3 := by decide
  have p3 : (3 : Int32) + 1 = 4 := by decide
  have p4 : (4 : Int32) + 1 = 5 := by decide
  have p5 : (5 : Int32) + 1 = 6 := by decide
  have s := @s93_6r
  unfold ORI
  by_cases h0 : o = 12
  · exact ⟨1, by simp (disch := omega) only [s93_0, s93_1, s93_2, s93_3, s93_6, s93_6r, s93_7, s93_10, s93_13, s93_14, s93_14_r1, s93_14_r2, s93_14_r3, s93_15, s93_16, s93_19, s93_20, s93_21, s93_24, s93_27, s93_28, okF, okA, mcC_o, mcF_o, mcT_i, mcT_l, mcT_z, mcT_q, mcN_i, mcN_l, mcN_z, mcN_q, mcI_i, mcI_z, mcL_l, mcQ_q, hg_hp, hp_hp, List.getD_cons_zero, List.getD_cons_succ, List.set_cons_zero, List.set_cons_succ, List.length_cons, List.length_nil, Nat.reduceAdd, Nat.reduceLT, Nat.reduceEqDiff, Nat.lt_add_one, decide_true, decide_false, Bool.and_true, Bool.true_and, Bool.and_false, Bool.false_and, Bool.false_eq_true, if_true, if_false, ↓reduceIte, Option.bind_some, Option.bind_none, kont_v, kont_n, s, l0, nc_0, ni_0, r0, eq_true h0.symm, b11], Or.inl ⟨rfl, Or.inl h0⟩⟩
  have n0 := eq_false (fun z : (12 : Int32) = o => h0 z.symm)
  by_cases h1 : o = 21
  · exact ⟨1, by simp (disch := omega) only [s93_0, s93_1, s93_2, s93_3, s93_6, s93_6r, s93_7, s93_10, s93_13, s93_14, s93_14_r1, s93_14_r2, s93_14_r3, s93_15, s93_16, s93_19, s93_20, s93_21, s93_24, s93_27, s93_28, okF, okA, mcC_o, mcF_o, mcT_i, mcT_l, mcT_z, mcT_q, mcN_i, mcN_l, mcN_z, mcN_q, mcI_i, mcI_z, mcL_l, mcQ_q, hg_hp, hp_hp, List.getD_cons_zero, List.getD_cons_succ, List.set_cons_zero, List.set_cons_succ, List.length_cons, List.length_nil, Nat.reduceAdd, Nat.reduceLT, Nat.reduceEqDiff, Nat.lt_add_one, decide_true, decide_false, Bool.and_true, Bool.true_and, Bool.and_false, Bool.false_and, Bool.false_eq_true, if_true, if_false, ↓reduceIte, Option.bind_some, Option.bind_none, kont_v, kont_n, s, l0, l1, p0, nc_0, ni_0, nc_1, ni_1, r0, r1, n0, eq_true h1.symm, b11], Or.inl ⟨rfl, Or.inr (Or.inl h1)⟩⟩
  have n1 := eq_false (fun z : (21 : Int32) = o => h1 z.symm)
  by_cases h2 : o = 102
  · exact ⟨1, by simp (disch := omega) only [s93_0, s93_1, s93_2, s93_3, s93_6, s93_6r, s93_7, s93_10, s93_13, s93_14, s93_14_r1, s93_14_r2, s93_14_r3, s93_15, s93_16, s93_19, s93_20, s93_21, s93_24, s93_27, s93_28, okF, okA, mcC_o, mcF_o, mcT_i, mcT_l, mcT_z, mcT_q, mcN_i, mcN_l, mcN_z, mcN_q, mcI_i, mcI_z, mcL_l, mcQ_q, hg_hp, hp_hp, List.getD_cons_zero, List.getD_cons_succ, List.set_cons_zero, List.set_cons_succ, List.length_cons, List.length_nil, Nat.reduceAdd, Nat.reduceLT, Nat.reduceEqDiff, Nat.lt_add_one, decide_true, decide_false, Bool.and_true, Bool.true_and, Bool.and_false, Bool.false_and, Bool.false_eq_true, if_true, if_false, ↓reduceIte, Option.bind_some, Option.bind_none, kont_v, kont_n, s, l0, l1, l2, p0, p1, nc_0, ni_0, nc_1, ni_1, nc_2, ni_2, r0, r1, r2, n0, n1, eq_true h2.symm, b11], Or.inl ⟨rfl, Or.inr (Or.inr (Or.inl h2))⟩⟩
  have n2 := eq_false (fun z : (102 : Int32) = o => h2 z.symm)
  by_cases h3 : o = 120
  · exact ⟨1, by simp (disch := omega) only [s93_0, s93_1, s93_2, s93_3, s93_6, s93_6r, s93_7, s93_10, s93_13, s93_14, s93_14_r1, s93_14_r2, s93_14_r3, s93_15, s93_16, s93_19, s93_20, s93_21, s93_24, s93_27, s93_28, okF, okA, mcC_o, mcF_o, mcT_i, mcT_l, mcT_z, mcT_q, mcN_i, mcN_l, mcN_z, mcN_q, mcI_i, mcI_z, mcL_l, mcQ_q, hg_hp, hp_hp, List.getD_cons_zero, List.getD_cons_succ, List.set_cons_zero, List.set_cons_succ, List.length_cons, List.length_nil, Nat.reduceAdd, Nat.reduceLT, Nat.reduceEqDiff, Nat.lt_add_one, decide_true, decide_false, Bool.and_true, Bool.true_and, Bool.and_false, Bool.false_and, Bool.false_eq_true, if_true, if_false, ↓reduceIte, Option.bind_some, Option.bind_none, kont_v, kont_n, s, l0, l1, l2, l3, p0, p1, p2, nc_0, ni_0, nc_1, ni_1, nc_2, ni_2, nc_3, ni_3, r0, r1, r2, r3, n0, n1, n2, eq_true h3.symm, b11], Or.inl ⟨rfl, Or.inr (Or.inr (Or.inr (Or.inl h3)))⟩⟩
  have n3 := eq_false (fun z : (120 : Int32) = o => h3 z.symm)
  by_cases h4 : o = 201
  · exact ⟨1, by simp (disch := omega) only [s93_0, s93_1, s93_2, s93_3, s93_6, s93_6r, s93_7, s93_10, s93_13, s93_14, s93_14_r1, s93_14_r2, s93_14_r3, s93_15, s93_16, s93_19, s93_20, s93_21, s93_24, s93_27, s93_28, okF, okA, mcC_o, mcF_o, mcT_i, mcT_l, mcT_z, mcT_q, mcN_i, mcN_l, mcN_z, mcN_q, mcI_i, mcI_z, mcL_l, mcQ_q, hg_hp, hp_hp, List.getD_cons_zero, List.getD_cons_succ, List.set_cons_zero, List.set_cons_succ, List.length_cons, List.length_nil, Nat.reduceAdd, Nat.reduceLT, Nat.reduceEqDiff, Nat.lt_add_one, decide_true, decide_false, Bool.and_true, Bool.true_and, Bool.and_false, Bool.false_and, Bool.false_eq_true, if_true, if_false, ↓reduceIte, Option.bind_some, Option.bind_none, kont_v, kont_n, s, l0, l1, l2, l3, l4, p0, p1, p2, p3, nc_0, ni_0, nc_1, ni_1, nc_2, ni_2, nc_3, ni_3, nc_4, ni_4, r0, r1, r2, r3, r4, n0, n1, n2, n3, eq_true h4.symm, b11], Or.inl ⟨rfl, Or.inr (Or.inr (Or.inr (Or.inr (Or.inl h4))))⟩⟩
  have n4 := eq_false (fun z : (201 : Int32) = o => h4 z.symm)
  by_cases h5 : o = 210
  · exact ⟨1, by simp (disch := omega) only [s93_0, s93_1, s93_2, s93_3, s93_6, s93_6r, s93_7, s93_10, s93_13, s93_14, s93_14_r1, s93_14_r2, s93_14_r3, s93_15, s93_16, s93_19, s93_20, s93_21, s93_24, s93_27, s93_28, okF, okA, mcC_o, mcF_o, mcT_i, mcT_l, mcT_z, mcT_q, mcN_i, mcN_l, mcN_z, mcN_q, mcI_i, mcI_z, mcL_l, mcQ_q, hg_hp, hp_hp, List.getD_cons_zero, List.getD_cons_succ, List.set_cons_zero, List.set_cons_succ, List.length_cons, List.length_nil, Nat.reduceAdd, Nat.reduceLT, Nat.reduceEqDiff, Nat.lt_add_one, decide_true, decide_false, Bool.and_true, Bool.true_and, Bool.and_false, Bool.false_and, Bool.false_eq_true, if_true, if_false, ↓reduceIte, Option.bind_some, Option.bind_none, kont_v, kont_n, s, l0, l1, l2, l3, l4, l5, p0, p1, p2, p3, p4, nc_0, ni_0, nc_1, ni_1, nc_2, ni_2, nc_3, ni_3, nc_4, ni_4, nc_5, ni_5, r0, r1, r2, r3, r4, r5, n0, n1, n2, n3, n4, eq_true h5.symm, b11], Or.inl ⟨rfl, Or.inr (Or.inr (Or.inr (Or.inr (Or.inr h5))))⟩⟩
  have n5 := eq_false (fun z : (210 : Int32) = o => h5 z.symm)
  refine ⟨0, by simp (disch := omega) only [s93_0, s93_1, s93_2, s93_3, s93_6, s93_6r, s93_7, s93_10, s93_13, s93_14, s93_14_r1, s93_14_r2, s93_14_r3, s93_15, s93_16, s93_19, s93_20, s93_21, s93_24, s93_27, s93_28, okF, okA, mcC_o, mcF_o, mcT_i, mcT_l, mcT_z, mcT_q, mcN_i, mcN_l, mcN_z, mcN_q, mcI_i, mcI_z, mcL_l, mcQ_q, hg_hp, hp_hp, List.getD_cons_zero, List.getD_cons_succ, List.set_cons_zero, List.set_cons_succ, List.length_cons, List.length_nil, Nat.reduceAdd, Nat.reduceLT, Nat.reduceEqDiff, Nat.lt_add_one, decide_true, decide_false, Bool.and_true, Bool.true_and, Bool.and_false, Bool.false_and, Bool.false_eq_true, if_true, if_false, ↓reduceIte, Option.bind_some, Option.bind_none, kont_v, kont_n, s, l0, l1, l2, l3, l4, l5, l6, p0, p1, p2, p3, p4, p5, nc_0, ni_0, nc_1, ni_1, nc_2, ni_2, nc_3, ni_3, nc_4, ni_4, nc_5, ni_5, r0, r1, r2, r3, r4, r5, n0, n1, n2, n3, n4, n5, b01], Or.inr ⟨rfl, fun z => ?_⟩⟩
  rcases z with z | z | z | z | z | z
  · exact h0 z
  · exact h1 z
  · exact h2 z
  · exact h3 z
  · exact h4 z
  · exact h5 z
theorem ordN : ∀ k, k < 223 → ((k / 10 % 10 ≤ 2 ∧ k % 10 ≤ 2 ∧ k / 100 ≠ k / 10 % 10 ∧ k / 100 ≠ k % 10 ∧ k / 10 % 10 ≠ k % 10) ↔ k ∈ ORL) := by decide +kernel
theorem ORI_n {k : Nat} (hk : k < 2 ^ 31) : ORI (nI k) ↔ k ∈ ORL := by
  unfold ORI ORL
  have e : ∀ c : Nat, c < 1000 → (nI k = nI c ↔ k = c) := fun c hc => nI_eq hk (by omega)
  have e1 : nI k = 12 ↔ k = 12 := e 12 (by decide)
  have e2 : nI k = 21 ↔ k = 21 := e 21 (by decide)
  have e3 : nI k = 102 ↔ k = 102 := e 102 (by decide)
  have e4 : nI k = 120 ↔ k = 120 := e 120 (by decide)
  have e5 : nI k = 201 ↔ k = 201 := e 201 (by decide)
  have e6 : nI k = 210 ↔ k = 210 := e 210 (by decide)
  rw [e1, e2, e3, e4, e5, e6]
  simp
theorem ORI_k {o : Int32} (h : ORI o) : ∃ k, k ∈ ORL ∧ o = nI k := by
  rcases h with rfl | rfl | rfl | rfl | rfl | rfl
  · exact ⟨12, by decide, rfl⟩
  · exact ⟨21, by decide, rfl⟩
  · exact ⟨102, by decide, rfl⟩
  · exact ⟨120, by decide, rfl⟩
  · exact ⟨201, by decide, rfl⟩
  · exact ⟨210, by decide, rfl⟩
theorem m_isOrder {o : Int32} : ∃ v : Int32, (ev X 223 0 [.int o, .float 0, .float 0, .float 0] [] (h)) = some (some (.int (v)), (h)) ∧ ((v = 1 ∧ ORI o) ∨ (v = 0 ∧ ¬ ORI o)) := by
  have h100 : ¬ (100 : Int32) = 0 := by decide
  have h10 : ¬ (10 : Int32) = 0 := by decide
  by_cases w : wit o 0 222
  · obtain ⟨k, -, hk, rfl⟩ := wit_n (a := 0) (b := 222) (by decide) w (by decide)
    have w1 : wi (nI k) 0 222 = 1 := wi_pos w
    have d1 := dv100 (a := k) (by omega)
    have d2 := dv10 (a := k) (by omega)
    have d3 := rem10 (a := k) (by omega)
    have d4 := rem10 (a := k / 10) (by omega)
    rw [dv10 (by omega)] at d3
    have w2 : ∀ c, c < 10 → (wi (nI c) 0 2 = if c ≤ 2 then 1 else 0) := fun c hc => by
      have := wi_nn (a := c) (b := 0) (c := 2) (by omega) (by omega) (by omega)
      simp only [Nat.zero_le, true_and] at this
      exact this
    have q1 := w2 (k / 10 % 10) (by omega)
    have q2 := w2 (k % 10) (by omega)
    have e1 : nI (k / 100) = nI (k / 10 % 10) ↔ k / 100 = k / 10 % 10 := nI_eq (by omega) (by omega)
    have e2 : nI (k / 100) = nI (k % 10) ↔ k / 100 = k % 10 := nI_eq (by omega) (by omega)
    have e3 : nI (k / 10 % 10) = nI (k % 10) ↔ k / 10 % 10 = k % 10 := nI_eq (by omega) (by omega)
    have key := ordN k (by omega)
    rw [ORI_n (by omega), ← key]
    by_cases c1 : k / 10 % 10 ≤ 2
    · rw [if_pos c1] at q1
      by_cases c2 : k % 10 ≤ 2
      · rw [if_pos c2] at q2
        by_cases c3 : k / 100 = k / 10 % 10
        · have e := eq_true (e1.mpr c3)
          exact ⟨0, by simp only [s223_0, s223_1, s223_3, s223_4, s223_5, s223_6, s223_8, s223_9, s223_11, s223_12, s223_13, s223_14, s223_16, s223_17, s223_18, s223_19, s223_20, s223_23, s223_26, s223_29, s223_30, s223_31, s223_32, s223_35, s223_38, s223_39, s223_40, s223_41, s223_44, s223_47, s223_48, s223_49, s223_52, s223_53, s223_54, s223_57, s223_58, s223_59, s223_62, s223_63, s223_66, s223_67, okF, okA, mcC_o, mcF_o, mcT_i, mcT_l, mcT_z, mcT_q, mcN_i, mcN_l, mcN_z, mcN_q, mcI_i, mcI_z, mcL_l, mcQ_q, hg_hp, hp_hp, List.getD_cons_zero, List.getD_cons_succ, List.set_cons_zero, List.set_cons_succ, List.length_cons, List.length_nil, Nat.reduceAdd, Nat.reduceLT, Nat.reduceEqDiff, Nat.lt_add_one, decide_true, decide_false, Bool.and_true, Bool.true_and, Bool.and_false, Bool.false_and, Bool.false_eq_true, if_true, if_false, ↓reduceIte, Option.bind_some, Option.bind_none, kont_v, kont_n, h100, h10, d1, d2, d3, d4, m_in, w1, q1, q2, one0, e, b01], Or.inr ⟨rfl, fun z => z.2.2.1 c3⟩⟩
        have f1 := eq_false (mt e1.mp c3)
        by_cases c4 : k / 100 = k % 10
        · have e := eq_true (e2.mpr c4)
          exact ⟨0, by simp only [s223_0, s223_1, s223_3, s223_4, s223_5, s223_6, s223_8, s223_9, s223_11, s223_12, s223_13, s223_14, s223_16, s223_17, s223_18, s223_19, s223_20, s223_23, s223_26, s223_29, s223_30, s223_31, s223_32, s223_35, s223_38, s223_39, s223_40, s223_41, s223_44, s223_47, s223_48, s223_49, s223_52, s223_53, s223_54, s223_57, s223_58, s223_59, s223_62, s223_63, s223_66, s223_67, okF, okA, mcC_o, mcF_o, mcT_i, mcT_l, mcT_z, mcT_q, mcN_i, mcN_l, mcN_z, mcN_q, mcI_i, mcI_z, mcL_l, mcQ_q, hg_hp, hp_hp, List.getD_cons_zero, List.getD_cons_succ, List.set_cons_zero, List.set_cons_succ, List.length_cons, List.length_nil, Nat.reduceAdd, Nat.reduceLT, Nat.reduceEqDiff, Nat.lt_add_one, decide_true, decide_false, Bool.and_true, Bool.true_and, Bool.and_false, Bool.false_and, Bool.false_eq_true, if_true, if_false, ↓reduceIte, Option.bind_some, Option.bind_none, kont_v, kont_n, h100, h10, d1, d2, d3, d4, m_in, w1, q1, q2, one0, f1, e, b01], Or.inr ⟨rfl, fun z => z.2.2.2.1 c4⟩⟩
        have f2 := eq_false (mt e2.mp c4)
        by_cases c5 : k / 10 % 10 = k % 10
        · have e := eq_true (e3.mpr c5)
          exact ⟨0, by simp only [s223_0, s223_1, s223_3, s223_4, s223_5, s223_6, s223_8, s223_9, s223_11, s223_12, s223_13, s223_14, s223_16, s223_17, s223_18, s223_19, s223_20, s223_23, s223_26, s223_29, s223_30, s223_31, s223_32, s223_35, s223_38, s223_39, s223_40, s223_41, s223_44, s223_47, s223_48, s223_49, s223_52, s223_53, s223_54, s223_57, s223_58, s223_59, s223_62, s223_63, s223_66, s223_67, okF, okA, mcC_o, mcF_o, mcT_i, mcT_l, mcT_z, mcT_q, mcN_i, mcN_l, mcN_z, mcN_q, mcI_i, mcI_z, mcL_l, mcQ_q, hg_hp, hp_hp, List.getD_cons_zero, List.getD_cons_succ, List.set_cons_zero, List.set_cons_succ, List.length_cons, List.length_nil, Nat.reduceAdd, Nat.reduceLT, Nat.reduceEqDiff, Nat.lt_add_one, decide_true, decide_false, Bool.and_true, Bool.true_and, Bool.and_false, Bool.false_and, Bool.false_eq_true, if_true, if_false, ↓reduceIte, Option.bind_some, Option.bind_none, kont_v, kont_n, h100, h10, d1, d2, d3, d4, m_in, w1, q1, q2, one0, f1, f2, e, b01], Or.inr ⟨rfl, fun z => z.2.2.2.2 c5⟩⟩
        have f3 := eq_false (mt e3.mp c5)
        exact ⟨1, by simp only [s223_0, s223_1, s223_3, s223_4, s223_5, s223_6, s223_8, s223_9, s223_11, s223_12, s223_13, s223_14, s223_16, s223_17, s223_18, s223_19, s223_20, s223_23, s223_26, s223_29, s223_30, s223_31, s223_32, s223_35, s223_38, s223_39, s223_40, s223_41, s223_44, s223_47, s223_48, s223_49, s223_52, s223_53, s223_54, s223_57, s223_58, s223_59, s223_62, s223_63, s223_66, s223_67, okF, okA, mcC_o, mcF_o, mcT_i, mcT_l, mcT_z, mcT_q, mcN_i, mcN_l, mcN_z, mcN_q, mcI_i, mcI_z, mcL_l, mcQ_q, hg_hp, hp_hp, List.getD_cons_zero, List.getD_cons_succ, List.set_cons_zero, List.set_cons_succ, List.length_cons, List.length_nil, Nat.reduceAdd, Nat.reduceLT, Nat.reduceEqDiff, Nat.lt_add_one, decide_true, decide_false, Bool.and_true, Bool.true_and, Bool.and_false, Bool.false_and, Bool.false_eq_true, if_true, if_false, ↓reduceIte, Option.bind_some, Option.bind_none, kont_v, kont_n, h100, h10, d1, d2, d3, d4, m_in, w1, q1, q2, one0, f1, f2, f3, b11], Or.inl ⟨rfl, c1, c2, c3, c4, c5⟩⟩
      · rw [if_neg c2] at q2
        exact ⟨0, by simp only [s223_0, s223_1, s223_3, s223_4, s223_5, s223_6, s223_8, s223_9, s223_11, s223_12, s223_13, s223_14, s223_16, s223_17, s223_18, s223_19, s223_20, s223_23, s223_26, s223_29, s223_30, s223_31, s223_32, s223_35, s223_38, s223_39, s223_40, s223_41, s223_44, s223_47, s223_48, s223_49, s223_52, s223_53, s223_54, s223_57, s223_58, s223_59, s223_62, s223_63, s223_66, s223_67, okF, okA, mcC_o, mcF_o, mcT_i, mcT_l, mcT_z, mcT_q, mcN_i, mcN_l, mcN_z, mcN_q, mcI_i, mcI_z, mcL_l, mcQ_q, hg_hp, hp_hp, List.getD_cons_zero, List.getD_cons_succ, List.set_cons_zero, List.set_cons_succ, List.length_cons, List.length_nil, Nat.reduceAdd, Nat.reduceLT, Nat.reduceEqDiff, Nat.lt_add_one, decide_true, decide_false, Bool.and_true, Bool.true_and, Bool.and_false, Bool.false_and, Bool.false_eq_true, if_true, if_false, ↓reduceIte, Option.bind_some, Option.bind_none, kont_v, kont_n, h100, h10, d1, d2, d3, d4, m_in, w1, q1, q2, one0, b01], Or.inr ⟨rfl, fun z => c2 z.2.1⟩⟩
    · rw [if_neg c1] at q1
      exact ⟨0, by simp only [s223_0, s223_1, s223_3, s223_4, s223_5, s223_6, s223_8, s223_9, s223_11, s223_12, s223_13, s223_14, s223_16, s223_17, s223_18, s223_19, s223_20, s223_23, s223_26, s223_29, s223_30, s223_31, s223_32, s223_35, s223_38, s223_39, s223_40, s223_41, s223_44, s223_47, s223_48, s223_49, s223_52, s223_53, s223_54, s223_57, s223_58, s223_59, s223_62, s223_63, s223_66, s223_67, okF, okA, mcC_o, mcF_o, mcT_i, mcT_l, mcT_z, mcT_q, mcN_i, mcN_l, mcN_z, mcN_q, mcI_i, mcI_z, mcL_l, mcQ_q, hg_hp, hp_hp, List.getD_cons_zero, List.getD_cons_succ, List.set_cons_zero, List.set_cons_succ, List.length_cons, List.length_nil, Nat.reduceAdd, Nat.reduceLT, Nat.reduceEqDiff, Nat.lt_add_one, decide_true, decide_false, Bool.and_true, Bool.true_and, Bool.and_false, Bool.false_and, Bool.false_eq_true, if_true, if_false, ↓reduceIte, Option.bind_some, Option.bind_none, kont_v, kont_n, h100, h10, d1, d2, d3, d4, m_in, w1, q1, one0, b01], Or.inr ⟨rfl, fun z => c1 z.1⟩⟩
  · have w0 := wi_neg w
    refine ⟨0, by simp only [s223_0, s223_1, s223_3, s223_4, s223_5, s223_6, s223_8, s223_9, s223_11, s223_12, s223_13, s223_14, s223_16, s223_17, s223_18, s223_19, s223_20, s223_23, s223_26, s223_29, s223_30, s223_31, s223_32, s223_35, s223_38, s223_39, s223_40, s223_41, s223_44, s223_47, s223_48, s223_49, s223_52, s223_53, s223_54, s223_57, s223_58, s223_59, s223_62, s223_63, s223_66, s223_67, okF, okA, mcC_o, mcF_o, mcT_i, mcT_l, mcT_z, mcT_q, mcN_i, mcN_l, mcN_z, mcN_q, mcI_i, mcI_z, mcL_l, mcQ_q, hg_hp, hp_hp, List.getD_cons_zero, List.getD_cons_succ, List.set_cons_zero, List.set_cons_succ, List.length_cons, List.length_nil, Nat.reduceAdd, Nat.reduceLT, Nat.reduceEqDiff, Nat.lt_add_one, decide_true, decide_false, Bool.and_true, Bool.true_and, Bool.and_false, Bool.false_and, Bool.false_eq_true, if_true, if_false, ↓reduceIte, Option.bind_some, Option.bind_none, kont_v, kont_n, h100, h10, m_in, w0, b01], Or.inr ⟨rfl, fun z => ?_⟩⟩
    obtain ⟨k, hk, rfl⟩ := ORI_k z
    have := ORL_lt k hk
    exact w ⟨nI_pos (by omega), nI_nlt (a := 222) (b := k) (by omega) (by omega)⟩
theorem c_fencerAt {k p : Nat} (hk : k < 1000) (hp_ : p ≤ 2) : (ev X 95 0 [.int (nI k), .int (nI p)] [] (h)) = some (some (.int (nI (dig k p))), (h)) := by
  have h100 : ¬ (100 : Int32) = 0 := by decide
  have h10 : ¬ (10 : Int32) = 0 := by decide
  have d1 := dv100 (a := k) (by omega)
  have d2 := dv10 (a := k) (by omega)
  have d3 := rem10 (a := k) (by omega)
  have d4 := rem10 (a := k / 10) (by omega)
  rw [dv10 (by omega)] at d3
  have n20 : ¬ (2 : Int32) = 0 := by decide
  have n21 : ¬ (2 : Int32) = 1 := by decide
  unfold dig
  rcases (by omega : p = 0 ∨ p = 1 ∨ p = 2) with rfl | rfl | rfl
  · rw [nI_0, if_pos rfl]
    simp only [s95_0, s95_1, s95_4, s95_5, s95_7, s95_8, s95_11, s95_12, s95_13, s95_16, s95_17, s95_19, s95_20, s95_22, s95_23, s95_26, s95_27, s95_29, s95_30, okF, okA, mcC_o, mcF_o, mcT_i, mcT_l, mcT_z, mcT_q, mcN_i, mcN_l, mcN_z, mcN_q, mcI_i, mcI_z, mcL_l, mcQ_q, hg_hp, hp_hp, List.getD_cons_zero, List.getD_cons_succ, List.set_cons_zero, List.set_cons_succ, List.length_cons, List.length_nil, Nat.reduceAdd, Nat.reduceLT, Nat.reduceEqDiff, Nat.lt_add_one, decide_true, decide_false, Bool.and_true, Bool.true_and, Bool.and_false, Bool.false_and, Bool.false_eq_true, if_true, if_false, ↓reduceIte, Option.bind_some, Option.bind_none, kont_v, kont_n, h100, d1]
  · rw [← nl_1, if_neg (by decide), if_pos rfl]
    simp only [s95_0, s95_1, s95_4, s95_5, s95_7, s95_8, s95_11, s95_12, s95_13, s95_16, s95_17, s95_19, s95_20, s95_22, s95_23, s95_26, s95_27, s95_29, s95_30, okF, okA, mcC_o, mcF_o, mcT_i, mcT_l, mcT_z, mcT_q, mcN_i, mcN_l, mcN_z, mcN_q, mcI_i, mcI_z, mcL_l, mcQ_q, hg_hp, hp_hp, List.getD_cons_zero, List.getD_cons_succ, List.set_cons_zero, List.set_cons_succ, List.length_cons, List.length_nil, Nat.reduceAdd, Nat.reduceLT, Nat.reduceEqDiff, Nat.lt_add_one, decide_true, decide_false, Bool.and_true, Bool.true_and, Bool.and_false, Bool.false_and, Bool.false_eq_true, if_true, if_false, ↓reduceIte, Option.bind_some, Option.bind_none, kont_v, kont_n, h10, d2, d4, one0, eq_self]
  · rw [← nl_2, if_neg (by decide), if_neg (by decide)]
    simp only [s95_0, s95_1, s95_4, s95_5, s95_7, s95_8, s95_11, s95_12, s95_13, s95_16, s95_17, s95_19, s95_20, s95_22, s95_23, s95_26, s95_27, s95_29, s95_30, okF, okA, mcC_o, mcF_o, mcT_i, mcT_l, mcT_z, mcT_q, mcN_i, mcN_l, mcN_z, mcN_q, mcI_i, mcI_z, mcL_l, mcQ_q, hg_hp, hp_hp, List.getD_cons_zero, List.getD_cons_succ, List.set_cons_zero, List.set_cons_succ, List.length_cons, List.length_nil, Nat.reduceAdd, Nat.reduceLT, Nat.reduceEqDiff, Nat.lt_add_one, decide_true, decide_false, Bool.and_true, Bool.true_and, Bool.and_false, Bool.false_and, Bool.false_eq_true, if_true, if_false, ↓reduceIte, Option.bind_some, Option.bind_none, kont_v, kont_n, h10, d2, d3, n20, n21]
theorem c_rl_loop {B : MH} {m till : Nat} {b : Int32} {a1 a4 a5 : Value} (hm : m ≤ 15) (ht : till ≤ 45) : ∀ (d i : Nat) (s : Nat × Nat), i + d = m → s.1 ≤ till → s.2 ≤ till → ∃ z, ev X 94 70 [.ref 51, a1, .int (nI s.1), .int (nI s.2), a4, a5, .int (nI till), .int (nI m), .int b, .int (nI i)] [] B = ev X 94 114 [.ref 51, a1, .int (nI (rlp b till d i s).1), .int (nI (rlp b till d i s).2), a4, a5, .int (nI till), .int (nI m), .int b, z] [] B
  | 0, i, s, hi, h1, h2 => by
    have e : i = m := by omega
    subst e
    have q := nI_nlt (Nat.le_refl i) (by omega)
    refine ⟨.int (nI i), ?_⟩
    rw [s94_70]
    simp only [s94_0, s94_1, s94_2, s94_3, s94_4, s94_5, s94_9, s94_11, s94_14, s94_15, s94_18, s94_20, s94_20_r1, s94_20_r2, s94_20_r3, s94_21, s94_24, s94_25, s94_26, s94_29, s94_31, s94_31_r1, s94_31_r2, s94_31_r3, s94_32, s94_33, s94_35, s94_36, s94_38, s94_39, s94_40, s94_41, s94_43, s94_44, s94_47, s94_49, s94_50, s94_53, s94_55, s94_56, s94_59, s94_61, s94_62, s94_65, s94_67, s94_68, s94_72, s94_74, s94_77, s94_78, s94_80, s94_83, s94_84, s94_86, s94_89, s94_91, s94_93, s94_94, s94_95, s94_96, s94_99, s94_102, s94_105, s94_108, s94_111, s94_115, s94_118, s94_119, s94_121, s94_122, s94_123, s94_124, s94_125, s94_128, s94_129, s94_131, s94_132, s94_133, s94_134, s94_135, s94_136, s94_139, s94_142, s94_143, s94_144, s94_145, okF, okA, mcC_o, mcF_o, mcT_i, mcT_l, mcT_z, mcT_q, mcN_i, mcN_l, mcN_z, mcN_q, mcI_i, mcI_z, mcL_l, mcQ_q, hg_hp, hp_hp, List.getD_cons_zero, List.getD_cons_succ, List.set_cons_zero, List.set_cons_succ, List.length_cons, List.length_nil, Nat.reduceAdd, Nat.reduceLT, Nat.reduceEqDiff, Nat.lt_add_one, decide_true, decide_false, Bool.and_true, Bool.true_and, Bool.and_false, Bool.false_and, Bool.false_eq_true, if_true, if_false, ↓reduceIte, Option.bind_some, Option.bind_none, kont_v, kont_n, q, rlp]
  | d + 1, i, s, hi, h1, h2 => by
    have q := nI_lt (show i < m by omega) (by omega)
    rw [s94_70]
    simp only [rlp]
    by_cases c1 : s.1 < till
    · have k1 := nI_lt c1 (by omega)
      by_cases c2 : s.2 < till
      · have k2 := nI_lt c2 (by omega)
        rw [if_pos ⟨c1, c2⟩]
        by_cases c3 : b >>> (nI i &&& 31) &&& 1 = 0
        · obtain ⟨z, ih⟩ := c_rl_loop (B := B) (b := b) (a1 := a1) (a4 := a4) (a5 := a5) hm ht d (i + 1) (s.1 + 1, s.2) (by omega) c1 h2
          refine ⟨z, ?_⟩
          rw [if_pos c3, ← ih]
          simp only [s94_0, s94_1, s94_2, s94_3, s94_4, s94_5, s94_9, s94_11, s94_14, s94_15, s94_18, s94_20, s94_20_r1, s94_20_r2, s94_20_r3, s94_21, s94_24, s94_25, s94_26, s94_29, s94_31, s94_31_r1, s94_31_r2, s94_31_r3, s94_32, s94_33, s94_35, s94_36, s94_38, s94_39, s94_40, s94_41, s94_43, s94_44, s94_47, s94_49, s94_50, s94_53, s94_55, s94_56, s94_59, s94_61, s94_62, s94_65, s94_67, s94_68, s94_72, s94_74, s94_77, s94_78, s94_80, s94_83, s94_84, s94_86, s94_89, s94_91, s94_93, s94_94, s94_95, s94_96, s94_99, s94_102, s94_105, s94_108, s94_111, s94_115, s94_118, s94_119, s94_121, s94_122, s94_123, s94_124, s94_125, s94_128, s94_129, s94_131, s94_132, s94_133, s94_134, s94_135, s94_136, s94_139, s94_142, s94_143, s94_144, s94_145, okF, okA, mcC_o, mcF_o, mcT_i, mcT_l, mcT_z, mcT_q, mcN_i, mcN_l, mcN_z, mcN_q, mcI_i, mcI_z, mcL_l, mcQ_q, hg_hp, hp_hp, List.getD_cons_zero, List.getD_cons_succ, List.set_cons_zero, List.set_cons_succ, List.length_cons, List.length_nil, Nat.reduceAdd, Nat.reduceLT, Nat.reduceEqDiff, Nat.lt_add_one, decide_true, decide_false, Bool.and_true, Bool.true_and, Bool.and_false, Bool.false_and, Bool.false_eq_true, if_true, if_false, ↓reduceIte, Option.bind_some, Option.bind_none, kont_v, kont_n, q, k1, k2, c3, nI_1]
        · obtain ⟨z, ih⟩ := c_rl_loop (B := B) (b := b) (a1 := a1) (a4 := a4) (a5 := a5) hm ht d (i + 1) (s.1, s.2 + 1) (by omega) h1 c2
          refine ⟨z, ?_⟩
          rw [if_neg c3, ← ih]
          simp only [s94_0, s94_1, s94_2, s94_3, s94_4, s94_5, s94_9, s94_11, s94_14, s94_15, s94_18, s94_20, s94_20_r1, s94_20_r2, s94_20_r3, s94_21, s94_24, s94_25, s94_26, s94_29, s94_31, s94_31_r1, s94_31_r2, s94_31_r3, s94_32, s94_33, s94_35, s94_36, s94_38, s94_39, s94_40, s94_41, s94_43, s94_44, s94_47, s94_49, s94_50, s94_53, s94_55, s94_56, s94_59, s94_61, s94_62, s94_65, s94_67, s94_68, s94_72, s94_74, s94_77, s94_78, s94_80, s94_83, s94_84, s94_86, s94_89, s94_91, s94_93, s94_94, s94_95, s94_96, s94_99, s94_102, s94_105, s94_108, s94_111, s94_115, s94_118, s94_119, s94_121, s94_122, s94_123, s94_124, s94_125, s94_128, s94_129, s94_131, s94_132, s94_133, s94_134, s94_135, s94_136, s94_139, s94_142, s94_143, s94_144, s94_145, okF, okA, mcC_o, mcF_o, mcT_i, mcT_l, mcT_z, mcT_q, mcN_i, mcN_l, mcN_z, mcN_q, mcI_i, mcI_z, mcL_l, mcQ_q, hg_hp, hp_hp, List.getD_cons_zero, List.getD_cons_succ, List.set_cons_zero, List.set_cons_succ, List.length_cons, List.length_nil, Nat.reduceAdd, Nat.reduceLT, Nat.reduceEqDiff, Nat.lt_add_one, decide_true, decide_false, Bool.and_true, Bool.true_and, Bool.and_false, Bool.false_and, Bool.false_eq_true, if_true, if_false, ↓reduceIte, Option.bind_some, Option.bind_none, kont_v, kont_n, q, k1, k2, c3, nI_1]
      · have k2 := nI_nlt (show till ≤ s.2 by omega) (by omega)
        refine ⟨.int (nI i), ?_⟩
        rw [if_neg (fun z => c2 z.2)]
        simp only [s94_0, s94_1, s94_2, s94_3, s94_4, s94_5, s94_9, s94_11, s94_14, s94_15, s94_18, s94_20, s94_20_r1, s94_20_r2, s94_20_r3, s94_21, s94_24, s94_25, s94_26, s94_29, s94_31, s94_31_r1, s94_31_r2, s94_31_r3, s94_32, s94_33, s94_35, s94_36, s94_38, s94_39, s94_40, s94_41, s94_43, s94_44, s94_47, s94_49, s94_50, s94_53, s94_55, s94_56, s94_59, s94_61, s94_62, s94_65, s94_67, s94_68, s94_72, s94_74, s94_77, s94_78, s94_80, s94_83, s94_84, s94_86, s94_89, s94_91, s94_93, s94_94, s94_95, s94_96, s94_99, s94_102, s94_105, s94_108, s94_111, s94_115, s94_118, s94_119, s94_121, s94_122, s94_123, s94_124, s94_125, s94_128, s94_129, s94_131, s94_132, s94_133, s94_134, s94_135, s94_136, s94_139, s94_142, s94_143, s94_144, s94_145, okF, okA, mcC_o, mcF_o, mcT_i, mcT_l, mcT_z, mcT_q, mcN_i, mcN_l, mcN_z, mcN_q, mcI_i, mcI_z, mcL_l, mcQ_q, hg_hp, hp_hp, List.getD_cons_zero, List.getD_cons_succ, List.set_cons_zero, List.set_cons_succ, List.length_cons, List.length_nil, Nat.reduceAdd, Nat.reduceLT, Nat.reduceEqDiff, Nat.lt_add_one, decide_true, decide_false, Bool.and_true, Bool.true_and, Bool.and_false, Bool.false_and, Bool.false_eq_true, if_true, if_false, ↓reduceIte, Option.bind_some, Option.bind_none, kont_v, kont_n, q, k1, k2]
    · have k1 := nI_nlt (show till ≤ s.1 by omega) (by omega)
      refine ⟨.int (nI i), ?_⟩
      rw [if_neg (fun z => c1 z.1)]
      simp only [s94_0, s94_1, s94_2, s94_3, s94_4, s94_5, s94_9, s94_11, s94_14, s94_15, s94_18, s94_20, s94_20_r1, s94_20_r2, s94_20_r3, s94_21, s94_24, s94_25, s94_26, s94_29, s94_31, s94_31_r1, s94_31_r2, s94_31_r3, s94_32, s94_33, s94_35, s94_36, s94_38, s94_39, s94_40, s94_41, s94_43, s94_44, s94_47, s94_49, s94_50, s94_53, s94_55, s94_56, s94_59, s94_61, s94_62, s94_65, s94_67, s94_68, s94_72, s94_74, s94_77, s94_78, s94_80, s94_83, s94_84, s94_86, s94_89, s94_91, s94_93, s94_94, s94_95, s94_96, s94_99, s94_102, s94_105, s94_108, s94_111, s94_115, s94_118, s94_119, s94_121, s94_122, s94_123, s94_124, s94_125, s94_128, s94_129, s94_131, s94_132, s94_133, s94_134, s94_135, s94_136, s94_139, s94_142, s94_143, s94_144, s94_145, okF, okA, mcC_o, mcF_o, mcT_i, mcT_l, mcT_z, mcT_q, mcN_i, mcN_l, mcN_z, mcN_q, mcI_i, mcI_z, mcL_l, mcQ_q, hg_hp, hp_hp, List.getD_cons_zero, List.getD_cons_succ, List.set_cons_zero, List.set_cons_succ, List.length_cons, List.length_nil, Nat.reduceAdd, Nat.reduceLT, Nat.reduceEqDiff, Nat.lt_add_one, decide_true, decide_false, Bool.and_true, Bool.true_and, Bool.and_false, Bool.false_and, Bool.false_eq_true, if_true, if_false, ↓reduceIte, Option.bind_some, Option.bind_none, kont_v, kont_n, q, k1]
/-- pairs as they may be told -/
def PRS (f : Nat → Int32) : Prop := ∀ c, c < 9 → ∃ m, m ≤ 15 ∧ f (c * 2) = nI m
theorem c_mg_loop {B : MH} {k : Nat} (L : LG B 1 D) (h51 : hg B 51 = oB 9 [.ref 18, .ref 52]) (hP : PRS (D.2.1 8)) (hk : k ∈ ORL) : ∀ (d u : Nat) (A : Nat → Int32) (a5 a6 a7 a8 a9 : Value), u + d = 9 → ∃ A', ev X 94 7 [.ref 51, .int (nI k), .int (nI (stt (D.2.1 8) k u).1), .int (nI (stt (D.2.1 8) k u).2), .int (nI u), a5, a6, a7, a8, a9] [] (hp B 52 (iA 18 A)) = some (some (.int (nI (stt (D.2.1 8) k 9).1 - nI (stt (D.2.1 8) k 9).2)), (hp B 52 (iA 18 A'))) ∧ (∀ j, j < 2 * u → A' j = A j) ∧ ∀ v, u ≤ v → v < 9 → A' (2 * v) = nI (stt (D.2.1 8) k (v + 1)).1 ∧ A' (2 * v + 1) = nI (stt (D.2.1 8) k (v + 1)).2
  | 0, u, A, a5, a6, a7, a8, a9, hu => by
    have e : u = 9 := by omega
    subst e
    have q : ¬ nI 9 < 9 := by decide
    refine ⟨A, ?_, fun _ _ => rfl, fun v h1 h2 => absurd h2 (by omega)⟩
    rw [s94_7]
    simp only [s94_0, s94_1, s94_2, s94_3, s94_4, s94_5, s94_9, s94_11, s94_14, s94_15, s94_18, s94_20, s94_20_r1, s94_20_r2, s94_20_r3, s94_21, s94_24, s94_25, s94_26, s94_29, s94_31, s94_31_r1, s94_31_r2, s94_31_r3, s94_32, s94_33, s94_35, s94_36, s94_38, s94_39, s94_40, s94_41, s94_43, s94_44, s94_47, s94_49, s94_50, s94_53, s94_55, s94_56, s94_59, s94_61, s94_62, s94_65, s94_67, s94_68, s94_72, s94_74, s94_77, s94_78, s94_80, s94_83, s94_84, s94_86, s94_89, s94_91, s94_93, s94_94, s94_95, s94_96, s94_99, s94_102, s94_105, s94_108, s94_111, s94_114, s94_115, s94_118, s94_119, s94_121, s94_122, s94_123, s94_124, s94_125, s94_128, s94_129, s94_131, s94_132, s94_133, s94_134, s94_135, s94_136, s94_139, s94_142, s94_143, s94_144, s94_145, okF, okA, mcC_o, mcF_o, mcT_i, mcT_l, mcT_z, mcT_q, mcN_i, mcN_l, mcN_z, mcN_q, mcI_i, mcI_z, mcL_l, mcQ_q, hg_hp, hp_hp, List.getD_cons_zero, List.getD_cons_succ, List.set_cons_zero, List.set_cons_succ, List.length_cons, List.length_nil, Nat.reduceAdd, Nat.reduceLT, Nat.reduceEqDiff, Nat.lt_add_one, decide_true, decide_false, Bool.and_true, Bool.true_and, Bool.and_false, Bool.false_and, Bool.false_eq_true, if_true, if_false, ↓reduceIte, Option.bind_some, Option.bind_none, kont_v, kont_n, q]
  | d + 1, u, A, a5, a6, a7, a8, a9, hu => by
    have q : nI u < 9 := nI_lt (b := 9) (by omega) (by decide)
    obtain ⟨g1, g2, g3, g4⟩ := dig_le k hk u (by omega)
    have hk3 := ORL_lt k hk
    obtain ⟨s1, s2⟩ := stt_le (f8 := D.2.1 8) (k := k) u
    obtain ⟨t1, t2⟩ := stt_le (f8 := D.2.1 8) (k := k) (u + 1)
    obtain ⟨m, hm, em⟩ := hP (rrow k u) g3
    have L' := hp_lg (c := 52) (d := iA 18 A) L (by decide)
    have T := lt8 L'
    have e0 := T.get' (X := X) (r := rrow k u) (q := 0) (q' := 0) rfl rfl g3 (by decide)
    have e1 := T.get' (X := X) (r := rrow k u) (q := 1) (q' := 1) rfl rfl g3 (by decide)
    rw [Nat.add_zero, em] at e0
    have ef := c_fencerAt (X := X) (h := hp B 52 (iA 18 A)) (k := k) (p := FPl u) (by omega) g4
    have r2 := roF2 u (by omega)
    have r3 := roF3 u (by omega)
    have er : dig k (FPl u) * 3 + SPl u = rrow k u := rfl
    obtain ⟨z, lp⟩ := c_rl_loop (X := X) (B := hp B 52 (iA 18 A)) (m := m) (till := 5 * (u + 1)) (b := D.2.1 8 (rrow k u * 2 + 1)) (a1 := .int (nI k)) (a4 := .int (nI u)) (a5 := .int (nI (rrow k u))) hm (by omega) m 0 (stt (D.2.1 8) k u) (by omega) (by omega) (by omega)
    rw [nI_0] at lp
    have es : stt (D.2.1 8) k (u + 1) = rlp (D.2.1 8 (rrow k u * 2 + 1)) (5 * (u + 1)) m 0 (stt (D.2.1 8) k u) := by
      show rlp _ _ (fnn _) 0 _ = _
      unfold fnn
      rw [em, nI_clamp (by omega)]
    rw [← es] at lp
    obtain ⟨A', ih1, ih2, ih3⟩ := c_mg_loop L h51 hP hk d (u + 1) (upd (upd A (2 * u) (nI (stt (D.2.1 8) k (u + 1)).1)) (2 * u + 1) (nI (stt (D.2.1 8) k (u + 1)).2)) (.int (nI (rrow k u))) (.int (nI (5 * (u + 1)))) (.int (nI m)) (.int (D.2.1 8 (rrow k u * 2 + 1))) z (by omega)
    refine ⟨A', ?_, fun j hj => by rw [ih2 j (by omega), upd_ne (by omega), upd_ne (by omega)], fun v h1 h2 => ?_⟩
    · rw [← ih1, s94_7]
      simp (disch := omega) only [s94_0, s94_1, s94_2, s94_3, s94_4, s94_5, s94_9, s94_11, s94_14, s94_15, s94_18, s94_20, s94_20_r1, s94_20_r2, s94_20_r3, s94_21, s94_24, s94_25, s94_26, s94_29, s94_31, s94_31_r1, s94_31_r2, s94_31_r3, s94_32, s94_33, s94_35, s94_36, s94_38, s94_39, s94_40, s94_41, s94_43, s94_44, s94_47, s94_49, s94_50, s94_53, s94_55, s94_56, s94_59, s94_61, s94_62, s94_65, s94_67, s94_68, s94_72, s94_74, s94_77, s94_78, s94_80, s94_83, s94_84, s94_86, s94_89, s94_91, s94_93, s94_94, s94_95, s94_96, s94_99, s94_102, s94_105, s94_108, s94_111, s94_114, s94_115, s94_118, s94_119, s94_121, s94_122, s94_123, s94_124, s94_125, s94_128, s94_129, s94_131, s94_132, s94_133, s94_134, s94_135, s94_136, s94_139, s94_142, s94_143, s94_144, s94_145, okF, okA, mcC_o, mcF_o, mcT_i, mcT_l, mcT_z, mcT_q, mcN_i, mcN_l, mcN_z, mcN_q, mcI_i, mcI_z, mcL_l, mcQ_q, hg_hp, hp_hp, List.getD_cons_zero, List.getD_cons_succ, List.set_cons_zero, List.set_cons_succ, List.length_cons, List.length_nil, Nat.reduceAdd, Nat.reduceLT, Nat.reduceEqDiff, Nat.lt_add_one, decide_true, decide_false, Bool.and_true, Bool.true_and, Bool.and_false, Bool.false_and, Bool.false_eq_true, if_true, if_false, ↓reduceIte, Option.bind_some, Option.bind_none, kont_v, kont_n, q, h51, T.1, nI_clamp, inR_n, r2, r3, ef, nn_3, nI_add, er, e0, e1, nI_1, nm_5]
      rw [lp]
      simp (disch := omega) only [s94_0, s94_1, s94_2, s94_3, s94_4, s94_5, s94_9, s94_11, s94_14, s94_15, s94_18, s94_20, s94_20_r1, s94_20_r2, s94_20_r3, s94_21, s94_24, s94_25, s94_26, s94_29, s94_31, s94_31_r1, s94_31_r2, s94_31_r3, s94_32, s94_33, s94_35, s94_36, s94_38, s94_39, s94_40, s94_41, s94_43, s94_44, s94_47, s94_49, s94_50, s94_53, s94_55, s94_56, s94_59, s94_61, s94_62, s94_65, s94_67, s94_68, s94_72, s94_74, s94_77, s94_78, s94_80, s94_83, s94_84, s94_86, s94_89, s94_91, s94_93, s94_94, s94_95, s94_96, s94_99, s94_102, s94_105, s94_108, s94_111, s94_114, s94_115, s94_118, s94_119, s94_121, s94_122, s94_123, s94_124, s94_125, s94_128, s94_129, s94_131, s94_132, s94_133, s94_134, s94_135, s94_136, s94_139, s94_142, s94_143, s94_144, s94_145, okF, okA, mcC_o, mcF_o, mcT_i, mcT_l, mcT_z, mcT_q, mcN_i, mcN_l, mcN_z, mcN_q, mcI_i, mcI_z, mcL_l, mcQ_q, hg_hp, hp_hp, List.getD_cons_zero, List.getD_cons_succ, List.set_cons_zero, List.set_cons_succ, List.length_cons, List.length_nil, Nat.reduceAdd, Nat.reduceLT, Nat.reduceEqDiff, Nat.lt_add_one, decide_true, decide_false, Bool.and_true, Bool.true_and, Bool.and_false, Bool.false_and, Bool.false_eq_true, if_true, if_false, ↓reduceIte, Option.bind_some, Option.bind_none, kont_v, kont_n, h51, nm_2, nb_1, nI_clamp, inR_n, nI_1]
    · by_cases e : v = u
      · subst e
        exact ⟨by rw [ih2 _ (by omega), upd_ne (by omega), upd_eq], by rw [ih2 _ (by omega), upd_eq]⟩
      · exact ih3 v (by omega) h2
theorem c_marginOf {k : Nat} {A : Nat → Int32} (L : LG h 1 D) (F : FIX h) (hP : PRS (D.2.1 8)) (hk : k ∈ ORL) (h52 : hg h 52 = iA 18 A) : ∃ A', (ev X 94 0 [.ref 51, .int (nI k), .float 0, .float 0, .float 0, .float 0, .float 0, .float 0, .float 0, .float 0] [] (h)) = some (some (.int (nI (stt (D.2.1 8) k 9).1 - nI (stt (D.2.1 8) k 9).2)), (hp h 52 (iA 18 A'))) ∧ ∀ v, v < 9 → A' (2 * v) = nI (stt (D.2.1 8) k (v + 1)).1 ∧ A' (2 * v + 1) = nI (stt (D.2.1 8) k (v + 1)).2 := by
  obtain ⟨A', lp, -, h2⟩ := c_mg_loop (X := X) L F.c51 hP hk 9 0 A (.float 0) (.float 0) (.float 0) (.float 0) (.float 0) (by omega)
  rw [hp_self h52] at lp
  refine ⟨A', ?_, fun v hv => h2 v (by omega) hv⟩
  simp only [s94_0, s94_1, s94_2, s94_3, s94_4, s94_5, s94_9, s94_11, s94_14, s94_15, s94_18, s94_20, s94_20_r1, s94_20_r2, s94_20_r3, s94_21, s94_24, s94_25, s94_26, s94_29, s94_31, s94_31_r1, s94_31_r2, s94_31_r3, s94_32, s94_33, s94_35, s94_36, s94_38, s94_39, s94_40, s94_41, s94_43, s94_44, s94_47, s94_49, s94_50, s94_53, s94_55, s94_56, s94_59, s94_61, s94_62, s94_65, s94_67, s94_68, s94_72, s94_74, s94_77, s94_78, s94_80, s94_83, s94_84, s94_86, s94_89, s94_91, s94_93, s94_94, s94_95, s94_96, s94_99, s94_102, s94_105, s94_108, s94_111, s94_114, s94_115, s94_118, s94_119, s94_121, s94_122, s94_123, s94_124, s94_125, s94_128, s94_129, s94_131, s94_132, s94_133, s94_134, s94_135, s94_136, s94_139, s94_142, s94_143, s94_144, s94_145, okF, okA, mcC_o, mcF_o, mcT_i, mcT_l, mcT_z, mcT_q, mcN_i, mcN_l, mcN_z, mcN_q, mcI_i, mcI_z, mcL_l, mcQ_q, hg_hp, hp_hp, List.getD_cons_zero, List.getD_cons_succ, List.set_cons_zero, List.set_cons_succ, List.length_cons, List.length_nil, Nat.reduceAdd, Nat.reduceLT, Nat.reduceEqDiff, Nat.lt_add_one, decide_true, decide_false, Bool.and_true, Bool.true_and, Bool.and_false, Bool.false_and, Bool.false_eq_true, if_true, if_false, ↓reduceIte, Option.bind_some, Option.bind_none, kont_v, kont_n]
  exact lp
end RLY

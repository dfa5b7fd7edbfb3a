-- APART 4: the reference's pools
def PWH (B : MH) (Z : Nat → Int32) (bc : Int32) (w v : Nat → Int32) : MH := hp (hp (hp B 55 (oB 12 (MO (Z 0) (Z 1) (Z 2) (Z 3) (Z 4) (Z 5) bc (Z 6) (Z 7)))) 79 (iA 12 w)) 80 (iA 12 v)
section PHS
variable {B : MH} {Z : Nat → Int32} {bc x : Int32} {w v f : Nat → Int32}
theorem PWH_55 : hg (PWH B Z bc w v) 55 = oB 12 (MO (Z 0) (Z 1) (Z 2) (Z 3) (Z 4) (Z 5) bc (Z 6) (Z 7)) := Eq.trans rfl rfl
theorem PWH_56 : hg (PWH B Z bc w v) 56 = hg B 56 := Eq.trans rfl rfl
theorem PWH_77 : hg (PWH B Z bc w v) 77 = hg B 77 := Eq.trans rfl rfl
theorem PWH_79 : hg (PWH B Z bc w v) 79 = iA 12 w := Eq.trans rfl rfl
theorem PWH_80 : hg (PWH B Z bc w v) 80 = iA 12 v := Eq.trans rfl rfl
theorem PWHp_55 : hp (PWH B Z bc w v) 55 (oB 12 (MO (Z 0) (Z 1) (Z 2) (Z 3) (Z 4) (Z 5) x (Z 6) (Z 7))) = PWH B Z x w v := by
  unfold PWH
  rw [hp_sw (by decide : (80 : Nat) ≠ 55), hp_sw (by decide : (79 : Nat) ≠ 55), hp_hp]
theorem PWHp_79 : hp (PWH B Z bc w v) 79 (iA 12 f) = PWH B Z bc f v := by
  unfold PWH
  rw [hp_sw (by decide : (80 : Nat) ≠ 79), hp_hp]
theorem PWHp_80 : hp (PWH B Z bc w v) 80 (iA 12 f) = PWH B Z bc w f := by
  unfold PWH
  rw [hp_hp]
theorem PWH_id {h : MH} (h55 : hg h 55 = oB 12 (MO (Z 0) (Z 1) (Z 2) (Z 3) (Z 4) (Z 5) bc (Z 6) (Z 7))) (h79 : hg h 79 = iA 12 w) (h80 : hg h 80 = iA 12 v) : PWH h Z bc w v = h := by
  unfold PWH
  rw [hp_self h55, hp_self h79, hp_self h80]
theorem PWH_o {k : Nat} (h1 : k ≠ 55) (h2 : k ≠ 79) (h3 : k ≠ 80) : hg (PWH B Z bc w v) k = hg B k := by
  unfold PWH
  rw [hg_hp, if_neg h3, hg_hp, if_neg h2, hg_hp, if_neg h1]
end PHS
section AP4
variable {X : MX} {t : Nat} {h B : MH} {D : LD} {S : Nat → Int32} {Z : Nat → Int32} {bc : Int32} {wa v sq : Nat → Int32} {sd : Nat → Nat} {n : Nat}
theorem m_fr_yes {w : Nat → Nat} {k p : Nat} {a2 : Value} (hk : k < 12) (hp2 : p < 4) (wp : wa k = nI p) (ww : ∀ j, j < k → wa j = nI (w j) ∧ w j < 4) : ∀ (d j : Nat), j + d = k → (∀ i, i < k → j ≤ i → w i ≠ p) → ev X 211 6 [.ref 55, .int (nI k), a2, .int (nI j)] [] (PWH B Z bc wa v) = some (some (.int (1)), (PWH B Z bc wa v)) := by
  intro d
  induction d with
  | zero =>
    intro j e _
    have e : j = k := by omega
    have l := nI_nlt (Nat.le_refl k) (by omega)
    have b1 : ((1 : Int32) &&& 1 = 1) = True := eq_true (by decide)
    rw [e, s211_6]
    simp only [s211_0, s211_1, s211_2, s211_3, s211_4, s211_5, s211_7, s211_8, s211_11, s211_12, s211_15, s211_16, s211_17, s211_18, s211_21, s211_22, s211_23, s211_26, s211_27, s211_28, s211_31, s211_34, s211_35, okF, okA, mcC_o, mcF_o, mcT_i, mcT_l, mcT_z, mcT_q, mcN_i, mcN_l, mcN_z, mcN_q, mcI_i, mcI_z, mcL_l, mcQ_q, hg_hp, hp_hp, List.getD_cons_zero, List.getD_cons_succ, List.set_cons_zero, List.set_cons_succ, List.length_cons, List.length_nil, Nat.reduceAdd, Nat.reduceLT, Nat.reduceEqDiff, Nat.lt_add_one, decide_true, decide_false, Bool.and_true, Bool.true_and, Bool.and_false, Bool.false_and, Bool.false_eq_true, if_true, if_false, ↓reduceIte, Option.bind_some, Option.bind_none, kont_v, kont_n, l, b1]
  | succ d ih =>
    intro j e hn
    have l := nI_lt (show j < k by omega) (by omega)
    have p1 : nI j + 1 = nI (j + 1) := nI_add j 1
    have r1 : inR (nI k) 12 = true := inR_n hk (by decide)
    have c1 : (nI k).toNatClampNeg = k := nI_clamp (by omega)
    have r2 : inR (nI j) 12 = true := inR_n (by omega) (by decide)
    have c2 : (nI j).toNatClampNeg = j := nI_clamp (by omega)
    obtain ⟨w1, w2⟩ := ww j (by omega)
    have ne : (nI (w j) = nI p) = False := eq_false (fun z => hn j (by omega) (by omega) ((nI_eq (by omega) (by omega)).mp z))
    rw [← ih (j + 1) (by omega) (fun i h1 h2 => hn i h1 (by omega)), s211_6]
    simp only [s211_0, s211_1, s211_2, s211_3, s211_4, s211_5, s211_7, s211_8, s211_11, s211_12, s211_15, s211_16, s211_17, s211_18, s211_21, s211_22, s211_23, s211_26, s211_27, s211_28, s211_31, s211_34, s211_35, okF, okA, mcC_o, mcF_o, mcT_i, mcT_l, mcT_z, mcT_q, mcN_i, mcN_l, mcN_z, mcN_q, mcI_i, mcI_z, mcL_l, mcQ_q, hg_hp, hp_hp, List.getD_cons_zero, List.getD_cons_succ, List.set_cons_zero, List.set_cons_succ, List.length_cons, List.length_nil, Nat.reduceAdd, Nat.reduceLT, Nat.reduceEqDiff, Nat.lt_add_one, decide_true, decide_false, Bool.and_true, Bool.true_and, Bool.and_false, Bool.false_and, Bool.false_eq_true, if_true, if_false, ↓reduceIte, Option.bind_some, Option.bind_none, kont_v, kont_n, l, p1, PWH_55, PWH_79, MO_len, MO_29, r1, c1, r2, c2, w1, wp, ne]
theorem m_fr_no {w : Nat → Nat} {k p : Nat} {a2 : Value} (hk : k < 12) (hp2 : p < 4) (wp : wa k = nI p) (ww : ∀ j, j < k → wa j = nI (w j) ∧ w j < 4) : ∀ (d j : Nat), j + d = k → (∃ i, i < k ∧ j ≤ i ∧ w i = p) → ev X 211 6 [.ref 55, .int (nI k), a2, .int (nI j)] [] (PWH B Z bc wa v) = some (some (.int (0)), (PWH B Z bc wa v)) := by
  intro d
  induction d with
  | zero =>
    rintro j e ⟨i, h1, h2, -⟩
    omega
  | succ d ih =>
    rintro j e ⟨i, h1, h2, h3⟩
    have l := nI_lt (show j < k by omega) (by omega)
    have p1 : nI j + 1 = nI (j + 1) := nI_add j 1
    have r1 : inR (nI k) 12 = true := inR_n hk (by decide)
    have c1 : (nI k).toNatClampNeg = k := nI_clamp (by omega)
    have r2 : inR (nI j) 12 = true := inR_n (by omega) (by decide)
    have c2 : (nI j).toNatClampNeg = j := nI_clamp (by omega)
    have b0 : ((0 : Int32) &&& 1 = 0) = True := eq_true (by decide)
    obtain ⟨w1, w2⟩ := ww j (by omega)
    by_cases q : w j = p
    · have eq : (nI (w j) = nI p) = True := eq_true (by rw [q])
      rw [s211_6]
      simp only [s211_0, s211_1, s211_2, s211_3, s211_4, s211_5, s211_7, s211_8, s211_11, s211_12, s211_15, s211_16, s211_17, s211_18, s211_21, s211_22, s211_23, s211_26, s211_27, s211_28, s211_31, s211_34, s211_35, okF, okA, mcC_o, mcF_o, mcT_i, mcT_l, mcT_z, mcT_q, mcN_i, mcN_l, mcN_z, mcN_q, mcI_i, mcI_z, mcL_l, mcQ_q, hg_hp, hp_hp, List.getD_cons_zero, List.getD_cons_succ, List.set_cons_zero, List.set_cons_succ, List.length_cons, List.length_nil, Nat.reduceAdd, Nat.reduceLT, Nat.reduceEqDiff, Nat.lt_add_one, decide_true, decide_false, Bool.and_true, Bool.true_and, Bool.and_false, Bool.false_and, Bool.false_eq_true, if_true, if_false, ↓reduceIte, Option.bind_some, Option.bind_none, kont_v, kont_n, l, p1, PWH_55, PWH_79, MO_len, MO_29, r1, c1, r2, c2, w1, wp, eq, b0]
    · have ne : (nI (w j) = nI p) = False := eq_false (fun z => q ((nI_eq (by omega) (by omega)).mp z))
      have hi : j + 1 ≤ i := by
        by_cases z : i = j
        · rw [z] at h3; exact absurd h3 q
        · omega
      rw [← ih (j + 1) (by omega) ⟨i, h1, hi, h3⟩, s211_6]
      simp only [s211_0, s211_1, s211_2, s211_3, s211_4, s211_5, s211_7, s211_8, s211_11, s211_12, s211_15, s211_16, s211_17, s211_18, s211_21, s211_22, s211_23, s211_26, s211_27, s211_28, s211_31, s211_34, s211_35, okF, okA, mcC_o, mcF_o, mcT_i, mcT_l, mcT_z, mcT_q, mcN_i, mcN_l, mcN_z, mcN_q, mcI_i, mcI_z, mcL_l, mcQ_q, hg_hp, hp_hp, List.getD_cons_zero, List.getD_cons_succ, List.set_cons_zero, List.set_cons_succ, List.length_cons, List.length_nil, Nat.reduceAdd, Nat.reduceLT, Nat.reduceEqDiff, Nat.lt_add_one, decide_true, decide_false, Bool.and_true, Bool.true_and, Bool.and_false, Bool.false_and, Bool.false_eq_true, if_true, if_false, ↓reduceIte, Option.bind_some, Option.bind_none, kont_v, kont_n, l, p1, PWH_55, PWH_79, MO_len, MO_29, r1, c1, r2, c2, w1, wp, ne]
theorem m_isFree {w : Nat → Nat} {k p P : Nat} (hk : k < 12) (hP1 : 1 ≤ P) (hP : P ≤ 3) (hp2 : p < P) (wp : wa k = nI p) (ww : ∀ j, j < k → wa j = nI (w j) ∧ w j < 4) : (ev X 211 0 [.ref 55, .int (nI k), .int (nI P), .float 0] [] (PWH B Z bc wa v)) = some (some (.int (if okf P k w p = true then 1 else 0)), (PWH B Z bc wa v)) := by
  have ro := rem_ok P (by omega) hP1 k hk
  have z : ¬ nI P = 0 := fun z => by have := (nI_eq (a := P) (b := 0) (by omega) (by omega)).mp z; omega
  have md := Nat.mod_le k P
  unfold okf
  by_cases c : ∀ j, j < k → k - k % P ≤ j → w j ≠ p
  · have lp := m_fr_yes (X := X) (B := B) (Z := Z) (bc := bc) (v := v) (a2 := .int (nI P)) hk (by omega) wp ww (k - (k - k % P)) (k - k % P) (by omega) c
    rw [decide_eq_true c, if_pos rfl]
    simp only [s211_0, s211_1, s211_2, s211_3, s211_4, s211_5, s211_7, s211_8, s211_11, s211_12, s211_15, s211_16, s211_17, s211_18, s211_21, s211_22, s211_23, s211_26, s211_27, s211_28, s211_31, s211_34, s211_35, okF, okA, mcC_o, mcF_o, mcT_i, mcT_l, mcT_z, mcT_q, mcN_i, mcN_l, mcN_z, mcN_q, mcI_i, mcI_z, mcL_l, mcQ_q, hg_hp, hp_hp, List.getD_cons_zero, List.getD_cons_succ, List.set_cons_zero, List.set_cons_succ, List.length_cons, List.length_nil, Nat.reduceAdd, Nat.reduceLT, Nat.reduceEqDiff, Nat.lt_add_one, decide_true, decide_false, Bool.and_true, Bool.true_and, Bool.and_false, Bool.false_and, Bool.false_eq_true, if_true, if_false, ↓reduceIte, Option.bind_some, Option.bind_none, kont_v, kont_n, z, ro, lp]
  · have c' : ∃ i, i < k ∧ k - k % P ≤ i ∧ w i = p := Classical.byContradiction (fun hn => c (fun j h1 h2 h3 => hn ⟨j, h1, h2, h3⟩))
    have lp := m_fr_no (X := X) (B := B) (Z := Z) (bc := bc) (v := v) (a2 := .int (nI P)) hk (by omega) wp ww (k - (k - k % P)) (k - k % P) (by omega) c'
    rw [decide_eq_false c, if_neg (by decide)]
    simp only [s211_0, s211_1, s211_2, s211_3, s211_4, s211_5, s211_7, s211_8, s211_11, s211_12, s211_15, s211_16, s211_17, s211_18, s211_21, s211_22, s211_23, s211_26, s211_27, s211_28, s211_31, s211_34, s211_35, okF, okA, mcC_o, mcF_o, mcT_i, mcT_l, mcT_z, mcT_q, mcN_i, mcN_l, mcN_z, mcN_q, mcI_i, mcI_z, mcL_l, mcQ_q, hg_hp, hp_hp, List.getD_cons_zero, List.getD_cons_succ, List.set_cons_zero, List.set_cons_succ, List.length_cons, List.length_nil, Nat.reduceAdd, Nat.reduceLT, Nat.reduceEqDiff, Nat.lt_add_one, decide_true, decide_false, Bool.and_true, Bool.true_and, Bool.and_false, Bool.false_and, Bool.false_eq_true, if_true, if_false, ↓reduceIte, Option.bind_some, Option.bind_none, kont_v, kont_n, z, ro, lp]
theorem clN_comm (D : LD) (x y : Nat) : clN D x y = clN D y x := by
  unfold clN
  by_cases a : D.2.1 1 (x * 3 + 0) = D.2.1 1 (y * 3 + 0)
  · rw [if_pos a, if_pos a.symm]
  · have a' : ¬ D.2.1 1 (y * 3 + 0) = D.2.1 1 (x * 3 + 0) := fun z => a z.symm
    rw [if_neg a, if_neg a']
    by_cases b : D.2.1 1 (x * 3 + 1) = D.2.1 1 (y * 3 + 1)
    · rw [if_pos b, if_pos b.symm]
    · have b' : ¬ D.2.1 1 (y * 3 + 1) = D.2.1 1 (x * 3 + 1) := fun z => b z.symm
      rw [if_neg b, if_neg b']
theorem m_clash (h0 : ∃ io wl pl sp wa se bc sv bq : Int32, hg h 55 = oB 12 (MO io wl pl sp wa se bc sv bq)) (h56 : hg h 56 = iA 16450 S) (R : REL D S) {x y : Nat} (hx : x < 16) (hy : y < 16) : (ev X 213 0 [.ref 55, .int (nI x), .int (nI y), .float 0, .float 0] [] (h)) = some (some (.int (nI (clN D x y))), (h)) := by
  obtain ⟨io, wl, pl, sp, wa, se, bc, sv, bq, h0⟩ := h0
  have f : ∀ z c, z < 16 → c < 3 → S (70 + 3 * z + c) = D.2.1 1 (z * 3 + c) := fun z c hz hc => R.s (i := 1) (by decide) (by decide) (by show z * 3 + c < 48; omega) (by show _ = 70 + (z * 3 + c); omega)
  have ip : ∀ z : Nat, (70 : Int32) + 3 * nI z = nI (70 + 3 * z) := fun z => by rw [show (3 : Int32) = nI 3 from rfl, nI_mul, show (70 : Int32) = nI 70 from rfl, nI_add]
  have i2 := ip x
  have i3 := ip y
  have q2 : nI (70 + 3 * x) + 1 = nI (70 + 3 * x + 1) := nI_add _ 1
  have q3 : nI (70 + 3 * y) + 1 = nI (70 + 3 * y + 1) := nI_add _ 1
  have ri : ∀ u, u < 1000 → inR (nI u) 16450 = true := fun u hu => inR_n (by omega) (by decide)
  have ci : ∀ u, u < 1000 → (nI u).toNatClampNeg = u := fun u hu => nI_clamp (by omega)
  have r4 := ri (70 + 3 * x) (by omega)
  have r5 := ri (70 + 3 * x + 1) (by omega)
  have r6 := ri (70 + 3 * y) (by omega)
  have r7 := ri (70 + 3 * y + 1) (by omega)
  have d4 := ci (70 + 3 * x) (by omega)
  have d5 := ci (70 + 3 * x + 1) (by omega)
  have d6 := ci (70 + 3 * y) (by omega)
  have d7 := ci (70 + 3 * y + 1) (by omega)
  have v4 : S (70 + 3 * x) = D.2.1 1 (x * 3 + 0) := f x 0 hx (by decide)
  have v5 := f x 1 hx (by decide)
  have v6 : S (70 + 3 * y) = D.2.1 1 (y * 3 + 0) := f y 0 hy (by decide)
  have v7 := f y 1 hy (by decide)
  unfold clN
  by_cases e0 : D.2.1 1 (x * 3 + 0) = D.2.1 1 (y * 3 + 0)
  · have e0' := eq_true e0
    rw [if_pos e0]
    show _ = some (some (Value.int 3), h)
    simp only [s213_0, s213_2, s213_3, s213_4, s213_5, s213_6, s213_7, s213_9, s213_10, s213_11, s213_12, s213_13, s213_15, s213_16, s213_19, s213_20, s213_21, s213_22, s213_25, s213_27, s213_28, s213_31, s213_32, s213_35, s213_36, s213_39, s213_40, s213_41, s213_42, s213_43, s213_44, s213_47, s213_49, s213_50, s213_51, s213_52, s213_55, s213_56, s213_59, s213_60, okF, okA, mcC_o, mcF_o, mcT_i, mcT_l, mcT_z, mcT_q, mcN_i, mcN_l, mcN_z, mcN_q, mcI_i, mcI_z, mcL_l, mcQ_q, hg_hp, hp_hp, List.getD_cons_zero, List.getD_cons_succ, List.set_cons_zero, List.set_cons_succ, List.length_cons, List.length_nil, Nat.reduceAdd, Nat.reduceLT, Nat.reduceEqDiff, Nat.lt_add_one, decide_true, decide_false, Bool.and_true, Bool.true_and, Bool.and_false, Bool.false_and, Bool.false_eq_true, if_true, if_false, ↓reduceIte, Option.bind_some, Option.bind_none, kont_v, kont_n, h0, h56, MO_len, MO_0, i2, i3, q2, q3, r4, r5, r6, r7, d4, d5, d6, d7, v4, v5, v6, v7, e0']
  · have e0' := eq_false e0
    rw [if_neg e0]
    by_cases e1 : D.2.1 1 (x * 3 + 1) = D.2.1 1 (y * 3 + 1)
    · have e1' := eq_true e1
      rw [if_pos e1]
      show _ = some (some (Value.int 1), h)
      simp only [s213_0, s213_2, s213_3, s213_4, s213_5, s213_6, s213_7, s213_9, s213_10, s213_11, s213_12, s213_13, s213_15, s213_16, s213_19, s213_20, s213_21, s213_22, s213_25, s213_27, s213_28, s213_31, s213_32, s213_35, s213_36, s213_39, s213_40, s213_41, s213_42, s213_43, s213_44, s213_47, s213_49, s213_50, s213_51, s213_52, s213_55, s213_56, s213_59, s213_60, okF, okA, mcC_o, mcF_o, mcT_i, mcT_l, mcT_z, mcT_q, mcN_i, mcN_l, mcN_z, mcN_q, mcI_i, mcI_z, mcL_l, mcQ_q, hg_hp, hp_hp, List.getD_cons_zero, List.getD_cons_succ, List.set_cons_zero, List.set_cons_succ, List.length_cons, List.length_nil, Nat.reduceAdd, Nat.reduceLT, Nat.reduceEqDiff, Nat.lt_add_one, decide_true, decide_false, Bool.and_true, Bool.true_and, Bool.and_false, Bool.false_and, Bool.false_eq_true, if_true, if_false, ↓reduceIte, Option.bind_some, Option.bind_none, kont_v, kont_n, h0, h56, MO_len, MO_0, i2, i3, q2, q3, r4, r5, r6, r7, d4, d5, d6, d7, v4, v5, v6, v7, e0', e1']
    · have e1' := eq_false e1
      rw [if_neg e1]
      show _ = some (some (Value.int 0), h)
      simp only [s213_0, s213_2, s213_3, s213_4, s213_5, s213_6, s213_7, s213_9, s213_10, s213_11, s213_12, s213_13, s213_15, s213_16, s213_19, s213_20, s213_21, s213_22, s213_25, s213_27, s213_28, s213_31, s213_32, s213_35, s213_36, s213_39, s213_40, s213_41, s213_42, s213_43, s213_44, s213_47, s213_49, s213_50, s213_51, s213_52, s213_55, s213_56, s213_59, s213_60, okF, okA, mcC_o, mcF_o, mcT_i, mcT_l, mcT_z, mcT_q, mcN_i, mcN_l, mcN_z, mcN_q, mcI_i, mcI_z, mcL_l, mcQ_q, hg_hp, hp_hp, List.getD_cons_zero, List.getD_cons_succ, List.set_cons_zero, List.set_cons_succ, List.length_cons, List.length_nil, Nat.reduceAdd, Nat.reduceLT, Nat.reduceEqDiff, Nat.lt_add_one, decide_true, decide_false, Bool.and_true, Bool.true_and, Bool.and_false, Bool.false_and, Bool.false_eq_true, if_true, if_false, ↓reduceIte, Option.bind_some, Option.bind_none, kont_v, kont_n, h0, h56, MO_len, MO_0, i2, i3, q2, q3, r4, r5, r6, r7, d4, d5, d6, d7, v4, v5, v6, v7, e0', e1']
theorem m_cl_in (h56 : hg B 56 = iA 16450 S) (h77 : hg B 77 = iA 16 sq) (R : REL D S) (hn : n ≤ 12) (hs : ∀ i, i < n → sq i = nI (sd i) ∧ sd i < 16) {w : Nat → Nat} (ww : ∀ j, j < n → wa j = nI (w j) ∧ w j < 4) {k : Nat} (hk : k < n) {q : Nat} : ∀ (d j : Nat), j + d = k → ev X 212 14 [.ref 55, .int (nI (q + cof (fun k j => clN D (sd k) (sd j)) w k (w k) j)), .int (nI k), .int (nI j)] [] (PWH B Z bc wa v) = ev X 212 63 [.ref 55, .int (nI (q + cof (fun k j => clN D (sd k) (sd j)) w k (w k) k)), .int (nI k), .int (nI k)] [] (PWH B Z bc wa v) := by
  intro d
  induction d with
  | zero =>
    intro j e
    have e : j = k := by omega
    have l := nI_nlt (Nat.le_refl k) (by omega)
    rw [e, s212_14]
    simp only [s212_0, s212_1, s212_2, s212_3, s212_5, s212_6, s212_9, s212_12, s212_13, s212_15, s212_16, s212_19, s212_20, s212_21, s212_24, s212_25, s212_26, s212_27, s212_30, s212_31, s212_32, s212_35, s212_36, s212_37, s212_40, s212_41, s212_42, s212_43, s212_46, s212_47, s212_48, s212_51, s212_54, s212_55, s212_56, s212_57, s212_60, s212_66, s212_69, s212_70, okF, okA, mcC_o, mcF_o, mcT_i, mcT_l, mcT_z, mcT_q, mcN_i, mcN_l, mcN_z, mcN_q, mcI_i, mcI_z, mcL_l, mcQ_q, hg_hp, hp_hp, List.getD_cons_zero, List.getD_cons_succ, List.set_cons_zero, List.set_cons_succ, List.length_cons, List.length_nil, Nat.reduceAdd, Nat.reduceLT, Nat.reduceEqDiff, Nat.lt_add_one, decide_true, decide_false, Bool.and_true, Bool.true_and, Bool.and_false, Bool.false_and, Bool.false_eq_true, if_true, if_false, ↓reduceIte, Option.bind_some, Option.bind_none, kont_v, kont_n, l]
  | succ d ih =>
    intro j e
    have l := nI_lt (show j < k by omega) (by omega)
    have p1 : nI j + 1 = nI (j + 1) := nI_add j 1
    have r1 : inR (nI k) 12 = true := inR_n (by omega) (by decide)
    have c1 : (nI k).toNatClampNeg = k := nI_clamp (by omega)
    have r2 : inR (nI j) 12 = true := inR_n (by omega) (by decide)
    have c2 : (nI j).toNatClampNeg = j := nI_clamp (by omega)
    have r3 : inR (nI k) 16 = true := inR_n (by omega) (by decide)
    have r4 : inR (nI j) 16 = true := inR_n (by omega) (by decide)
    obtain ⟨w1, w2⟩ := ww j (by omega)
    obtain ⟨w3, w4⟩ := ww k hk
    obtain ⟨s1, s2⟩ := hs j (by omega)
    obtain ⟨s3, s4⟩ := hs k hk
    have mc := m_clash (X := X) (h := PWH B Z bc wa v) (S := S) (D := D) ⟨_, _, _, _, _, _, _, _, _, PWH_55⟩ (PWH_56.trans h56) R s2 s4
    rw [clN_comm] at mc
    rw [← ih (j + 1) (by omega), cof, s212_14]
    by_cases q : w j = w k
    · have eq : (nI (w j) = nI (w k)) = True := eq_true (by rw [q])
      rw [if_pos q, ← Nat.add_assoc]
      simp only [s212_0, s212_1, s212_2, s212_3, s212_5, s212_6, s212_9, s212_12, s212_13, s212_15, s212_16, s212_19, s212_20, s212_21, s212_24, s212_25, s212_26, s212_27, s212_30, s212_31, s212_32, s212_35, s212_36, s212_37, s212_40, s212_41, s212_42, s212_43, s212_46, s212_47, s212_48, s212_51, s212_54, s212_55, s212_56, s212_57, s212_60, s212_66, s212_69, s212_70, okF, okA, mcC_o, mcF_o, mcT_i, mcT_l, mcT_z, mcT_q, mcN_i, mcN_l, mcN_z, mcN_q, mcI_i, mcI_z, mcL_l, mcQ_q, hg_hp, hp_hp, List.getD_cons_zero, List.getD_cons_succ, List.set_cons_zero, List.set_cons_succ, List.length_cons, List.length_nil, Nat.reduceAdd, Nat.reduceLT, Nat.reduceEqDiff, Nat.lt_add_one, decide_true, decide_false, Bool.and_true, Bool.true_and, Bool.and_false, Bool.false_and, Bool.false_eq_true, if_true, if_false, ↓reduceIte, Option.bind_some, Option.bind_none, kont_v, kont_n, l, p1, PWH_55, PWH_77, h77, PWH_79, MO_len, MO_27, MO_29, r1, c1, r2, c2, r3, r4, w1, w3, s1, s3, eq, mc, nI_add]
    · have ne : (nI (w j) = nI (w k)) = False := eq_false (fun z => q ((nI_eq (by omega) (by omega)).mp z))
      have a0 : ∀ x : Int32, x + 0 = x := Int32.add_zero
      rw [if_neg q, Nat.add_zero]
      simp only [s212_0, s212_1, s212_2, s212_3, s212_5, s212_6, s212_9, s212_12, s212_13, s212_15, s212_16, s212_19, s212_20, s212_21, s212_24, s212_25, s212_26, s212_27, s212_30, s212_31, s212_32, s212_35, s212_36, s212_37, s212_40, s212_41, s212_42, s212_43, s212_46, s212_47, s212_48, s212_51, s212_54, s212_55, s212_56, s212_57, s212_60, s212_66, s212_69, s212_70, okF, okA, mcC_o, mcF_o, mcT_i, mcT_l, mcT_z, mcT_q, mcN_i, mcN_l, mcN_z, mcN_q, mcI_i, mcI_z, mcL_l, mcQ_q, hg_hp, hp_hp, List.getD_cons_zero, List.getD_cons_succ, List.set_cons_zero, List.set_cons_succ, List.length_cons, List.length_nil, Nat.reduceAdd, Nat.reduceLT, Nat.reduceEqDiff, Nat.lt_add_one, decide_true, decide_false, Bool.and_true, Bool.true_and, Bool.and_false, Bool.false_and, Bool.false_eq_true, if_true, if_false, ↓reduceIte, Option.bind_some, Option.bind_none, kont_v, kont_n, l, p1, PWH_55, PWH_79, MO_len, MO_29, r1, c1, r2, c2, w1, w3, ne, a0]
theorem m_cl_out (h56 : hg B 56 = iA 16450 S) (h77 : hg B 77 = iA 16 sq) (z5 : Z 5 = nI n) (R : REL D S) (hn : n ≤ 12) (hs : ∀ i, i < n → sq i = nI (sd i) ∧ sd i < 16) {w : Nat → Nat} (ww : ∀ j, j < n → wa j = nI (w j) ∧ w j < 4) : ∀ (d k : Nat) (a3 : Value), k + d = n → ev X 212 4 [.ref 55, .int (nI (pcs (fun k j => clN D (sd k) (sd j)) w k)), .int (nI k), a3] [] (PWH B Z bc wa v) = some (some (.int (nI (pcs (fun k j => clN D (sd k) (sd j)) w n))), (PWH B Z bc wa v)) := by
  intro d
  induction d with
  | zero =>
    intro k a3 e
    have e : k = n := by omega
    have l := nI_nlt (Nat.le_refl n) (by omega)
    rw [e, s212_4]
    simp only [s212_0, s212_1, s212_2, s212_3, s212_5, s212_6, s212_9, s212_12, s212_13, s212_15, s212_16, s212_19, s212_20, s212_21, s212_24, s212_25, s212_26, s212_27, s212_30, s212_31, s212_32, s212_35, s212_36, s212_37, s212_40, s212_41, s212_42, s212_43, s212_46, s212_47, s212_48, s212_51, s212_54, s212_55, s212_56, s212_57, s212_60, s212_66, s212_69, s212_70, okF, okA, mcC_o, mcF_o, mcT_i, mcT_l, mcT_z, mcT_q, mcN_i, mcN_l, mcN_z, mcN_q, mcI_i, mcI_z, mcL_l, mcQ_q, hg_hp, hp_hp, List.getD_cons_zero, List.getD_cons_succ, List.set_cons_zero, List.set_cons_succ, List.length_cons, List.length_nil, Nat.reduceAdd, Nat.reduceLT, Nat.reduceEqDiff, Nat.lt_add_one, decide_true, decide_false, Bool.and_true, Bool.true_and, Bool.and_false, Bool.false_and, Bool.false_eq_true, if_true, if_false, ↓reduceIte, Option.bind_some, Option.bind_none, kont_v, kont_n, PWH_55, MO_len, MO_26, z5, l]
  | succ d ih =>
    intro k a3 e
    have l := nI_lt (show k < n by omega) (by omega)
    have p1 : nI k + 1 = nI (k + 1) := nI_add k 1
    have inn := m_cl_in (X := X) (B := B) (Z := Z) (bc := bc) (v := v) h56 h77 R hn hs ww (show k < n by omega) (q := pcs (fun k j => clN D (sd k) (sd j)) w k) k 0 (by omega)
    rw [show cof (fun k j => clN D (sd k) (sd j)) w k (w k) 0 = 0 from rfl, Nat.add_zero, nI_0] at inn
    rw [← ih (k + 1) (.int (nI k)) (by omega), pcs, s212_4]
    simp only [s212_0, s212_1, s212_2, s212_3, s212_5, s212_6, s212_9, s212_12, s212_13, s212_15, s212_16, s212_19, s212_20, s212_21, s212_24, s212_25, s212_26, s212_27, s212_30, s212_31, s212_32, s212_35, s212_36, s212_37, s212_40, s212_41, s212_42, s212_43, s212_46, s212_47, s212_48, s212_51, s212_54, s212_55, s212_56, s212_57, s212_60, s212_63, s212_66, s212_69, s212_70, okF, okA, mcC_o, mcF_o, mcT_i, mcT_l, mcT_z, mcT_q, mcN_i, mcN_l, mcN_z, mcN_q, mcI_i, mcI_z, mcL_l, mcQ_q, hg_hp, hp_hp, List.getD_cons_zero, List.getD_cons_succ, List.set_cons_zero, List.set_cons_succ, List.length_cons, List.length_nil, Nat.reduceAdd, Nat.reduceLT, Nat.reduceEqDiff, Nat.lt_add_one, decide_true, decide_false, Bool.and_true, Bool.true_and, Bool.and_false, Bool.false_and, Bool.false_eq_true, if_true, if_false, ↓reduceIte, Option.bind_some, Option.bind_none, kont_v, kont_n, PWH_55, MO_len, MO_26, z5, l, inn, p1]
theorem m_clashes (h56 : hg B 56 = iA 16450 S) (h77 : hg B 77 = iA 16 sq) (z5 : Z 5 = nI n) (R : REL D S) (hn : n ≤ 12) (hs : ∀ i, i < n → sq i = nI (sd i) ∧ sd i < 16) {w : Nat → Nat} (ww : ∀ j, j < n → wa j = nI (w j) ∧ w j < 4) : (ev X 212 0 [.ref 55, .float 0, .float 0, .float 0] [] (PWH B Z bc wa v)) = some (some (.int (nI (pcs (fun k j => clN D (sd k) (sd j)) w n))), (PWH B Z bc wa v)) := by
  have lp := m_cl_out (X := X) (B := B) (Z := Z) (bc := bc) (v := v) h56 h77 z5 R hn hs ww n 0 (.float 0) (by omega)
  rw [show pcs (fun k j => clN D (sd k) (sd j)) w 0 = 0 from rfl, nI_0] at lp
  simp only [s212_0, s212_1, s212_2, s212_3, s212_5, s212_6, s212_9, s212_12, s212_13, s212_15, s212_16, s212_19, s212_20, s212_21, s212_24, s212_25, s212_26, s212_27, s212_30, s212_31, s212_32, s212_35, s212_36, s212_37, s212_40, s212_41, s212_42, s212_43, s212_46, s212_47, s212_48, s212_51, s212_54, s212_55, s212_56, s212_57, s212_60, s212_63, s212_66, s212_69, s212_70, okF, okA, mcC_o, mcF_o, mcT_i, mcT_l, mcT_z, mcT_q, mcN_i, mcN_l, mcN_z, mcN_q, mcI_i, mcI_z, mcL_l, mcQ_q, hg_hp, hp_hp, List.getD_cons_zero, List.getD_cons_succ, List.set_cons_zero, List.set_cons_succ, List.length_cons, List.length_nil, Nat.reduceAdd, Nat.reduceLT, Nat.reduceEqDiff, Nat.lt_add_one, decide_true, decide_false, Bool.and_true, Bool.true_and, Bool.and_false, Bool.false_and, Bool.false_eq_true, if_true, if_false, ↓reduceIte, Option.bind_some, Option.bind_none, kont_v, kont_n, lp]
theorem m_ac_lp (z5 : Z 5 = nI n) (hn : n ≤ 12) {a1 a2 a3 : Value} : ∀ (d j : Nat), j + d = n → ev X 210 111 [.ref 55, a1, a2, a3, .int (nI j)] [] (PWH B Z bc wa (cpj wa v j)) = ev X 210 19 [.ref 55, a1, a2, a3, .int (nI n)] [] (PWH B Z bc wa (cpj wa v n)) := by
  intro d
  induction d with
  | zero =>
    intro j e
    have e : j = n := by omega
    have l := nI_nlt (Nat.le_refl n) (by omega)
    rw [e, s210_111]
    simp only [s210_0, s210_1, s210_2, s210_5, s210_6, s210_7, s210_10, s210_11, s210_12, s210_13, s210_16, s210_17, s210_18, s210_20, s210_23, s210_24, s210_27, s210_28, s210_29, s210_30, s210_31, s210_32, s210_33, s210_34, s210_37, s210_38, s210_39, s210_40, s210_43, s210_46, s210_49, s210_50, s210_51, s210_52, s210_55, s210_58, s210_59, s210_60, s210_61, s210_62, s210_65, s210_68, s210_71, s210_72, s210_75, s210_76, s210_77, s210_78, s210_81, s210_82, s210_85, s210_86, s210_89, s210_90, s210_93, s210_94, s210_97, s210_100, s210_101, s210_102, s210_105, s210_108, s210_109, s210_113, s210_114, s210_117, s210_120, s210_121, s210_124, s210_126, s210_127, s210_130, s210_132, s210_133, s210_134, s210_137, s210_140, s210_143, okF, okA, mcC_o, mcF_o, mcT_i, mcT_l, mcT_z, mcT_q, mcN_i, mcN_l, mcN_z, mcN_q, mcI_i, mcI_z, mcL_l, mcQ_q, hg_hp, hp_hp, List.getD_cons_zero, List.getD_cons_succ, List.set_cons_zero, List.set_cons_succ, List.length_cons, List.length_nil, Nat.reduceAdd, Nat.reduceLT, Nat.reduceEqDiff, Nat.lt_add_one, decide_true, decide_false, Bool.and_true, Bool.true_and, Bool.and_false, Bool.false_and, Bool.false_eq_true, if_true, if_false, ↓reduceIte, Option.bind_some, Option.bind_none, kont_v, kont_n, PWH_55, MO_len, MO_26, z5, l]
  | succ d ih =>
    intro j e
    have l := nI_lt (show j < n by omega) (by omega)
    have p1 : nI j + 1 = nI (j + 1) := nI_add j 1
    have r1 : inR (nI j) 12 = true := inR_n (by omega) (by decide)
    have c1 : (nI j).toNatClampNeg = j := nI_clamp (by omega)
    rw [← ih (j + 1) (by omega), s210_111]
    simp only [s210_0, s210_1, s210_2, s210_5, s210_6, s210_7, s210_10, s210_11, s210_12, s210_13, s210_16, s210_17, s210_18, s210_20, s210_23, s210_24, s210_27, s210_28, s210_29, s210_30, s210_31, s210_32, s210_33, s210_34, s210_37, s210_38, s210_39, s210_40, s210_43, s210_46, s210_49, s210_50, s210_51, s210_52, s210_55, s210_58, s210_59, s210_60, s210_61, s210_62, s210_65, s210_68, s210_71, s210_72, s210_75, s210_76, s210_77, s210_78, s210_81, s210_82, s210_85, s210_86, s210_89, s210_90, s210_93, s210_94, s210_97, s210_100, s210_101, s210_102, s210_105, s210_108, s210_109, s210_113, s210_114, s210_117, s210_120, s210_121, s210_124, s210_126, s210_127, s210_130, s210_132, s210_133, s210_134, s210_137, s210_140, s210_143, okF, okA, mcC_o, mcF_o, mcT_i, mcT_l, mcT_z, mcT_q, mcN_i, mcN_l, mcN_z, mcN_q, mcI_i, mcI_z, mcL_l, mcQ_q, hg_hp, hp_hp, List.getD_cons_zero, List.getD_cons_succ, List.set_cons_zero, List.set_cons_succ, List.length_cons, List.length_nil, Nat.reduceAdd, Nat.reduceLT, Nat.reduceEqDiff, Nat.lt_add_one, decide_true, decide_false, Bool.and_true, Bool.true_and, Bool.and_false, Bool.false_and, Bool.false_eq_true, if_true, if_false, ↓reduceIte, Option.bind_some, Option.bind_none, kont_v, kont_n, PWH_55, PWH_79, PWH_80, PWHp_80, MO_len, MO_26, MO_29, MO_30, z5, l, p1, r1, c1, cpj_s]
end AP4

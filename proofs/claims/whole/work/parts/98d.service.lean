-- SERVICE: the reference's referees of an hour
def QH (B : MH) (Z : Nat → Int32) (sv bq : Int32) (a w v : Nat → Int32) : MH := hp (hp (hp (hp B 55 (oB 12 (MO (Z 0) (Z 1) (Z 2) (Z 3) (Z 4) (Z 5) (Z 6) sv bq))) 81 (iA 8 a)) 82 (iA 8 w)) 83 (iA 8 v)
section QHS
variable {B : MH} {Z : Nat → Int32} {sv bq x y : Int32} {a w v f : Nat → Int32}
theorem QH_55 : hg (QH B Z sv bq a w v) 55 = oB 12 (MO (Z 0) (Z 1) (Z 2) (Z 3) (Z 4) (Z 5) (Z 6) sv bq) := Eq.trans rfl rfl
theorem QH_81 : hg (QH B Z sv bq a w v) 81 = iA 8 a := Eq.trans rfl rfl
theorem QH_82 : hg (QH B Z sv bq a w v) 82 = iA 8 w := Eq.trans rfl rfl
theorem QH_83 : hg (QH B Z sv bq a w v) 83 = iA 8 v := Eq.trans rfl rfl
theorem QH_56 : hg (QH B Z sv bq a w v) 56 = hg B 56 := Eq.trans rfl rfl
theorem QHp_55 : hp (QH B Z sv bq a w v) 55 (oB 12 (MO (Z 0) (Z 1) (Z 2) (Z 3) (Z 4) (Z 5) (Z 6) x y)) = QH B Z x y a w v := by
  unfold QH
  rw [hp_sw (by decide : (83 : Nat) ≠ 55), hp_sw (by decide : (82 : Nat) ≠ 55), hp_sw (by decide : (81 : Nat) ≠ 55), hp_hp]
theorem QHp_81 : hp (QH B Z sv bq a w v) 81 (iA 8 f) = QH B Z sv bq f w v := by
  unfold QH
  rw [hp_sw (by decide : (83 : Nat) ≠ 81), hp_sw (by decide : (82 : Nat) ≠ 81), hp_hp]
theorem QHp_82 : hp (QH B Z sv bq a w v) 82 (iA 8 f) = QH B Z sv bq a f v := by
  unfold QH
  rw [hp_sw (by decide : (83 : Nat) ≠ 82), hp_hp]
theorem QHp_83 : hp (QH B Z sv bq a w v) 83 (iA 8 f) = QH B Z sv bq a w f := by
  unfold QH
  rw [hp_hp]
end QHS
theorem REL.ends2 {D : LD} {S : Nat → Int32} (R : REL D S) {b : Nat} (hb : b < D.1 2) : ∃ x y : Nat, x < 16 ∧ y < 16 ∧ D.2.1 2 (b * 17 + 0) = nI x ∧ D.2.1 2 (b * 17 + 1) = nI y ∧ S (850 + 130 * b + 0) = nI x ∧ S (850 + 130 * b + 1) = nI y := by
  obtain ⟨p1, p2, p3, k, n, L, a, b', q1, q2, q3, q4, q5, q6, q7, q8, q9, q10, q11, q12, q13, q14, q15, q16, q17, q18, q19⟩ := R.2.2.2.2 b hb
  exact ⟨a, b', q16, q18, (p1 0 (by decide)).trans q15, (p1 1 (by decide)).trans q17, q15, q17⟩
/-- who may be put to bout k of the hour when w serve before -/
def oks (D : LD) (hb : Nat → Nat) (k : Nat) (w : Nat → Nat) (p : Nat) : Bool := may D (hb k) p && decide (∀ j, j < k → w j ≠ p)
section SRV
variable {X : MX} {t : Nat} {h B : MH} {D : LD} {S : Nat → Int32} {Z : Nat → Int32}
theorem m_ms_yes {sv bq : Int32} {a w v : Nat → Int32} {k p : Nat} {w' : Nat → Nat} {a2 : Value} (hk : k < 8) (hp16 : p < 2 ^ 31) (wp : w k = nI p) (ww : ∀ j, j < k → w j = nI (w' j) ∧ w' j < 2 ^ 31) : ∀ (d j : Nat) (a4 : Value), j + d = k → (∀ i, j ≤ i → i < k → w' i ≠ p) → ev X 218 83 [.ref 55, .int (nI k), a2, .int (nI j), a4] [] (QH B Z sv bq a w v) = some (some (.int (1)), (QH B Z sv bq a w v)) := by
  intro d
  induction d with
  | zero =>
    intro j a4 e _
    have e : j = k := by omega
    have l := nI_nlt (Nat.le_refl k) (by omega)
    have b1 : ((1 : Int32) &&& 1 = 1) = True := eq_true (by decide)
    rw [e, s218_83]
    simp only [s218_0, s218_2, s218_3, s218_4, s218_7, s218_8, s218_9, s218_10, s218_11, s218_12, s218_13, s218_15, s218_16, s218_19, s218_21, s218_22, s218_23, s218_24, s218_27, s218_28, s218_29, s218_30, s218_33, s218_34, s218_35, s218_37, s218_38, s218_41, s218_43, s218_44, s218_45, s218_48, s218_49, s218_50, s218_53, s218_54, s218_57, s218_59, s218_60, s218_61, s218_62, s218_63, s218_66, s218_67, s218_68, s218_69, s218_70, s218_73, s218_74, s218_75, s218_78, s218_81, s218_82, s218_84, s218_85, s218_88, s218_89, s218_92, s218_93, s218_94, s218_95, s218_98, s218_99, s218_100, s218_103, s218_104, s218_105, s218_108, s218_111, s218_112, okF, okA, mcC_o, mcF_o, mcT_i, mcT_l, mcT_z, mcT_q, mcN_i, mcN_l, mcN_z, mcN_q, mcI_i, mcI_z, mcL_l, mcQ_q, hg_hp, hp_hp, List.getD_cons_zero, List.getD_cons_succ, List.set_cons_zero, List.set_cons_succ, List.length_cons, List.length_nil, Nat.reduceAdd, Nat.reduceLT, Nat.reduceEqDiff, Nat.lt_add_one, decide_true, decide_false, Bool.and_true, Bool.true_and, Bool.and_false, Bool.false_and, Bool.false_eq_true, if_true, if_false, ↓reduceIte, Option.bind_some, Option.bind_none, kont_v, kont_n, l, b1]
  | succ d ih =>
    intro j a4 e hn
    have l := nI_lt (show j < k by omega) (by omega)
    have p1 : nI j + 1 = nI (j + 1) := nI_add j 1
    have r1 : inR (nI k) 8 = true := inR_n hk (by decide)
    have c1 : (nI k).toNatClampNeg = k := nI_clamp (by omega)
    have r2 : inR (nI j) 8 = true := inR_n (by omega) (by decide)
    have c2 : (nI j).toNatClampNeg = j := nI_clamp (by omega)
    obtain ⟨w1, w2⟩ := ww j (by omega)
    have ne : (nI (w' j) = nI p) = False := eq_false (fun z => hn j (by omega) (by omega) ((nI_eq w2 hp16).mp z))
    rw [← ih (j + 1) a4 (by omega) (fun i h1 h2 => hn i (by omega) h2), s218_83]
    simp only [s218_0, s218_2, s218_3, s218_4, s218_7, s218_8, s218_9, s218_10, s218_11, s218_12, s218_13, s218_15, s218_16, s218_19, s218_21, s218_22, s218_23, s218_24, s218_27, s218_28, s218_29, s218_30, s218_33, s218_34, s218_35, s218_37, s218_38, s218_41, s218_43, s218_44, s218_45, s218_48, s218_49, s218_50, s218_53, s218_54, s218_57, s218_59, s218_60, s218_61, s218_62, s218_63, s218_66, s218_67, s218_68, s218_69, s218_70, s218_73, s218_74, s218_75, s218_78, s218_81, s218_82, s218_84, s218_85, s218_88, s218_89, s218_92, s218_93, s218_94, s218_95, s218_98, s218_99, s218_100, s218_103, s218_104, s218_105, s218_108, s218_111, s218_112, okF, okA, mcC_o, mcF_o, mcT_i, mcT_l, mcT_z, mcT_q, mcN_i, mcN_l, mcN_z, mcN_q, mcI_i, mcI_z, mcL_l, mcQ_q, hg_hp, hp_hp, List.getD_cons_zero, List.getD_cons_succ, List.set_cons_zero, List.set_cons_succ, List.length_cons, List.length_nil, Nat.reduceAdd, Nat.reduceLT, Nat.reduceEqDiff, Nat.lt_add_one, decide_true, decide_false, Bool.and_true, Bool.true_and, Bool.and_false, Bool.false_and, Bool.false_eq_true, if_true, if_false, ↓reduceIte, Option.bind_some, Option.bind_none, kont_v, kont_n, l, p1, QH_55, QH_82, MO_len, MO_34, r1, c1, r2, c2, w1, wp, ne]
theorem m_ms_no {sv bq : Int32} {a w v : Nat → Int32} {k p : Nat} {w' : Nat → Nat} {a2 : Value} (hk : k < 8) (hp16 : p < 2 ^ 31) (wp : w k = nI p) (ww : ∀ j, j < k → w j = nI (w' j) ∧ w' j < 2 ^ 31) : ∀ (d j : Nat) (a4 : Value), j + d = k → (∃ i, j ≤ i ∧ i < k ∧ w' i = p) → ev X 218 83 [.ref 55, .int (nI k), a2, .int (nI j), a4] [] (QH B Z sv bq a w v) = some (some (.int (0)), (QH B Z sv bq a w v)) := by
  intro d
  induction d with
  | zero =>
    rintro j a4 e ⟨i, h1, h2, -⟩
    omega
  | succ d ih =>
    rintro j a4 e ⟨i, h1, h2, h3⟩
    have l := nI_lt (show j < k by omega) (by omega)
    have p1 : nI j + 1 = nI (j + 1) := nI_add j 1
    have r1 : inR (nI k) 8 = true := inR_n hk (by decide)
    have c1 : (nI k).toNatClampNeg = k := nI_clamp (by omega)
    have r2 : inR (nI j) 8 = true := inR_n (by omega) (by decide)
    have c2 : (nI j).toNatClampNeg = j := nI_clamp (by omega)
    have b0 : ((0 : Int32) &&& 1 = 0) = True := eq_true (by decide)
    obtain ⟨w1, w2⟩ := ww j (by omega)
    by_cases q : w' j = p
    · have eq : (nI (w' j) = nI p) = True := eq_true (by rw [q])
      rw [s218_83]
      simp only [s218_0, s218_2, s218_3, s218_4, s218_7, s218_8, s218_9, s218_10, s218_11, s218_12, s218_13, s218_15, s218_16, s218_19, s218_21, s218_22, s218_23, s218_24, s218_27, s218_28, s218_29, s218_30, s218_33, s218_34, s218_35, s218_37, s218_38, s218_41, s218_43, s218_44, s218_45, s218_48, s218_49, s218_50, s218_53, s218_54, s218_57, s218_59, s218_60, s218_61, s218_62, s218_63, s218_66, s218_67, s218_68, s218_69, s218_70, s218_73, s218_74, s218_75, s218_78, s218_81, s218_82, s218_84, s218_85, s218_88, s218_89, s218_92, s218_93, s218_94, s218_95, s218_98, s218_99, s218_100, s218_103, s218_104, s218_105, s218_108, s218_111, s218_112, okF, okA, mcC_o, mcF_o, mcT_i, mcT_l, mcT_z, mcT_q, mcN_i, mcN_l, mcN_z, mcN_q, mcI_i, mcI_z, mcL_l, mcQ_q, hg_hp, hp_hp, List.getD_cons_zero, List.getD_cons_succ, List.set_cons_zero, List.set_cons_succ, List.length_cons, List.length_nil, Nat.reduceAdd, Nat.reduceLT, Nat.reduceEqDiff, Nat.lt_add_one, decide_true, decide_false, Bool.and_true, Bool.true_and, Bool.and_false, Bool.false_and, Bool.false_eq_true, if_true, if_false, ↓reduceIte, Option.bind_some, Option.bind_none, kont_v, kont_n, l, p1, QH_55, QH_82, MO_len, MO_34, r1, c1, r2, c2, w1, wp, eq, b0]
    · have ne : (nI (w' j) = nI p) = False := eq_false (fun z => q ((nI_eq w2 hp16).mp z))
      have hi : j + 1 ≤ i := by
        by_cases z : i = j
        · rw [z] at h3; exact absurd h3 q
        · omega
      rw [← ih (j + 1) a4 (by omega) ⟨i, hi, h2, h3⟩, s218_83]
      simp only [s218_0, s218_2, s218_3, s218_4, s218_7, s218_8, s218_9, s218_10, s218_11, s218_12, s218_13, s218_15, s218_16, s218_19, s218_21, s218_22, s218_23, s218_24, s218_27, s218_28, s218_29, s218_30, s218_33, s218_34, s218_35, s218_37, s218_38, s218_41, s218_43, s218_44, s218_45, s218_48, s218_49, s218_50, s218_53, s218_54, s218_57, s218_59, s218_60, s218_61, s218_62, s218_63, s218_66, s218_67, s218_68, s218_69, s218_70, s218_73, s218_74, s218_75, s218_78, s218_81, s218_82, s218_84, s218_85, s218_88, s218_89, s218_92, s218_93, s218_94, s218_95, s218_98, s218_99, s218_100, s218_103, s218_104, s218_105, s218_108, s218_111, s218_112, okF, okA, mcC_o, mcF_o, mcT_i, mcT_l, mcT_z, mcT_q, mcN_i, mcN_l, mcN_z, mcN_q, mcI_i, mcI_z, mcL_l, mcQ_q, hg_hp, hp_hp, List.getD_cons_zero, List.getD_cons_succ, List.set_cons_zero, List.set_cons_succ, List.length_cons, List.length_nil, Nat.reduceAdd, Nat.reduceLT, Nat.reduceEqDiff, Nat.lt_add_one, decide_true, decide_false, Bool.and_true, Bool.true_and, Bool.and_false, Bool.false_and, Bool.false_eq_true, if_true, if_false, ↓reduceIte, Option.bind_some, Option.bind_none, kont_v, kont_n, l, p1, QH_55, QH_82, MO_len, MO_34, r1, c1, r2, c2, w1, wp, ne]
theorem m_mayServe (h56 : hg B 56 = iA 16450 S) (R : REL D S) (b2 : D.1 2 ≤ 120) {sv bq : Int32} {a w v : Nat → Int32} {hb : Nat → Nat} {k p : Nat} {w' : Nat → Nat} (hk : k < 8) (hp16 : p < 8) (wp : w k = nI p) (ww : ∀ j, j < k → w j = nI (w' j) ∧ w' j < 2 ^ 31) (ea : a k = nI (hb k)) (hbk : hb k < D.1 2) : (ev X 218 0 [.ref 55, .int (nI k), .float 0, .float 0, .float 0] [] (QH B Z sv bq a w v)) = some (some (.int (if oks D hb k w' p = true then 1 else 0)), (QH B Z sv bq a w v)) := by
  obtain ⟨x, y, hx, hy, ex, ey, sx, sy⟩ := R.ends2 hbk
  have f : ∀ z c, z < 16 → c < 3 → S (70 + 3 * z + c) = D.2.1 1 (z * 3 + c) := fun z c hz hc => R.s (i := 1) (by decide) (by decide) (by show z * 3 + c < 48; omega) (by show _ = 70 + (z * 3 + c); omega)
  have g : ∀ c, c < 3 → S (124 + 3 * p + c) = D.2.1 5 (p * 3 + c) := fun c hc => R.s (i := 5) (by decide) (by decide) (by show p * 3 + c < 24; omega) (by show _ = 124 + (p * 3 + c); omega)
  have r1 : inR (nI k) 8 = true := inR_n hk (by decide)
  have c1 : (nI k).toNatClampNeg = k := nI_clamp (by omega)
  have l0 : (0 : Int32) < 2 := by decide
  have l1 : (1 : Int32) < 2 := by decide
  have l2 : ¬ (2 : Int32) < 2 := by decide
  have a0 : (0 : Int32) + 1 = 1 := by decide
  have a1 : (1 : Int32) + 1 = 2 := by decide
  have b0 : ((0 : Int32) &&& 1 = 0) = True := eq_true (by decide)
  obtain ⟨t0, t1, -⟩ := m_toldL (X := X) (h := QH B Z sv bq a w v) QH_55 (QH_56.trans h56) (b := hb k) (by omega)
  rw [sx] at t0
  rw [sy] at t1
  have ip : ∀ (u z : Nat) (u' : Int32), u' = nI u → u' + 3 * nI z = nI (u + 3 * z) := fun u z u' e => by rw [e, show (3 : Int32) = nI 3 from rfl, nI_mul, nI_add]
  have i1 := ip 124 p 124 rfl
  have i2 := ip 70 x 70 rfl
  have i3 := ip 70 y 70 rfl
  have q1 : nI (124 + 3 * p) + 1 = nI (124 + 3 * p + 1) := nI_add _ 1
  have q2 : nI (70 + 3 * x) + 1 = nI (70 + 3 * x + 1) := nI_add _ 1
  have q3 : nI (70 + 3 * y) + 1 = nI (70 + 3 * y + 1) := nI_add _ 1
  have ri : ∀ u, u < 1000 → inR (nI u) 16450 = true := fun u hu => inR_n (by omega) (by decide)
  have ci : ∀ u, u < 1000 → (nI u).toNatClampNeg = u := fun u hu => nI_clamp (by omega)
  have r2 := ri (124 + 3 * p) (by omega)
  have r3 := ri (124 + 3 * p + 1) (by omega)
  have r4 := ri (70 + 3 * x) (by omega)
  have r5 := ri (70 + 3 * x + 1) (by omega)
  have r6 := ri (70 + 3 * y) (by omega)
  have r7 := ri (70 + 3 * y + 1) (by omega)
  have d2 := ci (124 + 3 * p) (by omega)
  have d3 := ci (124 + 3 * p + 1) (by omega)
  have d4 := ci (70 + 3 * x) (by omega)
  have d5 := ci (70 + 3 * x + 1) (by omega)
  have d6 := ci (70 + 3 * y) (by omega)
  have d7 := ci (70 + 3 * y + 1) (by omega)
  have v2 : S (124 + 3 * p) = D.2.1 5 (p * 3 + 0) := g 0 (by decide)
  have v3 := g 1 (by decide)
  have v4 : S (70 + 3 * x) = D.2.1 1 (x * 3 + 0) := f x 0 hx (by decide)
  have v5 := f x 1 hx (by decide)
  have v6 : S (70 + 3 * y) = D.2.1 1 (y * 3 + 0) := f y 0 hy (by decide)
  have v7 := f y 1 hy (by decide)
  have em : may D (hb k) p = (!kin D p x && !kin D p y) := by unfold may; rw [ex, ey, nI_clamp (by omega), nI_clamp (by omega)]
  have ff : ¬ (false : Bool) = true := by decide
  unfold oks
  rw [em]
  by_cases x0 : D.2.1 1 (x * 3 + 0) = D.2.1 5 (p * 3 + 0)
  · have kx : kin D p x = true := by unfold kin; rw [decide_eq_true x0.symm]; rfl
    rw [kx, Bool.not_true, Bool.false_and, Bool.false_and, if_neg ff]
    have x0' := eq_true x0
    simp only [s218_0, s218_2, s218_3, s218_4, s218_7, s218_8, s218_9, s218_10, s218_11, s218_12, s218_13, s218_14, s218_15, s218_16, s218_19, s218_21, s218_22, s218_23, s218_24, s218_27, s218_28, s218_29, s218_30, s218_33, s218_34, s218_35, s218_37, s218_38, s218_41, s218_43, s218_44, s218_45, s218_48, s218_49, s218_50, s218_53, s218_54, s218_57, s218_59, s218_60, s218_61, s218_62, s218_63, s218_66, s218_67, s218_68, s218_69, s218_70, s218_73, s218_74, s218_75, s218_78, s218_81, s218_82, s218_84, s218_85, s218_88, s218_89, s218_92, s218_93, s218_94, s218_95, s218_98, s218_99, s218_100, s218_103, s218_104, s218_105, s218_108, s218_111, s218_112, okF, okA, mcC_o, mcF_o, mcT_i, mcT_l, mcT_z, mcT_q, mcN_i, mcN_l, mcN_z, mcN_q, mcI_i, mcI_z, mcL_l, mcQ_q, hg_hp, hp_hp, List.getD_cons_zero, List.getD_cons_succ, List.set_cons_zero, List.set_cons_succ, List.length_cons, List.length_nil, Nat.reduceAdd, Nat.reduceLT, Nat.reduceEqDiff, Nat.lt_add_one, decide_true, decide_false, Bool.and_true, Bool.true_and, Bool.and_false, Bool.false_and, Bool.false_eq_true, if_true, if_false, ↓reduceIte, Option.bind_some, Option.bind_none, kont_v, kont_n, QH_55, QH_56, h56, QH_81, QH_82, MO_len, MO_0, MO_33, MO_34, r1, c1, wp, ea, l0, l1, l2, a0, a1, b0, t0, t1, i1, i2, i3, q1, q2, q3, r2, r3, r4, r5, r6, r7, d2, d3, d4, d5, d6, d7, v2, v3, v4, v5, v6, v7, x0']
  have x0' := eq_false x0
  by_cases x1 : D.2.1 1 (x * 3 + 1) = D.2.1 5 (p * 3 + 1)
  · have kx : kin D p x = true := by unfold kin; rw [decide_eq_true x1.symm, Bool.or_true]
    rw [kx, Bool.not_true, Bool.false_and, Bool.false_and, if_neg ff]
    have x1' := eq_true x1
    simp only [s218_0, s218_2, s218_3, s218_4, s218_7, s218_8, s218_9, s218_10, s218_11, s218_12, s218_13, s218_14, s218_15, s218_16, s218_19, s218_21, s218_22, s218_23, s218_24, s218_27, s218_28, s218_29, s218_30, s218_33, s218_34, s218_35, s218_37, s218_38, s218_41, s218_43, s218_44, s218_45, s218_48, s218_49, s218_50, s218_53, s218_54, s218_57, s218_59, s218_60, s218_61, s218_62, s218_63, s218_66, s218_67, s218_68, s218_69, s218_70, s218_73, s218_74, s218_75, s218_78, s218_81, s218_82, s218_84, s218_85, s218_88, s218_89, s218_92, s218_93, s218_94, s218_95, s218_98, s218_99, s218_100, s218_103, s218_104, s218_105, s218_108, s218_111, s218_112, okF, okA, mcC_o, mcF_o, mcT_i, mcT_l, mcT_z, mcT_q, mcN_i, mcN_l, mcN_z, mcN_q, mcI_i, mcI_z, mcL_l, mcQ_q, hg_hp, hp_hp, List.getD_cons_zero, List.getD_cons_succ, List.set_cons_zero, List.set_cons_succ, List.length_cons, List.length_nil, Nat.reduceAdd, Nat.reduceLT, Nat.reduceEqDiff, Nat.lt_add_one, decide_true, decide_false, Bool.and_true, Bool.true_and, Bool.and_false, Bool.false_and, Bool.false_eq_true, if_true, if_false, ↓reduceIte, Option.bind_some, Option.bind_none, kont_v, kont_n, QH_55, QH_56, h56, QH_81, QH_82, MO_len, MO_0, MO_33, MO_34, r1, c1, wp, ea, l0, l1, l2, a0, a1, b0, t0, t1, i1, i2, i3, q1, q2, q3, r2, r3, r4, r5, r6, r7, d2, d3, d4, d5, d6, d7, v2, v3, v4, v5, v6, v7, x0', x1']
  have x1' := eq_false x1
  have kx : kin D p x = false := by unfold kin; rw [decide_eq_false (fun z => x0 z.symm), decide_eq_false (fun z => x1 z.symm)]; rfl
  rw [kx, Bool.not_false, Bool.true_and]
  by_cases y0 : D.2.1 1 (y * 3 + 0) = D.2.1 5 (p * 3 + 0)
  · have ky : kin D p y = true := by unfold kin; rw [decide_eq_true y0.symm]; rfl
    rw [ky, Bool.not_true, Bool.false_and, if_neg ff]
    have y0' := eq_true y0
    simp only [s218_0, s218_2, s218_3, s218_4, s218_7, s218_8, s218_9, s218_10, s218_11, s218_12, s218_13, s218_14, s218_15, s218_16, s218_19, s218_21, s218_22, s218_23, s218_24, s218_27, s218_28, s218_29, s218_30, s218_33, s218_34, s218_35, s218_37, s218_38, s218_41, s218_43, s218_44, s218_45, s218_48, s218_49, s218_50, s218_53, s218_54, s218_57, s218_59, s218_60, s218_61, s218_62, s218_63, s218_66, s218_67, s218_68, s218_69, s218_70, s218_73, s218_74, s218_75, s218_78, s218_81, s218_82, s218_84, s218_85, s218_88, s218_89, s218_92, s218_93, s218_94, s218_95, s218_98, s218_99, s218_100, s218_103, s218_104, s218_105, s218_108, s218_111, s218_112, okF, okA, mcC_o, mcF_o, mcT_i, mcT_l, mcT_z, mcT_q, mcN_i, mcN_l, mcN_z, mcN_q, mcI_i, mcI_z, mcL_l, mcQ_q, hg_hp, hp_hp, List.getD_cons_zero, List.getD_cons_succ, List.set_cons_zero, List.set_cons_succ, List.length_cons, List.length_nil, Nat.reduceAdd, Nat.reduceLT, Nat.reduceEqDiff, Nat.lt_add_one, decide_true, decide_false, Bool.and_true, Bool.true_and, Bool.and_false, Bool.false_and, Bool.false_eq_true, if_true, if_false, ↓reduceIte, Option.bind_some, Option.bind_none, kont_v, kont_n, QH_55, QH_56, h56, QH_81, QH_82, MO_len, MO_0, MO_33, MO_34, r1, c1, wp, ea, l0, l1, l2, a0, a1, b0, t0, t1, i1, i2, i3, q1, q2, q3, r2, r3, r4, r5, r6, r7, d2, d3, d4, d5, d6, d7, v2, v3, v4, v5, v6, v7, x0', x1', y0']
  have y0' := eq_false y0
  by_cases y1 : D.2.1 1 (y * 3 + 1) = D.2.1 5 (p * 3 + 1)
  · have ky : kin D p y = true := by unfold kin; rw [decide_eq_true y1.symm, Bool.or_true]
    rw [ky, Bool.not_true, Bool.false_and, if_neg ff]
    have y1' := eq_true y1
    simp only [s218_0, s218_2, s218_3, s218_4, s218_7, s218_8, s218_9, s218_10, s218_11, s218_12, s218_13, s218_14, s218_15, s218_16, s218_19, s218_21, s218_22, s218_23, s218_24, s218_27, s218_28, s218_29, s218_30, s218_33, s218_34, s218_35, s218_37, s218_38, s218_41, s218_43, s218_44, s218_45, s218_48, s218_49, s218_50, s218_53, s218_54, s218_57, s218_59, s218_60, s218_61, s218_62, s218_63, s218_66, s218_67, s218_68, s218_69, s218_70, s218_73, s218_74, s218_75, s218_78, s218_81, s218_82, s218_84, s218_85, s218_88, s218_89, s218_92, s218_93, s218_94, s218_95, s218_98, s218_99, s218_100, s218_103, s218_104, s218_105, s218_108, s218_111, s218_112, okF, okA, mcC_o, mcF_o, mcT_i, mcT_l, mcT_z, mcT_q, mcN_i, mcN_l, mcN_z, mcN_q, mcI_i, mcI_z, mcL_l, mcQ_q, hg_hp, hp_hp, List.getD_cons_zero, List.getD_cons_succ, List.set_cons_zero, List.set_cons_succ, List.length_cons, List.length_nil, Nat.reduceAdd, Nat.reduceLT, Nat.reduceEqDiff, Nat.lt_add_one, decide_true, decide_false, Bool.and_true, Bool.true_and, Bool.and_false, Bool.false_and, Bool.false_eq_true, if_true, if_false, ↓reduceIte, Option.bind_some, Option.bind_none, kont_v, kont_n, QH_55, QH_56, h56, QH_81, QH_82, MO_len, MO_0, MO_33, MO_34, r1, c1, wp, ea, l0, l1, l2, a0, a1, b0, t0, t1, i1, i2, i3, q1, q2, q3, r2, r3, r4, r5, r6, r7, d2, d3, d4, d5, d6, d7, v2, v3, v4, v5, v6, v7, x0', x1', y0', y1']
  have y1' := eq_false y1
  have ky : kin D p y = false := by unfold kin; rw [decide_eq_false (fun z => y0 z.symm), decide_eq_false (fun z => y1 z.symm)]; rfl
  rw [ky, Bool.not_false, Bool.true_and]
  by_cases fr : ∀ j, j < k → w' j ≠ p
  · have lp := m_ms_yes (X := X) (B := B) (Z := Z) (sv := sv) (bq := bq) (a := a) (v := v) (a2 := .int (nI (124 + 3 * p))) hk (by omega) wp ww k 0 (.int (nI (70 + 3 * y))) (by omega) (fun i _ hi => fr i hi)
    rw [nI_0] at lp
    rw [decide_eq_true fr, if_pos rfl]
    simp only [s218_0, s218_2, s218_3, s218_4, s218_7, s218_8, s218_9, s218_10, s218_11, s218_12, s218_13, s218_14, s218_15, s218_16, s218_19, s218_21, s218_22, s218_23, s218_24, s218_27, s218_28, s218_29, s218_30, s218_33, s218_34, s218_35, s218_37, s218_38, s218_41, s218_43, s218_44, s218_45, s218_48, s218_49, s218_50, s218_53, s218_54, s218_57, s218_59, s218_60, s218_61, s218_62, s218_63, s218_66, s218_67, s218_68, s218_69, s218_70, s218_73, s218_74, s218_75, s218_78, s218_81, s218_82, s218_84, s218_85, s218_88, s218_89, s218_92, s218_93, s218_94, s218_95, s218_98, s218_99, s218_100, s218_103, s218_104, s218_105, s218_108, s218_111, s218_112, okF, okA, mcC_o, mcF_o, mcT_i, mcT_l, mcT_z, mcT_q, mcN_i, mcN_l, mcN_z, mcN_q, mcI_i, mcI_z, mcL_l, mcQ_q, hg_hp, hp_hp, List.getD_cons_zero, List.getD_cons_succ, List.set_cons_zero, List.set_cons_succ, List.length_cons, List.length_nil, Nat.reduceAdd, Nat.reduceLT, Nat.reduceEqDiff, Nat.lt_add_one, decide_true, decide_false, Bool.and_true, Bool.true_and, Bool.and_false, Bool.false_and, Bool.false_eq_true, if_true, if_false, ↓reduceIte, Option.bind_some, Option.bind_none, kont_v, kont_n, QH_55, QH_56, h56, QH_81, QH_82, MO_len, MO_0, MO_33, MO_34, r1, c1, wp, ea, l0, l1, l2, a0, a1, b0, t0, t1, i1, i2, i3, q1, q2, q3, r2, r3, r4, r5, r6, r7, d2, d3, d4, d5, d6, d7, v2, v3, v4, v5, v6, v7, x0', x1', y0', y1', lp]
  · have ex' : ∃ i, 0 ≤ i ∧ i < k ∧ w' i = p := Classical.byContradiction (fun hn => fr (fun j hj z => hn ⟨j, by omega, hj, z⟩))
    have lp := m_ms_no (X := X) (B := B) (Z := Z) (sv := sv) (bq := bq) (a := a) (v := v) (a2 := .int (nI (124 + 3 * p))) hk (by omega) wp ww k 0 (.int (nI (70 + 3 * y))) (by omega) ex'
    rw [nI_0] at lp
    rw [decide_eq_false fr, if_neg ff]
    simp only [s218_0, s218_2, s218_3, s218_4, s218_7, s218_8, s218_9, s218_10, s218_11, s218_12, s218_13, s218_14, s218_15, s218_16, s218_19, s218_21, s218_22, s218_23, s218_24, s218_27, s218_28, s218_29, s218_30, s218_33, s218_34, s218_35, s218_37, s218_38, s218_41, s218_43, s218_44, s218_45, s218_48, s218_49, s218_50, s218_53, s218_54, s218_57, s218_59, s218_60, s218_61, s218_62, s218_63, s218_66, s218_67, s218_68, s218_69, s218_70, s218_73, s218_74, s218_75, s218_78, s218_81, s218_82, s218_84, s218_85, s218_88, s218_89, s218_92, s218_93, s218_94, s218_95, s218_98, s218_99, s218_100, s218_103, s218_104, s218_105, s218_108, s218_111, s218_112, okF, okA, mcC_o, mcF_o, mcT_i, mcT_l, mcT_z, mcT_q, mcN_i, mcN_l, mcN_z, mcN_q, mcI_i, mcI_z, mcL_l, mcQ_q, hg_hp, hp_hp, List.getD_cons_zero, List.getD_cons_succ, List.set_cons_zero, List.set_cons_succ, List.length_cons, List.length_nil, Nat.reduceAdd, Nat.reduceLT, Nat.reduceEqDiff, Nat.lt_add_one, decide_true, decide_false, Bool.and_true, Bool.true_and, Bool.and_false, Bool.false_and, Bool.false_eq_true, if_true, if_false, ↓reduceIte, Option.bind_some, Option.bind_none, kont_v, kont_n, QH_55, QH_56, h56, QH_81, QH_82, MO_len, MO_0, MO_33, MO_34, r1, c1, wp, ea, l0, l1, l2, a0, a1, b0, t0, t1, i1, i2, i3, q1, q2, q3, r2, r3, r4, r5, r6, r7, d2, d3, d4, d5, d6, d7, v2, v3, v4, v5, v6, v7, x0', x1', y0', y1', lp]
/-- the sum of hours of the first k -/
def sm (hs w : Nat → Nat) : Nat → Nat
  | 0 => 0
  | k + 1 => sm hs w k + hs (w k)
theorem m_sum_lp (h56 : hg B 56 = iA 16450 S) {n : Nat} {hs w : Nat → Nat} {bq : Int32} {a wa v : Nat → Int32} {a1 a2 : Value} (hn : n ≤ 8) (hw : ∀ i, i < n → wa i = nI (w i) ∧ w i < 8 ∧ S (124 + 3 * w i + 2) = nI (hs (w i))) : ∀ (d j : Nat), j + d = n → ev X 217 155 [.ref 55, a1, a2, .int (nI (sm hs w j)), .int (nI j)] [] (QH B Z (nI n) bq a wa v) = ev X 217 192 [.ref 55, a1, a2, .int (nI (sm hs w n)), .int (nI n)] [] (QH B Z (nI n) bq a wa v) := by
  intro d
  induction d with
  | zero =>
    intro j e
    have e : j = n := by omega
    have l := nI_nlt (Nat.le_refl n) (by omega)
    rw [e, s217_155]
    simp only [s217_0, s217_1, s217_2, s217_5, s217_6, s217_8, s217_10, s217_13, s217_14, s217_15, s217_16, s217_17, s217_18, s217_19, s217_22, s217_23, s217_26, s217_27, s217_30, s217_31, s217_32, s217_33, s217_34, s217_37, s217_38, s217_39, s217_42, s217_45, s217_48, s217_49, s217_50, s217_53, s217_56, s217_57, s217_60, s217_61, s217_64, s217_65, s217_68, s217_71, s217_72, s217_75, s217_76, s217_77, s217_78, s217_81, s217_82, s217_83, s217_85, s217_88, s217_89, s217_92, s217_93, s217_94, s217_95, s217_96, s217_97, s217_98, s217_99, s217_102, s217_103, s217_104, s217_105, s217_108, s217_109, s217_110, s217_113, s217_116, s217_119, s217_120, s217_121, s217_124, s217_127, s217_128, s217_129, s217_130, s217_131, s217_134, s217_137, s217_140, s217_141, s217_144, s217_145, s217_146, s217_147, s217_150, s217_151, s217_152, s217_153, s217_157, s217_158, s217_161, s217_164, s217_165, s217_166, s217_169, s217_171, s217_172, s217_173, s217_176, s217_178, s217_179, s217_180, s217_181, s217_182, s217_183, s217_184, s217_185, s217_186, s217_189, s217_193, s217_196, s217_197, s217_200, s217_201, s217_202, s217_205, s217_208, s217_209, s217_210, s217_213, s217_214, s217_218, s217_219, s217_222, s217_225, s217_226, s217_229, s217_231, s217_232, s217_235, s217_237, s217_238, s217_239, s217_242, s217_245, s217_248, okF, okA, mcC_o, mcF_o, mcT_i, mcT_l, mcT_z, mcT_q, mcN_i, mcN_l, mcN_z, mcN_q, mcI_i, mcI_z, mcL_l, mcQ_q, hg_hp, hp_hp, List.getD_cons_zero, List.getD_cons_succ, List.set_cons_zero, List.set_cons_succ, List.length_cons, List.length_nil, Nat.reduceAdd, Nat.reduceLT, Nat.reduceEqDiff, Nat.lt_add_one, decide_true, decide_false, Bool.and_true, Bool.true_and, Bool.and_false, Bool.false_and, Bool.false_eq_true, if_true, if_false, ↓reduceIte, Option.bind_some, Option.bind_none, kont_v, kont_n, QH_55, MO_len, MO_32, l]
  | succ d ih =>
    intro j e
    have l := nI_lt (show j < n by omega) (by omega)
    have p1 : nI j + 1 = nI (j + 1) := nI_add j 1
    obtain ⟨w1, w2, w3⟩ := hw j (by omega)
    have r1 : inR (nI j) 8 = true := inR_n (by omega) (by decide)
    have c1 : (nI j).toNatClampNeg = j := nI_clamp (by omega)
    have i1 : (124 : Int32) + 3 * nI (w j) + 2 = nI (124 + 3 * w j + 2) := by rw [show (3 : Int32) = nI 3 from rfl, nI_mul, show (124 : Int32) = nI 124 from rfl, nI_add, show (2 : Int32) = nI 2 from rfl, nI_add]
    have r2 : inR (nI (124 + 3 * w j + 2)) 16450 = true := inR_n (by omega) (by decide)
    have c2 : (nI (124 + 3 * w j + 2)).toNatClampNeg = 124 + 3 * w j + 2 := nI_clamp (by omega)
    rw [← ih (j + 1) (by omega), sm, s217_155]
    simp only [s217_0, s217_1, s217_2, s217_5, s217_6, s217_8, s217_10, s217_13, s217_14, s217_15, s217_16, s217_17, s217_18, s217_19, s217_22, s217_23, s217_26, s217_27, s217_30, s217_31, s217_32, s217_33, s217_34, s217_37, s217_38, s217_39, s217_42, s217_45, s217_48, s217_49, s217_50, s217_53, s217_56, s217_57, s217_60, s217_61, s217_64, s217_65, s217_68, s217_71, s217_72, s217_75, s217_76, s217_77, s217_78, s217_81, s217_82, s217_83, s217_85, s217_88, s217_89, s217_92, s217_93, s217_94, s217_95, s217_96, s217_97, s217_98, s217_99, s217_102, s217_103, s217_104, s217_105, s217_108, s217_109, s217_110, s217_113, s217_116, s217_119, s217_120, s217_121, s217_124, s217_127, s217_128, s217_129, s217_130, s217_131, s217_134, s217_137, s217_140, s217_141, s217_144, s217_145, s217_146, s217_147, s217_150, s217_151, s217_152, s217_153, s217_157, s217_158, s217_161, s217_164, s217_165, s217_166, s217_169, s217_171, s217_172, s217_173, s217_176, s217_178, s217_179, s217_180, s217_181, s217_182, s217_183, s217_184, s217_185, s217_186, s217_189, s217_193, s217_196, s217_197, s217_200, s217_201, s217_202, s217_205, s217_208, s217_209, s217_210, s217_213, s217_214, s217_218, s217_219, s217_222, s217_225, s217_226, s217_229, s217_231, s217_232, s217_235, s217_237, s217_238, s217_239, s217_242, s217_245, s217_248, okF, okA, mcC_o, mcF_o, mcT_i, mcT_l, mcT_z, mcT_q, mcN_i, mcN_l, mcN_z, mcN_q, mcI_i, mcI_z, mcL_l, mcQ_q, hg_hp, hp_hp, List.getD_cons_zero, List.getD_cons_succ, List.set_cons_zero, List.set_cons_succ, List.length_cons, List.length_nil, Nat.reduceAdd, Nat.reduceLT, Nat.reduceEqDiff, Nat.lt_add_one, decide_true, decide_false, Bool.and_true, Bool.true_and, Bool.and_false, Bool.false_and, Bool.false_eq_true, if_true, if_false, ↓reduceIte, Option.bind_some, Option.bind_none, kont_v, kont_n, QH_55, QH_56, h56, QH_82, MO_len, MO_0, MO_32, MO_34, l, p1, r1, c1, w1, i1, r2, c2, w3, nI_add]
/-- a row copied up to j -/
def cpj (wa v : Nat → Int32) (j : Nat) : Nat → Int32 := fun i => if i < j then wa i else v i
theorem cpj_s {wa v : Nat → Int32} {j : Nat} : upd (cpj wa v j) j (wa j) = cpj wa v (j + 1) := by
  funext i
  by_cases e : i = j
  · rw [e, upd_eq]; unfold cpj; rw [if_pos (by omega)]
  · rw [upd_ne e]; unfold cpj
    by_cases q : i < j
    · rw [if_pos q, if_pos (by omega)]
    · rw [if_neg q, if_neg (by omega)]
theorem cpj_0 {wa v : Nat → Int32} : cpj wa v 0 = v := by
  funext i
  unfold cpj
  rw [if_neg (by omega)]
theorem m_cpy_lp {n : Nat} {bq : Int32} {a wa v : Nat → Int32} {a1 a2 a3 : Value} (hn : n ≤ 8) : ∀ (d j : Nat), j + d = n → ev X 217 216 [.ref 55, a1, a2, a3, .int (nI j)] [] (QH B Z (nI n) bq a wa (cpj wa v j)) = ev X 217 84 [.ref 55, a1, a2, a3, .int (nI n)] [] (QH B Z (nI n) bq a wa (cpj wa v n)) := by
  intro d
  induction d with
  | zero =>
    intro j e
    have e : j = n := by omega
    have l := nI_nlt (Nat.le_refl n) (by omega)
    rw [e, s217_216]
    simp only [s217_0, s217_1, s217_2, s217_5, s217_6, s217_8, s217_10, s217_13, s217_14, s217_15, s217_16, s217_17, s217_18, s217_19, s217_22, s217_23, s217_26, s217_27, s217_30, s217_31, s217_32, s217_33, s217_34, s217_37, s217_38, s217_39, s217_42, s217_45, s217_48, s217_49, s217_50, s217_53, s217_56, s217_57, s217_60, s217_61, s217_64, s217_65, s217_68, s217_71, s217_72, s217_75, s217_76, s217_77, s217_78, s217_81, s217_82, s217_83, s217_85, s217_88, s217_89, s217_92, s217_93, s217_94, s217_95, s217_96, s217_97, s217_98, s217_99, s217_102, s217_103, s217_104, s217_105, s217_108, s217_109, s217_110, s217_113, s217_116, s217_119, s217_120, s217_121, s217_124, s217_127, s217_128, s217_129, s217_130, s217_131, s217_134, s217_137, s217_140, s217_141, s217_144, s217_145, s217_146, s217_147, s217_150, s217_151, s217_152, s217_153, s217_157, s217_158, s217_161, s217_164, s217_165, s217_166, s217_169, s217_171, s217_172, s217_173, s217_176, s217_178, s217_179, s217_180, s217_181, s217_182, s217_183, s217_184, s217_185, s217_186, s217_189, s217_193, s217_196, s217_197, s217_200, s217_201, s217_202, s217_205, s217_208, s217_209, s217_210, s217_213, s217_214, s217_218, s217_219, s217_222, s217_225, s217_226, s217_229, s217_231, s217_232, s217_235, s217_237, s217_238, s217_239, s217_242, s217_245, s217_248, okF, okA, mcC_o, mcF_o, mcT_i, mcT_l, mcT_z, mcT_q, mcN_i, mcN_l, mcN_z, mcN_q, mcI_i, mcI_z, mcL_l, mcQ_q, hg_hp, hp_hp, List.getD_cons_zero, List.getD_cons_succ, List.set_cons_zero, List.set_cons_succ, List.length_cons, List.length_nil, Nat.reduceAdd, Nat.reduceLT, Nat.reduceEqDiff, Nat.lt_add_one, decide_true, decide_false, Bool.and_true, Bool.true_and, Bool.and_false, Bool.false_and, Bool.false_eq_true, if_true, if_false, ↓reduceIte, Option.bind_some, Option.bind_none, kont_v, kont_n, QH_55, MO_len, MO_32, l]
  | succ d ih =>
    intro j e
    have l := nI_lt (show j < n by omega) (by omega)
    have p1 : nI j + 1 = nI (j + 1) := nI_add j 1
    have r1 : inR (nI j) 8 = true := inR_n (by omega) (by decide)
    have c1 : (nI j).toNatClampNeg = j := nI_clamp (by omega)
    rw [← ih (j + 1) (by omega), s217_216]
    simp only [s217_0, s217_1, s217_2, s217_5, s217_6, s217_8, s217_10, s217_13, s217_14, s217_15, s217_16, s217_17, s217_18, s217_19, s217_22, s217_23, s217_26, s217_27, s217_30, s217_31, s217_32, s217_33, s217_34, s217_37, s217_38, s217_39, s217_42, s217_45, s217_48, s217_49, s217_50, s217_53, s217_56, s217_57, s217_60, s217_61, s217_64, s217_65, s217_68, s217_71, s217_72, s217_75, s217_76, s217_77, s217_78, s217_81, s217_82, s217_83, s217_85, s217_88, s217_89, s217_92, s217_93, s217_94, s217_95, s217_96, s217_97, s217_98, s217_99, s217_102, s217_103, s217_104, s217_105, s217_108, s217_109, s217_110, s217_113, s217_116, s217_119, s217_120, s217_121, s217_124, s217_127, s217_128, s217_129, s217_130, s217_131, s217_134, s217_137, s217_140, s217_141, s217_144, s217_145, s217_146, s217_147, s217_150, s217_151, s217_152, s217_153, s217_157, s217_158, s217_161, s217_164, s217_165, s217_166, s217_169, s217_171, s217_172, s217_173, s217_176, s217_178, s217_179, s217_180, s217_181, s217_182, s217_183, s217_184, s217_185, s217_186, s217_189, s217_193, s217_196, s217_197, s217_200, s217_201, s217_202, s217_205, s217_208, s217_209, s217_210, s217_213, s217_214, s217_218, s217_219, s217_222, s217_225, s217_226, s217_229, s217_231, s217_232, s217_235, s217_237, s217_238, s217_239, s217_242, s217_245, s217_248, okF, okA, mcC_o, mcF_o, mcT_i, mcT_l, mcT_z, mcT_q, mcN_i, mcN_l, mcN_z, mcN_q, mcI_i, mcI_z, mcL_l, mcQ_q, hg_hp, hp_hp, List.getD_cons_zero, List.getD_cons_succ, List.set_cons_zero, List.set_cons_succ, List.length_cons, List.length_nil, Nat.reduceAdd, Nat.reduceLT, Nat.reduceEqDiff, Nat.lt_add_one, decide_true, decide_false, Bool.and_true, Bool.true_and, Bool.and_false, Bool.false_and, Bool.false_eq_true, if_true, if_false, ↓reduceIte, Option.bind_some, Option.bind_none, kont_v, kont_n, QH_55, QH_82, QH_83, QHp_83, MO_len, MO_32, MO_34, MO_35, l, p1, r1, c1, cpj_s]
theorem m_sv_lp {m : Nat} (hm : m < 2 ^ 30) (h8 : pcn 30 m ≤ 8) {sv bq : Int32} {a0 w v : Nat → Int32} {a3 a4 : Value} : ∀ (d b : Nat), b + d = 30 → ev X 217 7 [.ref 55, .int (nI m), .int (nI b), a3, a4] [] (QH B Z (nI (pcn b m)) bq (gat nI m a0 b) w v) = ev X 217 48 [.ref 55, .int (nI m), .int (nI 30), a3, a4] [] (QH B Z (nI (pcn 30 m)) bq (gat nI m a0 30) w v) := by
  intro d
  induction d with
  | zero =>
    intro b e
    have e : b = 30 := by omega
    have l : ¬ nI 30 < (30 : Int32) := by decide
    rw [e, s217_7]
    simp only [s217_0, s217_1, s217_2, s217_5, s217_6, s217_8, s217_10, s217_13, s217_14, s217_15, s217_16, s217_17, s217_18, s217_19, s217_22, s217_23, s217_26, s217_27, s217_30, s217_31, s217_32, s217_33, s217_34, s217_37, s217_38, s217_39, s217_42, s217_45, s217_49, s217_50, s217_53, s217_56, s217_57, s217_60, s217_61, s217_64, s217_65, s217_68, s217_71, s217_72, s217_75, s217_76, s217_77, s217_78, s217_81, s217_82, s217_83, s217_85, s217_88, s217_89, s217_92, s217_93, s217_94, s217_95, s217_96, s217_97, s217_98, s217_99, s217_102, s217_103, s217_104, s217_105, s217_108, s217_109, s217_110, s217_113, s217_116, s217_119, s217_120, s217_121, s217_124, s217_127, s217_128, s217_129, s217_130, s217_131, s217_134, s217_137, s217_140, s217_141, s217_144, s217_145, s217_146, s217_147, s217_150, s217_151, s217_152, s217_153, s217_157, s217_158, s217_161, s217_164, s217_165, s217_166, s217_169, s217_171, s217_172, s217_173, s217_176, s217_178, s217_179, s217_180, s217_181, s217_182, s217_183, s217_184, s217_185, s217_186, s217_189, s217_193, s217_196, s217_197, s217_200, s217_201, s217_202, s217_205, s217_208, s217_209, s217_210, s217_213, s217_214, s217_218, s217_219, s217_222, s217_225, s217_226, s217_229, s217_231, s217_232, s217_235, s217_237, s217_238, s217_239, s217_242, s217_245, s217_248, okF, okA, mcC_o, mcF_o, mcT_i, mcT_l, mcT_z, mcT_q, mcN_i, mcN_l, mcN_z, mcN_q, mcI_i, mcI_z, mcL_l, mcQ_q, hg_hp, hp_hp, List.getD_cons_zero, List.getD_cons_succ, List.set_cons_zero, List.set_cons_succ, List.length_cons, List.length_nil, Nat.reduceAdd, Nat.reduceLT, Nat.reduceEqDiff, Nat.lt_add_one, decide_true, decide_false, Bool.and_true, Bool.true_and, Bool.and_false, Bool.false_and, Bool.false_eq_true, if_true, if_false, ↓reduceIte, Option.bind_some, Option.bind_none, kont_v, kont_n, l]
  | succ d ih =>
    intro b e
    have l : nI b < (30 : Int32) := nI_lt (b := 30) (by omega) (by decide)
    have p1 : nI b + 1 = nI (b + 1) := nI_add b 1
    have bt := nI_bit2 (m := m) (k := b) (Nat.lt_trans hm (by decide)) (by omega)
    have hle := pcn_mo (m := m) (show b + 1 ≤ 30 by omega)
    have ih := ih (b + 1) (by omega)
    by_cases q1 : bit m b = 1
    · rw [q1] at bt
      rw [pcn_s, q1] at hle
      have one : (nI 1 = (1 : Int32)) = True := eq_true rfl
      have r1 : inR (nI (pcn b m)) 8 = true := inR_n (by omega) (by decide)
      have c1 : (nI (pcn b m)).toNatClampNeg = pcn b m := nI_clamp (by omega)
      have p2 : nI (pcn b m) + 1 = nI (pcn b m + 1) := nI_add _ 1
      rw [pcn_s, gat, if_pos q1, q1] at ih
      rw [← ih, s217_7]
      simp only [s217_0, s217_1, s217_2, s217_5, s217_6, s217_8, s217_10, s217_13, s217_14, s217_15, s217_16, s217_17, s217_18, s217_19, s217_22, s217_23, s217_26, s217_27, s217_30, s217_31, s217_32, s217_33, s217_34, s217_37, s217_38, s217_39, s217_42, s217_45, s217_49, s217_50, s217_53, s217_56, s217_57, s217_60, s217_61, s217_64, s217_65, s217_68, s217_71, s217_72, s217_75, s217_76, s217_77, s217_78, s217_81, s217_82, s217_83, s217_85, s217_88, s217_89, s217_92, s217_93, s217_94, s217_95, s217_96, s217_97, s217_98, s217_99, s217_102, s217_103, s217_104, s217_105, s217_108, s217_109, s217_110, s217_113, s217_116, s217_119, s217_120, s217_121, s217_124, s217_127, s217_128, s217_129, s217_130, s217_131, s217_134, s217_137, s217_140, s217_141, s217_144, s217_145, s217_146, s217_147, s217_150, s217_151, s217_152, s217_153, s217_157, s217_158, s217_161, s217_164, s217_165, s217_166, s217_169, s217_171, s217_172, s217_173, s217_176, s217_178, s217_179, s217_180, s217_181, s217_182, s217_183, s217_184, s217_185, s217_186, s217_189, s217_193, s217_196, s217_197, s217_200, s217_201, s217_202, s217_205, s217_208, s217_209, s217_210, s217_213, s217_214, s217_218, s217_219, s217_222, s217_225, s217_226, s217_229, s217_231, s217_232, s217_235, s217_237, s217_238, s217_239, s217_242, s217_245, s217_248, okF, okA, mcC_o, mcF_o, mcT_i, mcT_l, mcT_z, mcT_q, mcN_i, mcN_l, mcN_z, mcN_q, mcI_i, mcI_z, mcL_l, mcQ_q, hg_hp, hp_hp, List.getD_cons_zero, List.getD_cons_succ, List.set_cons_zero, List.set_cons_succ, List.length_cons, List.length_nil, Nat.reduceAdd, Nat.reduceLT, Nat.reduceEqDiff, Nat.lt_add_one, decide_true, decide_false, Bool.and_true, Bool.true_and, Bool.and_false, Bool.false_and, Bool.false_eq_true, if_true, if_false, ↓reduceIte, Option.bind_some, Option.bind_none, kont_v, kont_n, QH_55, QH_81, QHp_55, QHp_81, MO_len, MO_32, MO_33, MOs_32, l, bt, one, r1, c1, p1, p2]
    · have q0 : bit m b = 0 := by have := bit_01 m b; omega
      rw [q0] at bt
      have one : (nI 0 = (1 : Int32)) = False := eq_false (by decide)
      rw [pcn_s, gat, if_neg q1, q0, show pcn b m + 0 = pcn b m from rfl] at ih
      rw [← ih, s217_7]
      simp only [s217_0, s217_1, s217_2, s217_5, s217_6, s217_8, s217_10, s217_13, s217_14, s217_15, s217_16, s217_17, s217_18, s217_19, s217_22, s217_23, s217_26, s217_27, s217_30, s217_31, s217_32, s217_33, s217_34, s217_37, s217_38, s217_39, s217_42, s217_45, s217_49, s217_50, s217_53, s217_56, s217_57, s217_60, s217_61, s217_64, s217_65, s217_68, s217_71, s217_72, s217_75, s217_76, s217_77, s217_78, s217_81, s217_82, s217_83, s217_85, s217_88, s217_89, s217_92, s217_93, s217_94, s217_95, s217_96, s217_97, s217_98, s217_99, s217_102, s217_103, s217_104, s217_105, s217_108, s217_109, s217_110, s217_113, s217_116, s217_119, s217_120, s217_121, s217_124, s217_127, s217_128, s217_129, s217_130, s217_131, s217_134, s217_137, s217_140, s217_141, s217_144, s217_145, s217_146, s217_147, s217_150, s217_151, s217_152, s217_153, s217_157, s217_158, s217_161, s217_164, s217_165, s217_166, s217_169, s217_171, s217_172, s217_173, s217_176, s217_178, s217_179, s217_180, s217_181, s217_182, s217_183, s217_184, s217_185, s217_186, s217_189, s217_193, s217_196, s217_197, s217_200, s217_201, s217_202, s217_205, s217_208, s217_209, s217_210, s217_213, s217_214, s217_218, s217_219, s217_222, s217_225, s217_226, s217_229, s217_231, s217_232, s217_235, s217_237, s217_238, s217_239, s217_242, s217_245, s217_248, okF, okA, mcC_o, mcF_o, mcT_i, mcT_l, mcT_z, mcT_q, mcN_i, mcN_l, mcN_z, mcN_q, mcI_i, mcI_z, mcL_l, mcQ_q, hg_hp, hp_hp, List.getD_cons_zero, List.getD_cons_succ, List.set_cons_zero, List.set_cons_succ, List.length_cons, List.length_nil, Nat.reduceAdd, Nat.reduceLT, Nat.reduceEqDiff, Nat.lt_add_one, decide_true, decide_false, Bool.and_true, Bool.true_and, Bool.and_false, Bool.false_and, Bool.false_eq_true, if_true, if_false, ↓reduceIte, Option.bind_some, Option.bind_none, kont_v, kont_n, l, bt, one, p1]
end SRV

-- HABITS, part 2: the notes counted, the ways, the call
def nof (f : Nat → Int32) (r : Int32) (n : Nat) : Prop := (f (n * 4) = r ∨ f (n * 4 + 1) = r) ∧ ¬ f (n * 4 + 2) = f (n * 4 + 3)
def nown (f : Nat → Int32) (r : Int32) (n : Nat) : Int32 := if f (n * 4) = r then f (n * 4 + 2) else f (n * 4 + 3)
def noth (f : Nat → Int32) (r : Int32) (n : Nat) : Int32 := if f (n * 4) = r then f (n * 4 + 3) else f (n * 4 + 2)
noncomputable def cD (f : Nat → Int32) (r : Int32) : Nat → Nat
  | 0 => 0
  | n + 1 => cD f r n + @ite _ (nof f r n) (Classical.propDecidable _) 1 0
noncomputable def cQ (f : Nat → Int32) (r : Int32) : Nat → Nat
  | 0 => 0
  | n + 1 => cQ f r n + @ite _ (nof f r n ∧ nown f r n = 0) (Classical.propDecidable _) 1 0
noncomputable def cP (f : Nat → Int32) (r : Int32) : Nat → Nat
  | 0 => 0
  | n + 1 => cP f r n + @ite _ (nof f r n ∧ noth f r n = 0) (Classical.propDecidable _) 1 0
theorem nof_ne {f : Nat → Int32} {r : Int32} {n : Nat} (h : nof f r n) : ¬ nown f r n = noth f r n := by
  obtain ⟨-, h2⟩ := h
  unfold nown noth
  by_cases e : f (n * 4) = r
  · rw [if_pos e, if_pos e]; exact h2
  · rw [if_neg e, if_neg e]; exact fun z => h2 z.symm
theorem cQP {f : Nat → Int32} {r : Int32} : ∀ n, cQ f r n + cP f r n ≤ n ∧ cD f r n ≤ n
  | 0 => ⟨Nat.le_refl 0, Nat.le_refl 0⟩
  | n + 1 => by
    have ih := cQP (f := f) (r := r) n
    show cQ f r n + _ + (cP f r n + _) ≤ _ ∧ cD f r n + _ ≤ _
    by_cases k : nof f r n
    · have ne := nof_ne k
      by_cases z : nown f r n = 0
      · rw [if_pos ⟨k, z⟩, if_neg (fun w => ne (z.trans w.2.symm)), if_pos k]; omega
      · rw [if_neg (fun w => z w.2), if_pos k]
        by_cases w : noth f r n = 0
        · rw [if_pos ⟨k, w⟩]; omega
        · rw [if_neg (fun v => w v.2)]; omega
    · rw [if_neg (fun w => k w.1), if_neg (fun w => k w.1), if_neg k]; omega
theorem c_no {f : Nat → Int32} {r : Int32} {n : Nat} (k : ¬ nof f r n) : cD f r (n + 1) = cD f r n ∧ cQ f r (n + 1) = cQ f r n ∧ cP f r (n + 1) = cP f r n := by
  refine ⟨?_, ?_, ?_⟩
  · show cD f r n + _ = _; rw [if_neg k]; rfl
  · show cQ f r n + _ = _; rw [if_neg (fun w => k w.1)]; rfl
  · show cP f r n + _ = _; rw [if_neg (fun w => k w.1)]; rfl
theorem c_yes {f : Nat → Int32} {r : Int32} {n : Nat} (k : nof f r n) : cD f r (n + 1) = cD f r n + 1 ∧ cQ f r (n + 1) = cQ f r n + (if nown f r n = 0 then 1 else 0) ∧ cP f r (n + 1) = cP f r n + (if noth f r n = 0 then 1 else 0) := by
  refine ⟨?_, ?_, ?_⟩
  · show cD f r n + _ = _; rw [if_pos k]
  · show cQ f r n + _ = _
    by_cases z : nown f r n = 0
    · rw [if_pos ⟨k, z⟩, if_pos z]
    · rw [if_neg (fun w => z w.2), if_neg z]
  · show cP f r n + _ = _
    by_cases z : noth f r n = 0
    · rw [if_pos ⟨k, z⟩, if_pos z]
    · rw [if_neg (fun w => z w.2), if_neg z]
section HB2
variable {X : MX} {t : Nat} {h B : MH} {D : LD} {S IM KP : Nat → Int32}
theorem c_sideOf (L : LG h 1 D) (F : FIX h) {n : Nat} {r : Int32} (hn : n < 60) : (ev X 89 0 [.ref 46, .int (nI n), .int r] [] (h)) = some (some (.int (if D.2.1 6 (n * 4) = r then 0 else if D.2.1 6 (n * 4 + 1) = r then 1 else -1)), (h)) := by
  obtain ⟨a46, e46⟩ := F.c46
  have T := lt6 L
  have g0 : (ev X 103 0 [.ref 14, .int (nI n), .int 0, .float 0] [] (h)) = some (some (.int (D.2.1 6 (n * 4))), (h)) := T.get (r := n) (q := 0) hn (by decide)
  have g1 : (ev X 103 0 [.ref 14, .int (nI n), .int 1, .float 0] [] (h)) = some (some (.int (D.2.1 6 (n * 4 + 1))), (h)) := T.get (r := n) (q := 1) hn (by decide)
  by_cases k : D.2.1 6 (n * 4) = r
  · rw [if_pos k]
    simp only [s89_0, s89_1, s89_4, s89_7, s89_8, s89_9, s89_12, s89_13, s89_16, s89_17, s89_18, s89_19, s89_22, s89_25, s89_26, s89_27, s89_30, s89_31, s89_34, s89_35, s89_38, s89_39, okF, okA, mcC_o, mcF_o, mcT_i, mcT_l, mcT_z, mcT_q, mcN_i, mcN_l, mcN_z, mcN_q, mcI_i, mcI_z, mcL_l, mcQ_q, hg_hp, hp_hp, List.getD_cons_zero, List.getD_cons_succ, List.set_cons_zero, List.set_cons_succ, List.length_cons, List.length_nil, Nat.reduceAdd, Nat.reduceLT, Nat.reduceEqDiff, Nat.lt_add_one, decide_true, decide_false, Bool.and_true, Bool.true_and, Bool.and_false, Bool.false_and, Bool.false_eq_true, if_true, if_false, ↓reduceIte, Option.bind_some, Option.bind_none, kont_v, kont_n, e46, lgo L, g0, k, T.1]
  · rw [if_neg k]
    by_cases k1 : D.2.1 6 (n * 4 + 1) = r
    · rw [if_pos k1]
      simp only [s89_0, s89_1, s89_4, s89_7, s89_8, s89_9, s89_12, s89_13, s89_16, s89_17, s89_18, s89_19, s89_22, s89_25, s89_26, s89_27, s89_30, s89_31, s89_34, s89_35, s89_38, s89_39, okF, okA, mcC_o, mcF_o, mcT_i, mcT_l, mcT_z, mcT_q, mcN_i, mcN_l, mcN_z, mcN_q, mcI_i, mcI_z, mcL_l, mcQ_q, hg_hp, hp_hp, List.getD_cons_zero, List.getD_cons_succ, List.set_cons_zero, List.set_cons_succ, List.length_cons, List.length_nil, Nat.reduceAdd, Nat.reduceLT, Nat.reduceEqDiff, Nat.lt_add_one, decide_true, decide_false, Bool.and_true, Bool.true_and, Bool.and_false, Bool.false_and, Bool.false_eq_true, if_true, if_false, ↓reduceIte, Option.bind_some, Option.bind_none, kont_v, kont_n, e46, lgo L, g0, eq_false k, g1, k1, T.1]
    · rw [if_neg k1]
      simp only [s89_0, s89_1, s89_4, s89_7, s89_8, s89_9, s89_12, s89_13, s89_16, s89_17, s89_18, s89_19, s89_22, s89_25, s89_26, s89_27, s89_30, s89_31, s89_34, s89_35, s89_38, s89_39, okF, okA, mcC_o, mcF_o, mcT_i, mcT_l, mcT_z, mcT_q, mcN_i, mcN_l, mcN_z, mcN_q, mcI_i, mcI_z, mcL_l, mcQ_q, hg_hp, hp_hp, List.getD_cons_zero, List.getD_cons_succ, List.set_cons_zero, List.set_cons_succ, List.length_cons, List.length_nil, Nat.reduceAdd, Nat.reduceLT, Nat.reduceEqDiff, Nat.lt_add_one, decide_true, decide_false, Bool.and_true, Bool.true_and, Bool.and_false, Bool.false_and, Bool.false_eq_true, if_true, if_false, ↓reduceIte, Option.bind_some, Option.bind_none, kont_v, kont_n, e46, lgo L, g0, eq_false k, g1, eq_false k1, T.1]
theorem c_lean_lp (L : LG h 1 D) (F : FIX h) {r w : Int32} : ∀ (m n : Nat) (a7 a8 a9 : Value), n + m = D.1 6 → ∃ b7 b8 b9 : Value, ev X 88 11 [.ref 46, .int r, .int w, .int (nI (cD (D.2.1 6) r n)), .int (nI (cQ (D.2.1 6) r n)), .int (nI (cP (D.2.1 6) r n)), .int (nI n), a7, a8, a9] [] h = ev X 88 123 [.ref 46, .int r, .int w, .int (nI (cD (D.2.1 6) r (D.1 6))), .int (nI (cQ (D.2.1 6) r (D.1 6))), .int (nI (cP (D.2.1 6) r (D.1 6))), .int (nI (D.1 6)), b7, b8, b9] [] h
  | 0, n, a7, a8, a9, e => by
    obtain ⟨a46, e46⟩ := F.c46
    have T := lt6 L
    have b6 := (LBD L).2.2.2.2.2.1
    have e : n = D.1 6 := by omega
    subst e
    have l := nI_nlt (Nat.le_refl (D.1 6)) (show D.1 6 < 2 ^ 31 by omega)
    refine ⟨a7, a8, a9, ?_⟩
    rw [s88_11]
    simp only [s88_0, s88_1, s88_2, s88_3, s88_5, s88_6, s88_8, s88_9, s88_13, s88_14, s88_17, s88_20, s88_23, s88_26, s88_27, s88_29, s88_30, s88_33, s88_35, s88_36, s88_39, s88_42, s88_44, s88_45, s88_47, s88_48, s88_51, s88_53, s88_54, s88_57, s88_60, s88_62, s88_63, s88_65, s88_66, s88_69, s88_71, s88_73, s88_74, s88_77, s88_79, s88_81, s88_84, s88_87, s88_89, s88_91, s88_94, s88_95, s88_98, s88_99, s88_100, s88_102, s88_104, s88_106, s88_109, s88_110, s88_113, s88_114, s88_115, s88_117, s88_120, s88_124_0, s88_124_1, s88_124_2, s88_124_d, s88_152, s88_153, s88_154, s88_156, s88_157, s88_159, s88_160, s88_162, s88_164, s88_167, okF, okA, mcC_o, mcF_o, mcT_i, mcT_l, mcT_z, mcT_q, mcN_i, mcN_l, mcN_z, mcN_q, mcI_i, mcI_z, mcL_l, mcQ_q, hg_hp, hp_hp, List.getD_cons_zero, List.getD_cons_succ, List.set_cons_zero, List.set_cons_succ, List.length_cons, List.length_nil, Nat.reduceAdd, Nat.reduceLT, Nat.reduceEqDiff, Nat.lt_add_one, decide_true, decide_false, Bool.and_true, Bool.true_and, Bool.and_false, Bool.false_and, Bool.false_eq_true, if_true, if_false, ↓reduceIte, Option.bind_some, Option.bind_none, kont_v, kont_n, e46, lgo L, T.1, l]
  | m + 1, n, a7, a8, a9, e => by
    obtain ⟨a46, e46⟩ := F.c46
    have T := lt6 L
    have b6 := (LBD L).2.2.2.2.2.1
    have hn : n < 60 := by omega
    have l := nI_lt (show n < D.1 6 by omega) (show D.1 6 < 2 ^ 31 by omega)
    have sd := c_sideOf (X := X) L F (r := r) hn
    have g2 : (ev X 103 0 [.ref 14, .int (nI n), .int 2, .float 0] [] (h)) = some (some (.int (D.2.1 6 (n * 4 + 2))), (h)) := T.get (r := n) (q := 2) hn (by decide)
    have g3 : (ev X 103 0 [.ref 14, .int (nI n), .int 3, .float 0] [] (h)) = some (some (.int (D.2.1 6 (n * 4 + 3))), (h)) := T.get (r := n) (q := 3) hn (by decide)
    have gx : ∀ q : Int32, (ev X 103 0 [.ref 14, .int (nI n), .int q, .float 0] [] (h)) = some (some (.int (tget (nI 60) (nI 4) (D.2.1 6) (nI n) q)), (h)) := fun q => tb_get T.1 T.2.1 T.ok
    have e20 : (2 : Int32) + 0 = 2 := by decide
    have e30 : (3 : Int32) - 0 = 3 := by decide
    have e21 : (2 : Int32) + 1 = 3 := by decide
    have e31 : (3 : Int32) - 1 = 2 := by decide
    have n0 : ¬ (0 : Int32) = -1 := by decide
    have n1 : ¬ (1 : Int32) = -1 := by decide
    have i1 : ∀ a : Nat, nI a + 1 = nI (a + 1) := fun a => nI_add a 1
    have i0 : ∀ a : Nat, nI a + 0 = nI a := fun a => nI_add a 0
    by_cases k : D.2.1 6 (n * 4) = r
    · rw [if_pos k] at sd
      by_cases v : D.2.1 6 (n * 4 + 2) = D.2.1 6 (n * 4 + 3)
      · obtain ⟨b7, b8, b9, ih⟩ := c_lean_lp L F m (n + 1) (.int 0) (.int (D.2.1 6 (n * 4 + 2))) (.int (D.2.1 6 (n * 4 + 3))) (by omega)
        obtain ⟨z1, z2, z3⟩ := c_no (f := D.2.1 6) (r := r) (n := n) (fun w => w.2 v)
        refine ⟨b7, b8, b9, ?_⟩
        rw [← ih, z1, z2, z3, s88_11]
        simp only [s88_0, s88_1, s88_2, s88_3, s88_5, s88_6, s88_8, s88_9, s88_13, s88_14, s88_17, s88_20, s88_23, s88_26, s88_27, s88_29, s88_30, s88_33, s88_35, s88_36, s88_39, s88_42, s88_44, s88_45, s88_47, s88_48, s88_51, s88_53, s88_54, s88_57, s88_60, s88_62, s88_63, s88_65, s88_66, s88_69, s88_71, s88_73, s88_74, s88_77, s88_79, s88_81, s88_84, s88_87, s88_89, s88_91, s88_94, s88_95, s88_98, s88_99, s88_100, s88_102, s88_104, s88_106, s88_109, s88_110, s88_113, s88_114, s88_115, s88_117, s88_120, s88_124_0, s88_124_1, s88_124_2, s88_124_d, s88_152, s88_153, s88_154, s88_156, s88_157, s88_159, s88_160, s88_162, s88_164, s88_167, okF, okA, mcC_o, mcF_o, mcT_i, mcT_l, mcT_z, mcT_q, mcN_i, mcN_l, mcN_z, mcN_q, mcI_i, mcI_z, mcL_l, mcQ_q, hg_hp, hp_hp, List.getD_cons_zero, List.getD_cons_succ, List.set_cons_zero, List.set_cons_succ, List.length_cons, List.length_nil, Nat.reduceAdd, Nat.reduceLT, Nat.reduceEqDiff, Nat.lt_add_one, decide_true, decide_false, Bool.and_true, Bool.true_and, Bool.and_false, Bool.false_and, Bool.false_eq_true, if_true, if_false, ↓reduceIte, Option.bind_some, Option.bind_none, kont_v, kont_n, e46, lgo L, T.1, l, sd, e20, e30, g2, g3, n0, v, eq_self, i1]
      · obtain ⟨b7, b8, b9, ih⟩ := c_lean_lp L F m (n + 1) (.int 0) (.int (D.2.1 6 (n * 4 + 2))) (.int (D.2.1 6 (n * 4 + 3))) (by omega)
        obtain ⟨z1, z2, z3⟩ := c_yes (f := D.2.1 6) (r := r) (n := n) ⟨Or.inl k, v⟩
        unfold nown at z2
        unfold noth at z3
        rw [if_pos k] at z2 z3
        refine ⟨b7, b8, b9, ?_⟩
        rw [← ih, z1, z2, z3, s88_11]
        by_cases v2 : D.2.1 6 (n * 4 + 2) = 0
        · rw [if_pos v2]
          by_cases v3 : D.2.1 6 (n * 4 + 3) = 0
          · exact absurd (v2.trans v3.symm) v
          · rw [if_neg v3]
            simp only [s88_0, s88_1, s88_2, s88_3, s88_5, s88_6, s88_8, s88_9, s88_13, s88_14, s88_17, s88_20, s88_23, s88_26, s88_27, s88_29, s88_30, s88_33, s88_35, s88_36, s88_39, s88_42, s88_44, s88_45, s88_47, s88_48, s88_51, s88_53, s88_54, s88_57, s88_60, s88_62, s88_63, s88_65, s88_66, s88_69, s88_71, s88_73, s88_74, s88_77, s88_79, s88_81, s88_84, s88_87, s88_89, s88_91, s88_94, s88_95, s88_98, s88_99, s88_100, s88_102, s88_104, s88_106, s88_109, s88_110, s88_113, s88_114, s88_115, s88_117, s88_120, s88_124_0, s88_124_1, s88_124_2, s88_124_d, s88_152, s88_153, s88_154, s88_156, s88_157, s88_159, s88_160, s88_162, s88_164, s88_167, okF, okA, mcC_o, mcF_o, mcT_i, mcT_l, mcT_z, mcT_q, mcN_i, mcN_l, mcN_z, mcN_q, mcI_i, mcI_z, mcL_l, mcQ_q, hg_hp, hp_hp, List.getD_cons_zero, List.getD_cons_succ, List.set_cons_zero, List.set_cons_succ, List.length_cons, List.length_nil, Nat.reduceAdd, Nat.reduceLT, Nat.reduceEqDiff, Nat.lt_add_one, decide_true, decide_false, Bool.and_true, Bool.true_and, Bool.and_false, Bool.false_and, Bool.false_eq_true, if_true, if_false, ↓reduceIte, Option.bind_some, Option.bind_none, kont_v, kont_n, e46, lgo L, T.1, l, sd, e20, e30, g2, g3, n0, eq_false v, eq_true v2, eq_false v3, i1, i0, Nat.add_zero]
        · rw [if_neg v2]
          by_cases v3 : D.2.1 6 (n * 4 + 3) = 0
          · rw [if_pos v3]
            simp only [s88_0, s88_1, s88_2, s88_3, s88_5, s88_6, s88_8, s88_9, s88_13, s88_14, s88_17, s88_20, s88_23, s88_26, s88_27, s88_29, s88_30, s88_33, s88_35, s88_36, s88_39, s88_42, s88_44, s88_45, s88_47, s88_48, s88_51, s88_53, s88_54, s88_57, s88_60, s88_62, s88_63, s88_65, s88_66, s88_69, s88_71, s88_73, s88_74, s88_77, s88_79, s88_81, s88_84, s88_87, s88_89, s88_91, s88_94, s88_95, s88_98, s88_99, s88_100, s88_102, s88_104, s88_106, s88_109, s88_110, s88_113, s88_114, s88_115, s88_117, s88_120, s88_124_0, s88_124_1, s88_124_2, s88_124_d, s88_152, s88_153, s88_154, s88_156, s88_157, s88_159, s88_160, s88_162, s88_164, s88_167, okF, okA, mcC_o, mcF_o, mcT_i, mcT_l, mcT_z, mcT_q, mcN_i, mcN_l, mcN_z, mcN_q, mcI_i, mcI_z, mcL_l, mcQ_q, hg_hp, hp_hp, List.getD_cons_zero, List.getD_cons_succ, List.set_cons_zero, List.set_cons_succ, List.length_cons, List.length_nil, Nat.reduceAdd, Nat.reduceLT, Nat.reduceEqDiff, Nat.lt_add_one, decide_true, decide_false, Bool.and_true, Bool.true_and, Bool.and_false, Bool.false_and, Bool.false_eq_true, if_true, if_false, ↓reduceIte, Option.bind_some, Option.bind_none, kont_v, kont_n, e46, lgo L, T.1, l, sd, e20, e30, g2, g3, n0, eq_false v, eq_false v2, eq_true v3, i1, i0, Nat.add_zero]
          · rw [if_neg v3]
            simp only [s88_0, s88_1, s88_2, s88_3, s88_5, s88_6, s88_8, s88_9, s88_13, s88_14, s88_17, s88_20, s88_23, s88_26, s88_27, s88_29, s88_30, s88_33, s88_35, s88_36, s88_39, s88_42, s88_44, s88_45, s88_47, s88_48, s88_51, s88_53, s88_54, s88_57, s88_60, s88_62, s88_63, s88_65, s88_66, s88_69, s88_71, s88_73, s88_74, s88_77, s88_79, s88_81, s88_84, s88_87, s88_89, s88_91, s88_94, s88_95, s88_98, s88_99, s88_100, s88_102, s88_104, s88_106, s88_109, s88_110, s88_113, s88_114, s88_115, s88_117, s88_120, s88_124_0, s88_124_1, s88_124_2, s88_124_d, s88_152, s88_153, s88_154, s88_156, s88_157, s88_159, s88_160, s88_162, s88_164, s88_167, okF, okA, mcC_o, mcF_o, mcT_i, mcT_l, mcT_z, mcT_q, mcN_i, mcN_l, mcN_z, mcN_q, mcI_i, mcI_z, mcL_l, mcQ_q, hg_hp, hp_hp, List.getD_cons_zero, List.getD_cons_succ, List.set_cons_zero, List.set_cons_succ, List.length_cons, List.length_nil, Nat.reduceAdd, Nat.reduceLT, Nat.reduceEqDiff, Nat.lt_add_one, decide_true, decide_false, Bool.and_true, Bool.true_and, Bool.and_false, Bool.false_and, Bool.false_eq_true, if_true, if_false, ↓reduceIte, Option.bind_some, Option.bind_none, kont_v, kont_n, e46, lgo L, T.1, l, sd, e20, e30, g2, g3, n0, eq_false v, eq_false v2, eq_false v3, i1, i0, Nat.add_zero]
    · rw [if_neg k] at sd
      by_cases k1 : D.2.1 6 (n * 4 + 1) = r
      · rw [if_pos k1] at sd
        by_cases v : D.2.1 6 (n * 4 + 3) = D.2.1 6 (n * 4 + 2)
        · obtain ⟨b7, b8, b9, ih⟩ := c_lean_lp L F m (n + 1) (.int 1) (.int (D.2.1 6 (n * 4 + 3))) (.int (D.2.1 6 (n * 4 + 2))) (by omega)
          obtain ⟨z1, z2, z3⟩ := c_no (f := D.2.1 6) (r := r) (n := n) (fun w => w.2 v.symm)
          refine ⟨b7, b8, b9, ?_⟩
          rw [← ih, z1, z2, z3, s88_11]
          simp only [s88_0, s88_1, s88_2, s88_3, s88_5, s88_6, s88_8, s88_9, s88_13, s88_14, s88_17, s88_20, s88_23, s88_26, s88_27, s88_29, s88_30, s88_33, s88_35, s88_36, s88_39, s88_42, s88_44, s88_45, s88_47, s88_48, s88_51, s88_53, s88_54, s88_57, s88_60, s88_62, s88_63, s88_65, s88_66, s88_69, s88_71, s88_73, s88_74, s88_77, s88_79, s88_81, s88_84, s88_87, s88_89, s88_91, s88_94, s88_95, s88_98, s88_99, s88_100, s88_102, s88_104, s88_106, s88_109, s88_110, s88_113, s88_114, s88_115, s88_117, s88_120, s88_124_0, s88_124_1, s88_124_2, s88_124_d, s88_152, s88_153, s88_154, s88_156, s88_157, s88_159, s88_160, s88_162, s88_164, s88_167, okF, okA, mcC_o, mcF_o, mcT_i, mcT_l, mcT_z, mcT_q, mcN_i, mcN_l, mcN_z, mcN_q, mcI_i, mcI_z, mcL_l, mcQ_q, hg_hp, hp_hp, List.getD_cons_zero, List.getD_cons_succ, List.set_cons_zero, List.set_cons_succ, List.length_cons, List.length_nil, Nat.reduceAdd, Nat.reduceLT, Nat.reduceEqDiff, Nat.lt_add_one, decide_true, decide_false, Bool.and_true, Bool.true_and, Bool.and_false, Bool.false_and, Bool.false_eq_true, if_true, if_false, ↓reduceIte, Option.bind_some, Option.bind_none, kont_v, kont_n, e46, lgo L, T.1, l, sd, e21, e31, g2, g3, n1, v, eq_self, i1]
        · obtain ⟨b7, b8, b9, ih⟩ := c_lean_lp L F m (n + 1) (.int 1) (.int (D.2.1 6 (n * 4 + 3))) (.int (D.2.1 6 (n * 4 + 2))) (by omega)
          obtain ⟨z1, z2, z3⟩ := c_yes (f := D.2.1 6) (r := r) (n := n) ⟨Or.inr k1, fun z => v z.symm⟩
          unfold nown at z2
          unfold noth at z3
          rw [if_neg k] at z2 z3
          refine ⟨b7, b8, b9, ?_⟩
          rw [← ih, z1, z2, z3, s88_11]
          by_cases v2 : D.2.1 6 (n * 4 + 3) = 0
          · rw [if_pos v2]
            by_cases v3 : D.2.1 6 (n * 4 + 2) = 0
            · exact absurd (v2.trans v3.symm) v
            · rw [if_neg v3]
              simp only [s88_0, s88_1, s88_2, s88_3, s88_5, s88_6, s88_8, s88_9, s88_13, s88_14, s88_17, s88_20, s88_23, s88_26, s88_27, s88_29, s88_30, s88_33, s88_35, s88_36, s88_39, s88_42, s88_44, s88_45, s88_47, s88_48, s88_51, s88_53, s88_54, s88_57, s88_60, s88_62, s88_63, s88_65, s88_66, s88_69, s88_71, s88_73, s88_74, s88_77, s88_79, s88_81, s88_84, s88_87, s88_89, s88_91, s88_94, s88_95, s88_98, s88_99, s88_100, s88_102, s88_104, s88_106, s88_109, s88_110, s88_113, s88_114, s88_115, s88_117, s88_120, s88_124_0, s88_124_1, s88_124_2, s88_124_d, s88_152, s88_153, s88_154, s88_156, s88_157, s88_159, s88_160, s88_162, s88_164, s88_167, okF, okA, mcC_o, mcF_o, mcT_i, mcT_l, mcT_z, mcT_q, mcN_i, mcN_l, mcN_z, mcN_q, mcI_i, mcI_z, mcL_l, mcQ_q, hg_hp, hp_hp, List.getD_cons_zero, List.getD_cons_succ, List.set_cons_zero, List.set_cons_succ, List.length_cons, List.length_nil, Nat.reduceAdd, Nat.reduceLT, Nat.reduceEqDiff, Nat.lt_add_one, decide_true, decide_false, Bool.and_true, Bool.true_and, Bool.and_false, Bool.false_and, Bool.false_eq_true, if_true, if_false, ↓reduceIte, Option.bind_some, Option.bind_none, kont_v, kont_n, e46, lgo L, T.1, l, sd, e21, e31, g2, g3, n1, eq_false v, eq_true v2, eq_false v3, i1, i0, Nat.add_zero]
          · rw [if_neg v2]
            by_cases v3 : D.2.1 6 (n * 4 + 2) = 0
            · rw [if_pos v3]
              simp only [s88_0, s88_1, s88_2, s88_3, s88_5, s88_6, s88_8, s88_9, s88_13, s88_14, s88_17, s88_20, s88_23, s88_26, s88_27, s88_29, s88_30, s88_33, s88_35, s88_36, s88_39, s88_42, s88_44, s88_45, s88_47, s88_48, s88_51, s88_53, s88_54, s88_57, s88_60, s88_62, s88_63, s88_65, s88_66, s88_69, s88_71, s88_73, s88_74, s88_77, s88_79, s88_81, s88_84, s88_87, s88_89, s88_91, s88_94, s88_95, s88_98, s88_99, s88_100, s88_102, s88_104, s88_106, s88_109, s88_110, s88_113, s88_114, s88_115, s88_117, s88_120, s88_124_0, s88_124_1, s88_124_2, s88_124_d, s88_152, s88_153, s88_154, s88_156, s88_157, s88_159, s88_160, s88_162, s88_164, s88_167, okF, okA, mcC_o, mcF_o, mcT_i, mcT_l, mcT_z, mcT_q, mcN_i, mcN_l, mcN_z, mcN_q, mcI_i, mcI_z, mcL_l, mcQ_q, hg_hp, hp_hp, List.getD_cons_zero, List.getD_cons_succ, List.set_cons_zero, List.set_cons_succ, List.length_cons, List.length_nil, Nat.reduceAdd, Nat.reduceLT, Nat.reduceEqDiff, Nat.lt_add_one, decide_true, decide_false, Bool.and_true, Bool.true_and, Bool.and_false, Bool.false_and, Bool.false_eq_true, if_true, if_false, ↓reduceIte, Option.bind_some, Option.bind_none, kont_v, kont_n, e46, lgo L, T.1, l, sd, e21, e31, g2, g3, n1, eq_false v, eq_false v2, eq_true v3, i1, i0, Nat.add_zero]
            · rw [if_neg v3]
              simp only [s88_0, s88_1, s88_2, s88_3, s88_5, s88_6, s88_8, s88_9, s88_13, s88_14, s88_17, s88_20, s88_23, s88_26, s88_27, s88_29, s88_30, s88_33, s88_35, s88_36, s88_39, s88_42, s88_44, s88_45, s88_47, s88_48, s88_51, s88_53, s88_54, s88_57, s88_60, s88_62, s88_63, s88_65, s88_66, s88_69, s88_71, s88_73, s88_74, s88_77, s88_79, s88_81, s88_84, s88_87, s88_89, s88_91, s88_94, s88_95, s88_98, s88_99, s88_100, s88_102, s88_104, s88_106, s88_109, s88_110, s88_113, s88_114, s88_115, s88_117, s88_120, s88_124_0, s88_124_1, s88_124_2, s88_124_d, s88_152, s88_153, s88_154, s88_156, s88_157, s88_159, s88_160, s88_162, s88_164, s88_167, okF, okA, mcC_o, mcF_o, mcT_i, mcT_l, mcT_z, mcT_q, mcN_i, mcN_l, mcN_z, mcN_q, mcI_i, mcI_z, mcL_l, mcQ_q, hg_hp, hp_hp, List.getD_cons_zero, List.getD_cons_succ, List.set_cons_zero, List.set_cons_succ, List.length_cons, List.length_nil, Nat.reduceAdd, Nat.reduceLT, Nat.reduceEqDiff, Nat.lt_add_one, decide_true, decide_false, Bool.and_true, Bool.true_and, Bool.and_false, Bool.false_and, Bool.false_eq_true, if_true, if_false, ↓reduceIte, Option.bind_some, Option.bind_none, kont_v, kont_n, e46, lgo L, T.1, l, sd, e21, e31, g2, g3, n1, eq_false v, eq_false v2, eq_false v3, i1, i0, Nat.add_zero]
      · rw [if_neg k1] at sd
        obtain ⟨b7, b8, b9, ih⟩ := c_lean_lp L F m (n + 1) (.int (-1)) (.int (tget (nI 60) (nI 4) (D.2.1 6) (nI n) (2 + -1))) (.int (tget (nI 60) (nI 4) (D.2.1 6) (nI n) (3 - -1))) (by omega)
        obtain ⟨z1, z2, z3⟩ := c_no (f := D.2.1 6) (r := r) (n := n) (fun w => w.1.elim k k1)
        refine ⟨b7, b8, b9, ?_⟩
        rw [← ih, z1, z2, z3, s88_11]
        simp only [s88_0, s88_1, s88_2, s88_3, s88_5, s88_6, s88_8, s88_9, s88_13, s88_14, s88_17, s88_20, s88_23, s88_26, s88_27, s88_29, s88_30, s88_33, s88_35, s88_36, s88_39, s88_42, s88_44, s88_45, s88_47, s88_48, s88_51, s88_53, s88_54, s88_57, s88_60, s88_62, s88_63, s88_65, s88_66, s88_69, s88_71, s88_73, s88_74, s88_77, s88_79, s88_81, s88_84, s88_87, s88_89, s88_91, s88_94, s88_95, s88_98, s88_99, s88_100, s88_102, s88_104, s88_106, s88_109, s88_110, s88_113, s88_114, s88_115, s88_117, s88_120, s88_124_0, s88_124_1, s88_124_2, s88_124_d, s88_152, s88_153, s88_154, s88_156, s88_157, s88_159, s88_160, s88_162, s88_164, s88_167, okF, okA, mcC_o, mcF_o, mcT_i, mcT_l, mcT_z, mcT_q, mcN_i, mcN_l, mcN_z, mcN_q, mcI_i, mcI_z, mcL_l, mcQ_q, hg_hp, hp_hp, List.getD_cons_zero, List.getD_cons_succ, List.set_cons_zero, List.set_cons_succ, List.length_cons, List.length_nil, Nat.reduceAdd, Nat.reduceLT, Nat.reduceEqDiff, Nat.lt_add_one, decide_true, decide_false, Bool.and_true, Bool.true_and, Bool.and_false, Bool.false_and, Bool.false_eq_true, if_true, if_false, ↓reduceIte, Option.bind_some, Option.bind_none, kont_v, kont_n, e46, lgo L, T.1, l, sd, gx, eq_self, i1]
end HB2

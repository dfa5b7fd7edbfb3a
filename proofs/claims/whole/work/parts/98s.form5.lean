-- FORMULA 5: a text is read by both
section RUN
variable {X : MX} {Bc Br : MH} {Z : Nat → Int32} {S : Nat → Int32} {nm : Int32 → Int64} {V0 : Nat → Int64} {sg lt : Nat → Int32} {n tx : Nat} {q : Nat → Nat} {a1 b1 : Value}
theorem cl_step {i s d : Nat} {wt : Int32} {x : LVS} {i' : Int32} {H : MH} (hi : i < n) (hn : n ≤ 50) (hs : s ≤ i) (ra : (ev X 27 0 [.ref 23, .int (nI i), .float 0] [] (FMH Bc (nI n) (nI d) (-1) wt 0 sg lt x)) = some (some (.int (i')), (H))) : ev X 24 28 [.ref 23, a1, .int (nI i), .int (nI (s))] [] (FMH Bc (nI n) (nI d) (-1) wt 0 sg lt x) = ev X 24 28 [.ref 23, a1, .int (i'), .int (nI (s + 1))] [] (H) := by
  have l1 : nI s < (50 : Int32) := nI_lt (b := 50) (by omega) (by decide)
  have l2 := nI_lt hi (by omega)
  have e : ((-1 : Int32) = -1) = True := eq_true rfl
  have p1 : nI s + 1 = nI (s + 1) := nI_add s 1
  conv => lhs; rw [s24_28]
  simp only [s24_0, s24_1, s24_2, s24_5, s24_6, s24_7, s24_10, s24_11, s24_12, s24_15, s24_16, s24_17, s24_20, s24_21, s24_24, s24_25, s24_26, s24_27, s24_29, s24_31, s24_34, s24_35, s24_36, s24_39, s24_42, s24_43, s24_46, s24_47, s24_50, s24_51, s24_52, s24_55, s24_56, s24_59, s24_62, s24_63, s24_66, s24_67, s24_70, s24_71, s24_74, s24_77, s24_78, s24_81, s24_84, s24_85, s24_87, s24_88, s24_91, s24_92, s24_93, s24_94, s24_97, s24_98, s24_101, s24_102, s24_105, s24_106, s24_109, s24_110, s24_111, s24_114, s24_115, s24_116, s24_119, s24_120, s24_123, okF, okA, mcC_o, mcF_o, mcT_i, mcT_l, mcT_z, mcT_q, mcN_i, mcN_l, mcN_z, mcN_q, mcI_i, mcI_z, mcL_l, mcQ_q, hg_hp, hp_hp, List.getD_cons_zero, List.getD_cons_succ, List.set_cons_zero, List.set_cons_succ, List.length_cons, List.length_nil, Nat.reduceAdd, Nat.reduceLT, Nat.reduceEqDiff, Nat.lt_add_one, decide_true, decide_false, Bool.and_true, Bool.true_and, Bool.and_false, Bool.false_and, Bool.false_eq_true, if_true, if_false, ↓reduceIte, Option.bind_some, Option.bind_none, kont_v, kont_n, FM_23, FM_24, FM_25, FM_26, FM_27, FM_28, FM_29, FM_30, FMp_23, FMp_24, FMp_25, FMp_26, FMp_27, FMp_28, FMp_29, FMp_30, FOO_len, FOO_0, FOO_1, FOO_2, FOO_3, FOO_4, FOO_5, FOO_6, FOO_7, FOO_8, FOO_9, FOO_10, FOO_11, FOO_12, FOOs_8, FOOs_9, FOOs_10, FOOs_11, FOOs_12, true_or, or_true, l1, l2, e, ra, p1]
theorem cl_fault {i : Nat} {s : Nat} {dp ft wt : Int32} {vl : Int64} {x : LVS} (h : ¬ ft = -1) (hi : i < 1000) (hs : s < 1000) : ev X 24 28 [.ref 23, a1, .int (nI i), .int (nI (s))] [] (FMH Bc (nI n) dp ft wt vl sg lt x) = some (some (.int (ft)), (FMH Bc (nI n) dp ft wt vl sg lt x)) := by
  have e := eq_false h
  by_cases l1 : nI s < (50 : Int32)
  · by_cases l2 : nI i < nI n
    · rw [s24_28]
      simp only [s24_0, s24_1, s24_2, s24_5, s24_6, s24_7, s24_10, s24_11, s24_12, s24_15, s24_16, s24_17, s24_20, s24_21, s24_24, s24_25, s24_26, s24_27, s24_29, s24_31, s24_34, s24_35, s24_36, s24_39, s24_42, s24_43, s24_46, s24_47, s24_50, s24_51, s24_52, s24_55, s24_56, s24_59, s24_62, s24_63, s24_66, s24_67, s24_70, s24_71, s24_74, s24_77, s24_78, s24_81, s24_84, s24_85, s24_87, s24_88, s24_91, s24_92, s24_93, s24_94, s24_97, s24_98, s24_101, s24_102, s24_105, s24_106, s24_109, s24_110, s24_111, s24_114, s24_115, s24_116, s24_119, s24_120, s24_123, okF, okA, mcC_o, mcF_o, mcT_i, mcT_l, mcT_z, mcT_q, mcN_i, mcN_l, mcN_z, mcN_q, mcI_i, mcI_z, mcL_l, mcQ_q, hg_hp, hp_hp, List.getD_cons_zero, List.getD_cons_succ, List.set_cons_zero, List.set_cons_succ, List.length_cons, List.length_nil, Nat.reduceAdd, Nat.reduceLT, Nat.reduceEqDiff, Nat.lt_add_one, decide_true, decide_false, Bool.and_true, Bool.true_and, Bool.and_false, Bool.false_and, Bool.false_eq_true, if_true, if_false, ↓reduceIte, Option.bind_some, Option.bind_none, kont_v, kont_n, FM_23, FM_24, FM_25, FM_26, FM_27, FM_28, FM_29, FM_30, FMp_23, FMp_24, FMp_25, FMp_26, FMp_27, FMp_28, FMp_29, FMp_30, FOO_len, FOO_0, FOO_1, FOO_2, FOO_3, FOO_4, FOO_5, FOO_6, FOO_7, FOO_8, FOO_9, FOO_10, FOO_11, FOO_12, FOOs_8, FOOs_9, FOOs_10, FOOs_11, FOOs_12, true_or, or_true, l1, l2, e]
    · rw [s24_28]
      simp only [s24_0, s24_1, s24_2, s24_5, s24_6, s24_7, s24_10, s24_11, s24_12, s24_15, s24_16, s24_17, s24_20, s24_21, s24_24, s24_25, s24_26, s24_27, s24_29, s24_31, s24_34, s24_35, s24_36, s24_39, s24_42, s24_43, s24_46, s24_47, s24_50, s24_51, s24_52, s24_55, s24_56, s24_59, s24_62, s24_63, s24_66, s24_67, s24_70, s24_71, s24_74, s24_77, s24_78, s24_81, s24_84, s24_85, s24_87, s24_88, s24_91, s24_92, s24_93, s24_94, s24_97, s24_98, s24_101, s24_102, s24_105, s24_106, s24_109, s24_110, s24_111, s24_114, s24_115, s24_116, s24_119, s24_120, s24_123, okF, okA, mcC_o, mcF_o, mcT_i, mcT_l, mcT_z, mcT_q, mcN_i, mcN_l, mcN_z, mcN_q, mcI_i, mcI_z, mcL_l, mcQ_q, hg_hp, hp_hp, List.getD_cons_zero, List.getD_cons_succ, List.set_cons_zero, List.set_cons_succ, List.length_cons, List.length_nil, Nat.reduceAdd, Nat.reduceLT, Nat.reduceEqDiff, Nat.lt_add_one, decide_true, decide_false, Bool.and_true, Bool.true_and, Bool.and_false, Bool.false_and, Bool.false_eq_true, if_true, if_false, ↓reduceIte, Option.bind_some, Option.bind_none, kont_v, kont_n, FM_23, FM_24, FM_25, FM_26, FM_27, FM_28, FM_29, FM_30, FMp_23, FMp_24, FMp_25, FMp_26, FMp_27, FMp_28, FMp_29, FMp_30, FOO_len, FOO_0, FOO_1, FOO_2, FOO_3, FOO_4, FOO_5, FOO_6, FOO_7, FOO_8, FOO_9, FOO_10, FOO_11, FOO_12, FOOs_8, FOOs_9, FOOs_10, FOOs_11, FOOs_12, true_or, or_true, l1, l2, e]
  · rw [s24_28]
    simp only [s24_0, s24_1, s24_2, s24_5, s24_6, s24_7, s24_10, s24_11, s24_12, s24_15, s24_16, s24_17, s24_20, s24_21, s24_24, s24_25, s24_26, s24_27, s24_29, s24_31, s24_34, s24_35, s24_36, s24_39, s24_42, s24_43, s24_46, s24_47, s24_50, s24_51, s24_52, s24_55, s24_56, s24_59, s24_62, s24_63, s24_66, s24_67, s24_70, s24_71, s24_74, s24_77, s24_78, s24_81, s24_84, s24_85, s24_87, s24_88, s24_91, s24_92, s24_93, s24_94, s24_97, s24_98, s24_101, s24_102, s24_105, s24_106, s24_109, s24_110, s24_111, s24_114, s24_115, s24_116, s24_119, s24_120, s24_123, okF, okA, mcC_o, mcF_o, mcT_i, mcT_l, mcT_z, mcT_q, mcN_i, mcN_l, mcN_z, mcN_q, mcI_i, mcI_z, mcL_l, mcQ_q, hg_hp, hp_hp, List.getD_cons_zero, List.getD_cons_succ, List.set_cons_zero, List.set_cons_succ, List.length_cons, List.length_nil, Nat.reduceAdd, Nat.reduceLT, Nat.reduceEqDiff, Nat.lt_add_one, decide_true, decide_false, Bool.and_true, Bool.true_and, Bool.and_false, Bool.false_and, Bool.false_eq_true, if_true, if_false, ↓reduceIte, Option.bind_some, Option.bind_none, kont_v, kont_n, FM_23, FM_24, FM_25, FM_26, FM_27, FM_28, FM_29, FM_30, FMp_23, FMp_24, FMp_25, FMp_26, FMp_27, FMp_28, FMp_29, FMp_30, FOO_len, FOO_0, FOO_1, FOO_2, FOO_3, FOO_4, FOO_5, FOO_6, FOO_7, FOO_8, FOO_9, FOO_10, FOO_11, FOO_12, FOOs_8, FOOs_9, FOOs_10, FOOs_11, FOOs_12, true_or, or_true, l1, e]
theorem cl_bad {s d : Nat} {wt : Int32} {x : LVS} (hn : n ≤ 50) (hd : d < 9) (hw : wt = 1 ∨ (wt = 0 ∧ 0 < d)) : ev X 24 28 [.ref 23, a1, .int (nI n), .int (nI (s))] [] (FMH Bc (nI n) (nI d) (-1) wt 0 sg lt x) = some (some (.int (10 * nI n + 1)), (FMH Bc (nI n) (nI d) (10 * nI n + 1) wt 0 sg lt x)) := by
  have l2 := nI_nlt (Nat.le_refl n) (by omega)
  have e : ((-1 : Int32) = -1) = True := eq_true rfl
  have one0 : ¬ (1 : Int32) = 0 := by decide
  have nf : (10 * nI n + 1 = (-1 : Int32)) = False := eq_false (by rw [show (10 : Int32) = nI 10 from rfl, nI_mul, show (1 : Int32) = nI 1 from rfl, nI_add]; exact nI_m1 (by omega))
  rcases hw with rfl | ⟨rfl, h0⟩
  · by_cases l1 : nI s < (50 : Int32)
    · rw [s24_28]
      simp only [s24_0, s24_1, s24_2, s24_5, s24_6, s24_7, s24_10, s24_11, s24_12, s24_15, s24_16, s24_17, s24_20, s24_21, s24_24, s24_25, s24_26, s24_27, s24_29, s24_31, s24_34, s24_35, s24_36, s24_39, s24_42, s24_43, s24_46, s24_47, s24_50, s24_51, s24_52, s24_55, s24_56, s24_59, s24_62, s24_63, s24_66, s24_67, s24_70, s24_71, s24_74, s24_77, s24_78, s24_81, s24_84, s24_85, s24_87, s24_88, s24_91, s24_92, s24_93, s24_94, s24_97, s24_98, s24_101, s24_102, s24_105, s24_106, s24_109, s24_110, s24_111, s24_114, s24_115, s24_116, s24_119, s24_120, s24_123, okF, okA, mcC_o, mcF_o, mcT_i, mcT_l, mcT_z, mcT_q, mcN_i, mcN_l, mcN_z, mcN_q, mcI_i, mcI_z, mcL_l, mcQ_q, hg_hp, hp_hp, List.getD_cons_zero, List.getD_cons_succ, List.set_cons_zero, List.set_cons_succ, List.length_cons, List.length_nil, Nat.reduceAdd, Nat.reduceLT, Nat.reduceEqDiff, Nat.lt_add_one, decide_true, decide_false, Bool.and_true, Bool.true_and, Bool.and_false, Bool.false_and, Bool.false_eq_true, if_true, if_false, ↓reduceIte, Option.bind_some, Option.bind_none, kont_v, kont_n, FM_23, FM_24, FM_25, FM_26, FM_27, FM_28, FM_29, FM_30, FMp_23, FMp_24, FMp_25, FMp_26, FMp_27, FMp_28, FMp_29, FMp_30, FOO_len, FOO_0, FOO_1, FOO_2, FOO_3, FOO_4, FOO_5, FOO_6, FOO_7, FOO_8, FOO_9, FOO_10, FOO_11, FOO_12, FOOs_8, FOOs_9, FOOs_10, FOOs_11, FOOs_12, true_or, or_true, l1, l2, e, one0, nf]
    · rw [s24_28]
      simp only [s24_0, s24_1, s24_2, s24_5, s24_6, s24_7, s24_10, s24_11, s24_12, s24_15, s24_16, s24_17, s24_20, s24_21, s24_24, s24_25, s24_26, s24_27, s24_29, s24_31, s24_34, s24_35, s24_36, s24_39, s24_42, s24_43, s24_46, s24_47, s24_50, s24_51, s24_52, s24_55, s24_56, s24_59, s24_62, s24_63, s24_66, s24_67, s24_70, s24_71, s24_74, s24_77, s24_78, s24_81, s24_84, s24_85, s24_87, s24_88, s24_91, s24_92, s24_93, s24_94, s24_97, s24_98, s24_101, s24_102, s24_105, s24_106, s24_109, s24_110, s24_111, s24_114, s24_115, s24_116, s24_119, s24_120, s24_123, okF, okA, mcC_o, mcF_o, mcT_i, mcT_l, mcT_z, mcT_q, mcN_i, mcN_l, mcN_z, mcN_q, mcI_i, mcI_z, mcL_l, mcQ_q, hg_hp, hp_hp, List.getD_cons_zero, List.getD_cons_succ, List.set_cons_zero, List.set_cons_succ, List.length_cons, List.length_nil, Nat.reduceAdd, Nat.reduceLT, Nat.reduceEqDiff, Nat.lt_add_one, decide_true, decide_false, Bool.and_true, Bool.true_and, Bool.and_false, Bool.false_and, Bool.false_eq_true, if_true, if_false, ↓reduceIte, Option.bind_some, Option.bind_none, kont_v, kont_n, FM_23, FM_24, FM_25, FM_26, FM_27, FM_28, FM_29, FM_30, FMp_23, FMp_24, FMp_25, FMp_26, FMp_27, FMp_28, FMp_29, FMp_30, FOO_len, FOO_0, FOO_1, FOO_2, FOO_3, FOO_4, FOO_5, FOO_6, FOO_7, FOO_8, FOO_9, FOO_10, FOO_11, FOO_12, FOOs_8, FOOs_9, FOOs_10, FOOs_11, FOOs_12, true_or, or_true, l1, e, one0, nf]
  · have l0 : (0 : Int32) < nI d := nI_lt (a := 0) h0 (by omega)
    by_cases l1 : nI s < (50 : Int32)
    · rw [s24_28]
      simp only [s24_0, s24_1, s24_2, s24_5, s24_6, s24_7, s24_10, s24_11, s24_12, s24_15, s24_16, s24_17, s24_20, s24_21, s24_24, s24_25, s24_26, s24_27, s24_29, s24_31, s24_34, s24_35, s24_36, s24_39, s24_42, s24_43, s24_46, s24_47, s24_50, s24_51, s24_52, s24_55, s24_56, s24_59, s24_62, s24_63, s24_66, s24_67, s24_70, s24_71, s24_74, s24_77, s24_78, s24_81, s24_84, s24_85, s24_87, s24_88, s24_91, s24_92, s24_93, s24_94, s24_97, s24_98, s24_101, s24_102, s24_105, s24_106, s24_109, s24_110, s24_111, s24_114, s24_115, s24_116, s24_119, s24_120, s24_123, okF, okA, mcC_o, mcF_o, mcT_i, mcT_l, mcT_z, mcT_q, mcN_i, mcN_l, mcN_z, mcN_q, mcI_i, mcI_z, mcL_l, mcQ_q, hg_hp, hp_hp, List.getD_cons_zero, List.getD_cons_succ, List.set_cons_zero, List.set_cons_succ, List.length_cons, List.length_nil, Nat.reduceAdd, Nat.reduceLT, Nat.reduceEqDiff, Nat.lt_add_one, decide_true, decide_false, Bool.and_true, Bool.true_and, Bool.and_false, Bool.false_and, Bool.false_eq_true, if_true, if_false, ↓reduceIte, Option.bind_some, Option.bind_none, kont_v, kont_n, FM_23, FM_24, FM_25, FM_26, FM_27, FM_28, FM_29, FM_30, FMp_23, FMp_24, FMp_25, FMp_26, FMp_27, FMp_28, FMp_29, FMp_30, FOO_len, FOO_0, FOO_1, FOO_2, FOO_3, FOO_4, FOO_5, FOO_6, FOO_7, FOO_8, FOO_9, FOO_10, FOO_11, FOO_12, FOOs_8, FOOs_9, FOOs_10, FOOs_11, FOOs_12, true_or, or_true, l1, l2, e, l0, nf]
    · rw [s24_28]
      simp only [s24_0, s24_1, s24_2, s24_5, s24_6, s24_7, s24_10, s24_11, s24_12, s24_15, s24_16, s24_17, s24_20, s24_21, s24_24, s24_25, s24_26, s24_27, s24_29, s24_31, s24_34, s24_35, s24_36, s24_39, s24_42, s24_43, s24_46, s24_47, s24_50, s24_51, s24_52, s24_55, s24_56, s24_59, s24_62, s24_63, s24_66, s24_67, s24_70, s24_71, s24_74, s24_77, s24_78, s24_81, s24_84, s24_85, s24_87, s24_88, s24_91, s24_92, s24_93, s24_94, s24_97, s24_98, s24_101, s24_102, s24_105, s24_106, s24_109, s24_110, s24_111, s24_114, s24_115, s24_116, s24_119, s24_120, s24_123, okF, okA, mcC_o, mcF_o, mcT_i, mcT_l, mcT_z, mcT_q, mcN_i, mcN_l, mcN_z, mcN_q, mcI_i, mcI_z, mcL_l, mcQ_q, hg_hp, hp_hp, List.getD_cons_zero, List.getD_cons_succ, List.set_cons_zero, List.set_cons_succ, List.length_cons, List.length_nil, Nat.reduceAdd, Nat.reduceLT, Nat.reduceEqDiff, Nat.lt_add_one, decide_true, decide_false, Bool.and_true, Bool.true_and, Bool.and_false, Bool.false_and, Bool.false_eq_true, if_true, if_false, ↓reduceIte, Option.bind_some, Option.bind_none, kont_v, kont_n, FM_23, FM_24, FM_25, FM_26, FM_27, FM_28, FM_29, FM_30, FMp_23, FMp_24, FMp_25, FMp_26, FMp_27, FMp_28, FMp_29, FMp_30, FOO_len, FOO_0, FOO_1, FOO_2, FOO_3, FOO_4, FOO_5, FOO_6, FOO_7, FOO_8, FOO_9, FOO_10, FOO_11, FOO_12, FOOs_8, FOOs_9, FOOs_10, FOOs_11, FOOs_12, true_or, or_true, l1, e, l0, nf]
theorem cl_ok {s : Nat} {x : LVS} (hn : n ≤ 50) : ev X 24 28 [.ref 23, a1, .int (nI n), .int (nI (s))] [] (FMH Bc (nI n) (nI 0) (-1) 0 0 sg lt x) = some (some (.int (-1)), (FMH Bc (nI n) (nI 0) (-1) 0 ((ctT x 0).1 0) sg lt (ctT x 0))) := by
  have l2 := nI_nlt (Nat.le_refl n) (by omega)
  have e : ((-1 : Int32) = -1) = True := eq_true rfl
  have l0 : ¬ (0 : Int32) < nI 0 := by decide
  have ct := c_closeTerm (X := X) (B := Bc) (len := nI n) (ft := -1) (wt := 0) (vl := 0) (sg := sg) (lt := lt) (x := x) (d := 0) (by omega)
  have r0 : inR 0 9 = true := by decide
  have c0 : (0 : Int32).toNatClampNeg = 0 := by decide
  generalize ctT x 0 = y at ct ⊢
  obtain ⟨s', p, b, g, j⟩ := y
  by_cases l1 : nI s < (50 : Int32)
  · rw [s24_28]
    simp only [s24_0, s24_1, s24_2, s24_5, s24_6, s24_7, s24_10, s24_11, s24_12, s24_15, s24_16, s24_17, s24_20, s24_21, s24_24, s24_25, s24_26, s24_27, s24_29, s24_31, s24_34, s24_35, s24_36, s24_39, s24_42, s24_43, s24_46, s24_47, s24_50, s24_51, s24_52, s24_55, s24_56, s24_59, s24_62, s24_63, s24_66, s24_67, s24_70, s24_71, s24_74, s24_77, s24_78, s24_81, s24_84, s24_85, s24_87, s24_88, s24_91, s24_92, s24_93, s24_94, s24_97, s24_98, s24_101, s24_102, s24_105, s24_106, s24_109, s24_110, s24_111, s24_114, s24_115, s24_116, s24_119, s24_120, s24_123, okF, okA, mcC_o, mcF_o, mcT_i, mcT_l, mcT_z, mcT_q, mcN_i, mcN_l, mcN_z, mcN_q, mcI_i, mcI_z, mcL_l, mcQ_q, hg_hp, hp_hp, List.getD_cons_zero, List.getD_cons_succ, List.set_cons_zero, List.set_cons_succ, List.length_cons, List.length_nil, Nat.reduceAdd, Nat.reduceLT, Nat.reduceEqDiff, Nat.lt_add_one, decide_true, decide_false, Bool.and_true, Bool.true_and, Bool.and_false, Bool.false_and, Bool.false_eq_true, if_true, if_false, ↓reduceIte, Option.bind_some, Option.bind_none, kont_v, kont_n, FM_23, FM_24, FM_25, FM_26, FM_27, FM_28, FM_29, FM_30, FMp_23, FMp_24, FMp_25, FMp_26, FMp_27, FMp_28, FMp_29, FMp_30, FOO_len, FOO_0, FOO_1, FOO_2, FOO_3, FOO_4, FOO_5, FOO_6, FOO_7, FOO_8, FOO_9, FOO_10, FOO_11, FOO_12, FOOs_8, FOOs_9, FOOs_10, FOOs_11, FOOs_12, true_or, or_true, l1, l2, e, l0, ct, r0, c0]
  · rw [s24_28]
    simp only [s24_0, s24_1, s24_2, s24_5, s24_6, s24_7, s24_10, s24_11, s24_12, s24_15, s24_16, s24_17, s24_20, s24_21, s24_24, s24_25, s24_26, s24_27, s24_29, s24_31, s24_34, s24_35, s24_36, s24_39, s24_42, s24_43, s24_46, s24_47, s24_50, s24_51, s24_52, s24_55, s24_56, s24_59, s24_62, s24_63, s24_66, s24_67, s24_70, s24_71, s24_74, s24_77, s24_78, s24_81, s24_84, s24_85, s24_87, s24_88, s24_91, s24_92, s24_93, s24_94, s24_97, s24_98, s24_101, s24_102, s24_105, s24_106, s24_109, s24_110, s24_111, s24_114, s24_115, s24_116, s24_119, s24_120, s24_123, okF, okA, mcC_o, mcF_o, mcT_i, mcT_l, mcT_z, mcT_q, mcN_i, mcN_l, mcN_z, mcN_q, mcI_i, mcI_z, mcL_l, mcQ_q, hg_hp, hp_hp, List.getD_cons_zero, List.getD_cons_succ, List.set_cons_zero, List.set_cons_succ, List.length_cons, List.length_nil, Nat.reduceAdd, Nat.reduceLT, Nat.reduceEqDiff, Nat.lt_add_one, decide_true, decide_false, Bool.and_true, Bool.true_and, Bool.and_false, Bool.false_and, Bool.false_eq_true, if_true, if_false, ↓reduceIte, Option.bind_some, Option.bind_none, kont_v, kont_n, FM_23, FM_24, FM_25, FM_26, FM_27, FM_28, FM_29, FM_30, FMp_23, FMp_24, FMp_25, FMp_26, FMp_27, FMp_28, FMp_29, FMp_30, FOO_len, FOO_0, FOO_1, FOO_2, FOO_3, FOO_4, FOO_5, FOO_6, FOO_7, FOO_8, FOO_9, FOO_10, FOO_11, FOO_12, FOOs_8, FOOs_9, FOOs_10, FOOs_11, FOOs_12, true_or, or_true, l1, e, l0, ct, r0, c0]
theorem set_any {t : Int32} : ∀ (nw ns : Nat) (st wj W : Nat → Int32), ns + nw ≤ 60 → ∃ ns' nw' st' wj', (ev X 195 0 [.ref 55, .int t] [] (RMH Br Z (nI ns) (nI nw) st wj W)) = some (none, (RMH Br Z (nI ns') (nI nw') st' wj' W)) := by
  intro nw
  induction nw with
  | zero => intro ns st wj W _; exact ⟨ns, 0, st, wj, m_set_0⟩
  | succ nw ih =>
    intro ns st wj W h
    by_cases c : hld (W nw) < t
    · exact ⟨ns, nw + 1, st, wj, m_set_stop (by omega) c⟩
    · obtain ⟨ns', nw', st', wj', e⟩ := ih (ns + 1) (upd st ns (W nw)) (upd wj ns 0) W (by omega)
      exact ⟨ns', nw', st', wj', by rw [m_set_step (by omega) (by omega) c]; exact e⟩
theorem dct_n : ∀ (m i : Nat), i ≤ n → i + dct n q m i ≤ n := by
  intro m
  induction m with
  | zero => intro i h; exact h
  | succ m ih =>
    intro i h
    rw [dct]
    by_cases c : dgb (sgn n q i) = true
    · rw [if_pos c]
      have hi : i < n := by
        by_cases hi : i < n
        · exact hi
        · unfold sgn at c; rw [if_neg hi] at c; exact absurd c (by decide)
      have := ih (i + 1) (by omega)
      omega
    · rw [if_neg c]; exact h
theorem cod {i k : Nat} {k' : Int32} (hi : i < 1000) (hk : k < 10) (e : k' = nI k) : ¬ 10 * nI i + k' = -1 := by
  rw [e, show (10 : Int32) = nI 10 from rfl, nI_mul, nI_add]
  exact nI_m1 (by omega)
theorem cod1 {i : Nat} (hi : i < 1000) : ¬ 10 * nI i + 1 = -1 := cod (k := 1) hi (by omega) rfl
theorem cod2 {i : Nat} (hi : i < 1000) : ¬ 10 * nI i + 2 = -1 := cod (k := 2) hi (by omega) rfl
theorem cod3 {i : Nat} (hi : i < 1000) : ¬ 10 * nI i + 3 = -1 := cod (k := 3) hi (by omega) rfl
/-- both from a place on -/
theorem both_run (h56 : hg Br 56 = iA 16450 S) (hn : n ≤ 50) (hq : ∀ i, i < n → sg i = nI (q i) ∧ q i < 128) (T : TXT S tx n q) (hnm : ∀ l, l < 7 → nm (nI l) = (lt l).toInt64) : ∀ (m i s d ns nw nv : Nat) (x : LVS) (st wj W : Nat → Int32) (V : Nat → Int64) (wt wh : Int32) (a7 a8 a9 : Value), i ≤ n → n - i ≤ m → s ≤ i → d < 9 → ns + nw ≤ i → RPV nm st wj V0 ns nv V → ((wt = 1 ∧ wh = 0 ∧ WLS x W V d nw nv) ∨ (wt = 0 ∧ wh = 1 ∧ ULS x W V d nw nv)) → ∃ (code dp' ft' wt' : Int32) (vl' : Int64) (x' : LVS) (sp' wa' : Int32) (st' wj' W' : Nat → Int32), ev X 24 28 [.ref 23, a1, .int (nI i), .int (nI (s))] [] (FMH Bc (nI n) (nI d) (-1) wt 0 sg lt x) = some (some (.int (code)), (FMH Bc (nI n) dp' ft' wt' vl' sg lt x')) ∧ ev X 194 35 [.ref 55, b1, .int (nI (646 + 51 * tx)), .int (nI n), .int (nI d), .int (wh), .int (nI i), a7, a8, a9] [] (RMH Br Z (nI ns) (nI nw) st wj W) = some (some (.int (code)), (RMH Br Z sp' wa' st' wj' W')) ∧ (code = -1 → ∃ ns', sp' = nI ns' ∧ ns' ≤ 60 ∧ (rpn nm st' wj' V0 ns').2 0 = vl' ∧ VLD nm st' wj' V0 ns') := by
  intro m
  induction m with
  | zero =>
    intro i s d ns nw nv x st wj W V wt wh a7 a8 a9 hi hm hs hd hc R hR
    have li := nI_nlt (Nat.le_refl n) (show n < 2 ^ 31 by omega)
    by_cases en : i = n
    · subst en
      obtain ⟨ns1, nw1, st1, wj1, s1⟩ := set_any (X := X) (Br := Br) (Z := Z) (t := 1) nw ns st wj W (by omega)
      rcases hR with ⟨rfl, rfl, hW⟩ | ⟨rfl, rfl, hU⟩
      · have re := rd_end (X := X) (x := tx) (a1 := b1) (a7 := a7) (a8 := a8) (a9 := a9) hn (d := d) (wh := 0) (by omega) (Or.inl rfl) s1
        rw [if_neg (fun z => absurd z.1 (by decide))] at re
        exact ⟨_, _, _, _, _, _, _, _, _, _, _, cl_bad hn hd (Or.inl rfl), re, fun z => absurd z (cod1 (by omega))⟩
      · by_cases d0 : d = 0
        · subst d0
          obtain ⟨nw0, nv0, ns2, st2, wj2, V2, hb, e2, R2, v2, -, hs2⟩ := S_all (X := X) (B := Br) (Z := Z) hU R (by omega)
          have re := rd_end (X := X) (x := tx) (a1 := b1) (a7 := a7) (a8 := a8) (a9 := a9) hn (d := 0) (wh := 1) (by omega) (Or.inr rfl) e2
          rw [if_pos ⟨rfl, rfl⟩] at re
          refine ⟨_, _, _, _, _, _, _, _, _, _, _, cl_ok hn, re, fun _ => ⟨ns2, rfl, by omega, ?_, R2.2.2⟩⟩
          have z : nw0 = 0 ∧ nv0 = 0 := by
            rcases hb with hb | ⟨k, nw1, h1, -⟩
            · exact hb.2
            · omega
          rw [z.2] at R2 v2
          rw [R2.2.1 0 (by omega), v2]
        · have re := rd_end (X := X) (x := tx) (a1 := b1) (a7 := a7) (a8 := a8) (a9 := a9) hn (d := d) (wh := 1) (by omega) (Or.inr rfl) s1
          rw [if_neg (fun z => d0 z.2)] at re
          exact ⟨_, _, _, _, _, _, _, _, _, _, _, cl_bad hn hd (Or.inr ⟨rfl, by omega⟩), re, fun z => absurd z (cod1 (by omega))⟩
    · omega
  | succ m ih =>
    intro i s d ns nw nv x st wj W V wt wh a7 a8 a9 hi hm hs hd hc R hR
    have li := nI_nlt (Nat.le_refl n) (show n < 2 ^ 31 by omega)
    by_cases en : i = n
    · subst en
      obtain ⟨ns1, nw1, st1, wj1, s1⟩ := set_any (X := X) (Br := Br) (Z := Z) (t := 1) nw ns st wj W (by omega)
      rcases hR with ⟨rfl, rfl, hW⟩ | ⟨rfl, rfl, hU⟩
      · have re := rd_end (X := X) (x := tx) (a1 := b1) (a7 := a7) (a8 := a8) (a9 := a9) hn (d := d) (wh := 0) (by omega) (Or.inl rfl) s1
        rw [if_neg (fun z => absurd z.1 (by decide))] at re
        exact ⟨_, _, _, _, _, _, _, _, _, _, _, cl_bad hn hd (Or.inl rfl), re, fun z => absurd z (cod1 (by omega))⟩
      · by_cases d0 : d = 0
        · subst d0
          obtain ⟨nw0, nv0, ns2, st2, wj2, V2, hb, e2, R2, v2, -, hs2⟩ := S_all (X := X) (B := Br) (Z := Z) hU R (by omega)
          have re := rd_end (X := X) (x := tx) (a1 := b1) (a7 := a7) (a8 := a8) (a9 := a9) hn (d := 0) (wh := 1) (by omega) (Or.inr rfl) e2
          rw [if_pos ⟨rfl, rfl⟩] at re
          refine ⟨_, _, _, _, _, _, _, _, _, _, _, cl_ok hn, re, fun _ => ⟨ns2, rfl, by omega, ?_, R2.2.2⟩⟩
          have z : nw0 = 0 ∧ nv0 = 0 := by
            rcases hb with hb | ⟨k, nw1, h1, -⟩
            · exact hb.2
            · omega
          rw [z.2] at R2 v2
          rw [R2.2.1 0 (by omega), v2]
        · have re := rd_end (X := X) (x := tx) (a1 := b1) (a7 := a7) (a8 := a8) (a9 := a9) hn (d := d) (wh := 1) (by omega) (Or.inr rfl) s1
          rw [if_neg (fun z => d0 z.2)] at re
          exact ⟨_, _, _, _, _, _, _, _, _, _, _, cl_bad hn hd (Or.inr ⟨rfl, by omega⟩), re, fun z => absurd z (cod1 (by omega))⟩
    · have hi' : i < n := by omega
      have q128 := (hq i hi').2
      by_cases c32 : q i = 32
      · -- a space
        have ra := ra_sp (X := X) (B := Bc) (vl := 0) (lt := lt) (x := x) (d := d) hn hq hi' (w := wt) (by rcases hR with z | z; exact Or.inr z.1; exact Or.inl z.1) c32
        have r2 := rd_sp (X := X) (Z := Z) (st := st) (wj := wj) (ww := W) (ns := ns) (nw := nw) (a1 := b1) (a7 := a7) (a8 := a8) (a9 := a9) h56 T hi' (op := nI d) (wh := wh) c32
        have r1 := cl_step (X := X) (a1 := a1) hi' hn hs ra
        rw [r1, r2]
        exact ih (i + 1) (s + 1) d ns nw nv x st wj W V wt wh _ _ _ (by omega) (by omega) (by omega) hd (by omega) R hR
      rcases hR with ⟨rfl, rfl, hW⟩ | ⟨rfl, rfl, hU⟩
      · -- a unit is wanted
        by_cases cd : dgb (q i) = true
        · have ra := ra_dig (X := X) (B := Bc) (vl := 0) (lt := lt) (x := x) (d := d) hn hq hi' hd cd
          have r1 := cl_step (X := X) (a1 := a1) hi' hn hs ra
          have k1 : dct n q 6 i = dct n q 5 (i + 1) + 1 := by
            have es : sgn n q i = q i := by unfold sgn; rw [if_pos hi']
            show (if dgb (sgn n q i) = true then dct n q 5 (i + 1) + 1 else 0) = _
            rw [es, if_pos cd]
          have k2 := dct_n (n := n) (q := q) 6 i hi
          have Ru := R.unit (by omega) (c := 0) (a := dvl n q 6 i 0) (Or.inl rfl)
          obtain ⟨ns', nw', st', wj', V', e3, R3, hU3, hs3⟩ := T_unit (X := X) (B := Br) (Z := Z) hW (u := (dvl n q 6 i 0).toInt64) (fun i hi => updL_ne (by omega)) updL_eq Ru (by omega)
          have r2 := rd_dig (X := X) (Z := Z) (st := st) (wj := wj) (ww := W) (ns := ns) (nw := nw) (a1 := b1) (a7 := a7) (a8 := a8) (a9 := a9) h56 T hi' cd (by omega) (op := nI d) e3
          by_cases c7 : dgb (sgn n q (i + dct n q 6 i)) = true
          · rw [if_pos c7] at r1 r2
            rw [r1, r2]
            exact ⟨_, _, _, _, _, _, _, _, _, _, _, cl_fault (cod2 (by omega)) (by omega) (by omega), rfl, fun z => absurd z (cod2 (by omega))⟩
          · rw [if_neg c7] at r1 r2
            rw [r1, r2]
            exact ih (i + dct n q 6 i) (s + 1) d ns' nw' (nv + 1) _ st' wj' W V' 0 1 _ _ _ k2 (by omega) (by omega) hd (by omega) R3 (Or.inr ⟨rfl, rfl, hU3⟩)
        by_cases c45 : q i = 45
        · have ru := ru_neg (X := X) (B := Bc) (vl := 0) (sg := sg) (lt := lt) (x := x) (n := n) hd (ft := -1) (a := nI i)
          have eq0 : nI (q i) = (45 : Int32) := by rw [c45]; rfl
          rw [← eq0] at ru
          have ra := ra_unit (X := X) (B := Bc) hn hq hi' cd c32 (Or.inl rfl) ru
          rw [if_neg (by decide)] at ra
          have r1 := cl_step (X := X) (a1 := a1) hi' hn hs ra
          have r2 := rd_neg (X := X) (Z := Z) (st := st) (wj := wj) (ww := W) (ns := ns) (nw := nw) (a1 := b1) (a7 := a7) (a8 := a8) (a9 := a9) h56 T hi' c45 (by omega) (op := nI d)
          rw [r1, r2]
          refine ih (i + 1) (s + 1) d ns (nw + 1) nv _ st wj _ V 1 0 _ _ _ (by omega) (by omega) (by omega) hd (by omega) R (Or.inl ⟨rfl, rfl, ?_⟩)
          obtain ⟨nw0, nv0, hb, nw2, nv2, nw3, h1, h2, k, h3, h4, h5⟩ := WLS_iff.mp hW
          have le1 := h1.le
          have le2 := h2.le
          refine WLS_iff.mpr ⟨nw0, nv0, hb.congr (fun j hj => ⟨rfl, rfl, rfl, upd_ne (by omega), rfl⟩) (fun j hj => upd_ne (by omega)) (fun _ _ => rfl), nw2, nv2, nw3, ?_, ?_, k + 1, by omega, fun j hj => ?_, ?_⟩
          · rcases h1 with ⟨a, b, c, e⟩ | ⟨a, b, c, e⟩
            · exact Or.inl ⟨a, b, c, e⟩
            · exact Or.inr ⟨a, b, c, by rw [upd_ne (by omega)]; exact e⟩
          · rcases h2 with ⟨a, b, c⟩ | ⟨a, b, c, e⟩
            · exact Or.inl ⟨a, b, c⟩
            · exact Or.inr ⟨a, b, c, by rw [upd_ne (by omega)]; exact e⟩
          · by_cases z : j = k
            · rw [z, ← h3, upd_eq]
            · rw [upd_ne (by omega)]; exact h4 j (by omega)
          · show upd x.2.2.2.1 d (if x.2.2.2.1 d = 0 then 1 else 0) d = _
            rw [upd_eq, h5]
            rcases (by omega : k % 2 = 0 ∨ k % 2 = 1) with z | z
            · rw [z, if_pos (by decide), show (k + 1) % 2 = 1 by omega]; rfl
            · rw [z, if_neg (by decide), show (k + 1) % 2 = 0 by omega]; rfl
        by_cases c40 : q i = 40
        · by_cases d8 : d = 8
          · subst d8
            have ru := ru_deep (X := X) (B := Bc) (vl := 0) (sg := sg) (lt := lt) (x := x) (n := n) (i := i) (ft := -1)
            have eq0 : nI (q i) = (40 : Int32) := by rw [c40]; rfl
            rw [← eq0] at ru
            have ra := ra_unit (X := X) (B := Bc) hn hq hi' cd c32 (Or.inl rfl) ru
            rw [if_neg (by decide)] at ra
            have r1 := cl_step (X := X) (a1 := a1) hi' hn hs ra
            have r2 := rd_deep (X := X) (Z := Z) (st := st) (wj := wj) (ww := W) (ns := ns) (nw := nw) (a1 := b1) (a7 := a7) (a8 := a8) (a9 := a9) h56 T hi' c40
            rw [r1, r2]
            exact ⟨_, _, _, _, _, _, _, _, _, _, _, cl_fault (cod3 (by omega)) (by omega) (by omega), rfl, fun z => absurd z (cod3 (by omega))⟩
          · have ru := ru_open (X := X) (B := Bc) (vl := 0) (sg := sg) (lt := lt) (x := x) (n := n) (d := d) (by omega) (ft := -1) (a := nI i)
            have eq0 : nI (q i) = (40 : Int32) := by rw [c40]; rfl
            rw [← eq0] at ru
            have ra := ra_unit (X := X) (B := Bc) hn hq hi' cd c32 (Or.inl rfl) ru
            rw [if_neg (by decide)] at ra
            have r1 := cl_step (X := X) (a1 := a1) hi' hn hs ra
            have r2 := rd_open (X := X) (Z := Z) (st := st) (wj := wj) (ww := W) (ns := ns) (nw := nw) (a1 := b1) (a7 := a7) (a8 := a8) (a9 := a9) h56 T hi' c40 (d := d) (by omega) (by omega)
            rw [r1, r2]
            refine ih (i + 1) (s + 1) (d + 1) ns (nw + 1) nv _ st wj _ V 1 0 _ _ _ (by omega) (by omega) (by omega) (by omega) (by omega) R (Or.inl ⟨rfl, rfl, ?_⟩)
            refine ⟨nw, nv, hW.congr d nw nv (fun k hk => ?_) (fun j hj => upd_ne (by omega)) (fun _ _ => rfl), upd_eq, nw + 1, nv, nw + 1, Or.inl ⟨?_, ?_, rfl, rfl⟩, Or.inl ⟨?_, rfl, rfl⟩, 0, rfl, fun j hj => absurd hj (Nat.not_lt_zero j), ?_⟩
            · unfold olL
              exact ⟨updL_ne (by omega), updL_ne (by omega), upd_ne (by omega), upd_ne (by omega), upd_ne (by omega)⟩
            · unfold olL; exact updL_eq
            · unfold olL; exact upd_eq
            · unfold olL; exact upd_eq
            · unfold olL; exact upd_eq
        by_cases cl : ltr (q i) < 7
        · have ru := ru_let (X := X) (B := Bc) (vl := 0) (sg := sg) (lt := lt) (x := x) (n := n) hd (ft := -1) (a := nI i) q128 c45 c40 cl
          have ra := ra_unit (X := X) (B := Bc) hn hq hi' cd c32 (Or.inl rfl) ru
          rw [if_neg (by decide)] at ra
          have r1 := cl_step (X := X) (a1 := a1) hi' hn hs ra
          have Ru := R.unit (by omega) (c := 1) (a := nI (ltr (q i))) (Or.inr rfl)
          obtain ⟨ns', nw', st', wj', V', e3, R3, hU3, hs3⟩ := T_unit (X := X) (B := Br) (Z := Z) hW (u := (lt (ltr (q i))).toInt64) (fun i hi => updL_ne (by omega)) (by
            rw [updL_eq]
            unfold opv
            rw [if_neg (by decide)]
            exact hnm _ cl) Ru (by omega)
          have r2 := rd_let (X := X) (Z := Z) (st := st) (wj := wj) (ww := W) (ns := ns) (nw := nw) (a1 := b1) (a7 := a7) (a8 := a8) (a9 := a9) h56 T hi' c32 cd cl (by omega) (op := nI d) e3
          rw [r1, r2]
          exact ih (i + 1) (s + 1) d ns' nw' (nv + 1) _ st' wj' W V' 0 1 _ _ _ (by omega) (by omega) (by omega) hd (by omega) R3 (Or.inr ⟨rfl, rfl, hU3⟩)
        · have ru := ru_bad (X := X) (B := Bc) (vl := 0) (sg := sg) (lt := lt) (x := x) (n := n) (dp := nI d) (ft := -1) (a := nI i) q128 c45 c40 cl
          have ra := ra_unit (X := X) (B := Bc) hn hq hi' cd c32 (Or.inr ⟨rfl, rfl⟩) ru
          rw [if_pos rfl] at ra
          have r1 := cl_step (X := X) (a1 := a1) hi' hn hs ra
          have r2 := rd_badu (X := X) (Z := Z) (st := st) (wj := wj) (ww := W) (ns := ns) (nw := nw) (a1 := b1) (a7 := a7) (a8 := a8) (a9 := a9) h56 T hi' c32 cd cl c40 c45 (op := nI d)
          rw [r1, r2]
          exact ⟨_, _, _, _, _, _, _, _, _, _, _, cl_fault (cod1 (by omega)) (by omega) (by omega), rfl, fun z => absurd z (cod1 (by omega))⟩
      · -- behind a unit
        by_cases c41 : q i = 41 ∧ 0 < d
        · obtain ⟨c41, d0⟩ := c41
          obtain ⟨d', rfl⟩ : ∃ d', d = d' + 1 := ⟨d - 1, by omega⟩
          have ru := rj_close (X := X) (B := Bc) (vl := 0) (sg := sg) (lt := lt) (x := x) (n := n) (d := d') hd (ft := -1)
          have eq0 : nI (q i) = (41 : Int32) := by rw [c41]; rfl
          rw [← eq0] at ru
          have ra := ra_joint (X := X) (B := Bc) hn hq hi' c32 (Or.inl rfl) ru
          rw [if_neg (by decide)] at ra
          have r1 := cl_step (X := X) (a1 := a1) hi' hn hs ra
          obtain ⟨nw0, nv0, ns1, st1, wj1, V1, hb, e1, R1, v1, hg, hs1⟩ := S_all (X := X) (B := Br) (Z := Z) hU R (by omega)
          rcases hb with hb | ⟨mm, nw1, h1, h2, h3, h4⟩
          · exact absurd hb.1 (by omega)
          · have em : mm = d' := by omega
            subst em
            subst h2
            have hW' : WLS (ctT x (mm + 1)) W V1 mm nw1 nv0 := h4.congr mm _ _ (fun k hk => by
              unfold ctT
              exact ⟨updL_ne (by omega), rfl, rfl, rfl, rfl⟩) (fun _ _ => rfl) (fun _ _ => rfl)
            obtain ⟨ns', nw', st', wj', V', e3, R3, hU3, hs3⟩ := T_unit (X := X) (B := Br) (Z := Z) hW' (fun _ _ => rfl) v1 R1 (by omega)
            have r2 := rd_close (X := X) (Z := Z) (st := st) (wj := wj) (ww := W) (ns := ns) (nw := nw) (a1 := b1) (a7 := a7) (a8 := a8) (a9 := a9) h56 T hi' c41 (d := mm) (by omega) e1 e3
            rw [r1, r2]
            exact ih (i + 1) (s + 1) mm ns' nw' (nv0 + 1) _ st' wj' W V' 0 1 _ _ _ (by omega) (by omega) (by omega) (by omega) (by omega) R3 (Or.inr ⟨rfl, rfl, hU3⟩)
        by_cases ca : q i = 43 ∨ q i = 45
        · obtain ⟨c', sgv, e', e'', hsg, hld1, hbit⟩ : ∃ (c' sgv : Int32), nI (q i) = c' ∧ (c' = 43 ∨ c' = 45) ∧ sgo (q i) = sgv ∧ hld sgv = 1 ∧ ((sgv = 5 ∧ (if c' = 45 then (1 : Int32) else 0) = 0) ∨ (sgv = 6 ∧ (if c' = 45 then (1 : Int32) else 0) = 1)) := by
            rcases ca with z | z
            · exact ⟨43, 5, by rw [z]; rfl, Or.inl rfl, by rw [z]; rfl, by decide, Or.inl ⟨rfl, by decide⟩⟩
            · exact ⟨45, 6, by rw [z]; rfl, Or.inr rfl, by rw [z]; rfl, by decide, Or.inr ⟨rfl, by decide⟩⟩
          have ru := rj_add (X := X) (B := Bc) (vl := 0) (sg := sg) (lt := lt) (x := x) (n := n) hd (ft := -1) e''
          rw [← e'] at ru
          have ra := ra_joint (X := X) (B := Bc) hn hq hi' c32 (Or.inl rfl) ru
          rw [if_neg (by decide)] at ra
          have r1 := cl_step (X := X) (a1 := a1) hi' hn hs ra
          obtain ⟨nw0, nv0, ns1, st1, wj1, V1, hb, e1, R1, v1, hg, hs1⟩ := S_all (X := X) (B := Br) (Z := Z) hU R (by omega)
          rw [← hld1] at e1
          have r2 := rd_sign (X := X) (Z := Z) (st := st) (wj := wj) (ww := W) (ns := ns) (nw := nw) (a1 := b1) (a7 := a7) (a8 := a8) (a9 := a9) h56 T hi' c32 (by omega) hsg (by rcases hbit with z | z <;> rw [z.1] <;> decide) (by omega) (op := nI d) e1
          rw [r1, r2, e']
          refine ih (i + 1) (s + 1) d ns1 (nw0 + 1) (nv0 + 1) _ st1 wj1 _ V1 1 0 _ _ _ (by omega) (by omega) (by omega) hd (by omega) R1 (Or.inl ⟨rfl, rfl, ?_⟩)
          refine WLS_iff.mpr ⟨nw0, nv0, hb.congr (fun j hj => ?_) (fun j hj => upd_ne (by omega)) (fun _ _ => rfl), nw0 + 1, nv0 + 1, nw0 + 1, Or.inr ⟨v1, rfl, rfl, ?_⟩, Or.inl ⟨upd_eq, rfl, rfl⟩, 0, rfl, fun j hj => absurd hj (Nat.not_lt_zero j), hg⟩
          · unfold adL ctT
            exact ⟨updL_ne (by omega), rfl, upd_ne (by omega), rfl, upd_ne (by omega)⟩
          · rw [upd_eq]
            show (sgv = 5 ∧ upd (ctT x d).2.2.1 d (if c' = 45 then 1 else 0) d = 0) ∨ (sgv = 6 ∧ upd (ctT x d).2.2.1 d (if c' = 45 then 1 else 0) d = 1)
            rw [upd_eq]
            exact hbit
        by_cases cm : q i = 42 ∨ q i = 47
        · obtain ⟨c', sgv, e', e'', hsg, hld1, hbit⟩ : ∃ (c' sgv : Int32), nI (q i) = c' ∧ (c' = 42 ∨ c' = 47) ∧ sgo (q i) = sgv ∧ hld sgv = 2 ∧ ((sgv = 3 ∧ c' = 42) ∨ (sgv = 4 ∧ c' = 47)) := by
            rcases cm with z | z
            · exact ⟨42, 3, by rw [z]; rfl, Or.inl rfl, by rw [z]; rfl, by decide, Or.inl ⟨rfl, rfl⟩⟩
            · exact ⟨47, 4, by rw [z]; rfl, Or.inr rfl, by rw [z]; rfl, by decide, Or.inr ⟨rfl, rfl⟩⟩
          have ru := rj_mul (X := X) (B := Bc) (vl := 0) (sg := sg) (lt := lt) (x := x) (n := n) hd (ft := -1) e''
          rw [← e'] at ru
          have ra := ra_joint (X := X) (B := Bc) hn hq hi' c32 (Or.inl rfl) ru
          rw [if_neg (by decide)] at ra
          have r1 := cl_step (X := X) (a1 := a1) hi' hn hs ra
          obtain ⟨nw0, nv0, nw2, nv2, ns1, st1, wj1, V1, hb, hc, e1, R1, v1, hg, hs1⟩ := S_joint (X := X) (B := Br) (Z := Z) hU R (by omega) (t := 2) (by decide)
          have lec := hc.le
          have stp := set_stop (X := X) (B := Br) (Z := Z) (W := W) (nw := nw2) (t := 2) (sp := nI ns1) (st := st1) (wj := wj1) (by omega) (clo_stop hb hc (by decide) (by decide))
          rw [stp, ← hld1] at e1
          have r2 := rd_sign (X := X) (Z := Z) (st := st) (wj := wj) (ww := W) (ns := ns) (nw := nw) (a1 := b1) (a7 := a7) (a8 := a8) (a9 := a9) h56 T hi' c32 (by omega) hsg (by rcases hbit with z | z <;> rw [z.1] <;> decide) (by omega) (op := nI d) e1
          rw [r1, r2, e']
          refine ih (i + 1) (s + 1) d ns1 (nw2 + 1) (nv2 + 1) _ st1 wj1 _ V1 1 0 _ _ _ (by omega) (by omega) (by omega) hd (by omega) R1 (Or.inl ⟨rfl, rfl, ?_⟩)
          refine WLS_iff.mpr ⟨nw0, nv0, hb.congr (fun j hj => ?_) (fun j hj => upd_ne (by omega)) (fun _ _ => rfl), nw2, nv2, nw2 + 1, ?_, Or.inr ⟨v1, rfl, rfl, ?_⟩, 0, rfl, fun j hj => absurd hj (Nat.not_lt_zero j), hg⟩
          · exact ⟨rfl, rfl, rfl, rfl, upd_ne (by omega)⟩
          · rcases hc with ⟨a, b, c, e⟩ | ⟨a, b, c, e⟩
            · exact Or.inl ⟨a, b, c, e⟩
            · exact Or.inr ⟨a, b, c, by rw [upd_ne (by omega)]; exact e⟩
          · rw [upd_eq]
            show (sgv = 3 ∧ upd x.2.2.2.2 d c' d = 42) ∨ (sgv = 4 ∧ upd x.2.2.2.2 d c' d = 47)
            rw [upd_eq]
            exact hbit
        · have ru := rj_bad (X := X) (B := Bc) (vl := 0) (sg := sg) (lt := lt) (x := x) (n := n) (ft := -1) q128 hd c41 (by omega) (by omega) (by omega) (by omega)
          have ra := ra_joint (X := X) (B := Bc) hn hq hi' c32 (Or.inr ⟨rfl, rfl⟩) ru
          rw [if_pos rfl] at ra
          have r1 := cl_step (X := X) (a1 := a1) hi' hn hs ra
          have so : sgo (q i) = -1 := by
            unfold sgo
            rw [if_neg (by omega), if_neg (by omega), if_neg (by omega), if_neg (by omega)]
          have r2 := rd_badj (X := X) (Z := Z) (st := st) (wj := wj) (ww := W) (ns := ns) (nw := nw) (a1 := b1) (a7 := a7) (a8 := a8) (a9 := a9) h56 T hi' c32 (d := d) (by omega) c41 so
          rw [r1, r2]
          exact ⟨_, _, _, _, _, _, _, _, _, _, _, cl_fault (cod1 (by omega)) (by omega) (by omega), rfl, fun z => absurd z (cod1 (by omega))⟩
end RUN

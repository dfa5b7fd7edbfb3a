-- COUNTS: the call
section CN2
variable {X : MX} {t : Nat} {h H : MH} {D : LD} {S IM KP : Nat → Int32}
theorem c_standing (L : LG h 1 D) (F : FIX h) : (ev X 22 0 [.ref 22, .float 0, .float 0] [] (h)) = some (some (.int (nI (stn (D.2.1 2) (D.1 2)))), (h)) := by
  have lp := c_stn_lp (X := X) L F (D.1 2) 0 (by omega)
  rw [show stn (D.2.1 2) 0 = 0 from rfl, nI_0] at lp
  simp only [s22_0, s22_1, s22_2, s22_3, s22_5, s22_6, s22_9, s22_12, s22_15, s22_16, s22_17, s22_20, s22_23, s22_26, s22_29, s22_32, s22_33, okF, okA, mcC_o, mcF_o, mcT_i, mcT_l, mcT_z, mcT_q, mcN_i, mcN_l, mcN_z, mcN_q, mcI_i, mcI_z, mcL_l, mcQ_q, hg_hp, hp_hp, List.getD_cons_zero, List.getD_cons_succ, List.set_cons_zero, List.set_cons_succ, List.length_cons, List.length_nil, Nat.reduceAdd, Nat.reduceLT, Nat.reduceEqDiff, Nat.lt_add_one, decide_true, decide_false, Bool.and_true, Bool.true_and, Bool.and_false, Bool.false_and, Bool.false_eq_true, if_true, if_false, ↓reduceIte, Option.bind_some, Option.bind_none, kont_v, kont_n, lp]
theorem m_countOf (R : REL D S) (b2 : D.1 2 ≤ 120) (F : FIX H) (M : MD H S IM KP) {k : Nat} (hk : k < 8) : ∃ g', (ev X 238 0 [.ref 55, .int (nI k), .float 0, .float 0] [] (H)) = some (some (.int (if k = 3 then nI (stn (D.2.1 2) (D.1 2)) else S (if k < 3 then k else k - 1))), (GH H g')) := by
  obtain ⟨g, eg⟩ := GH_selfE F
  by_cases k3 : k = 3
  · subst k3
    rw [if_pos rfl]
    obtain ⟨-, -, z2, -⟩ := RCC R
    obtain ⟨g', lp⟩ := m_stn_lp (X := X) (a1 := .int (nI 3)) b2 z2 R.2.2.2.2 F M (D.1 2) 0 g (by omega)
    rw [eg, show stn (D.2.1 2) 0 = 0 from rfl, nI_0] at lp
    have e3 : nI 3 = 3 := rfl
    rw [e3] at lp
    rw [e3]
    refine ⟨g', ?_⟩
    simp only [s238_0, s238_1, s238_2, s238_5, s238_6, s238_7, s238_8, s238_10, s238_11, s238_14, s238_15, s238_16, s238_19, s238_20, s238_21, s238_24, s238_25, s238_26, s238_29, s238_32, s238_33, s238_34, s238_36, s238_39, s238_42, s238_43, s238_46, s238_47, s238_48, s238_49, s238_52, s238_55, s238_56, s238_57, s238_58, s238_61, s238_62, s238_63, s238_66, s238_67, s238_70, s238_71, s238_72, s238_73, s238_74, okF, okA, mcC_o, mcF_o, mcT_i, mcT_l, mcT_z, mcT_q, mcN_i, mcN_l, mcN_z, mcN_q, mcI_i, mcI_z, mcL_l, mcQ_q, hg_hp, hp_hp, List.getD_cons_zero, List.getD_cons_succ, List.set_cons_zero, List.set_cons_succ, List.length_cons, List.length_nil, Nat.reduceAdd, Nat.reduceLT, Nat.reduceEqDiff, Nat.lt_add_one, decide_true, decide_false, Bool.and_true, Bool.true_and, Bool.and_false, Bool.false_and, Bool.false_eq_true, if_true, if_false, ↓reduceIte, Option.bind_some, Option.bind_none, kont_v, kont_n, lp, eq_self]
  · rw [if_neg k3]
    have n3 : ¬ nI k = 3 := fun z => k3 ((nI_eq (b := 3) (by omega) (by decide)).mp z)
    obtain ⟨io, wl, pl, sp, wa, se, bc, sv, bq, h0⟩ := F.c55
    refine ⟨g, ?_⟩
    rw [eg]
    by_cases c : k < 3
    · have l : nI k < 3 := nI_lt (a := k) (b := 3) c (by decide)
      rw [if_pos c]
      simp (disch := omega) only [s238_0, s238_1, s238_2, s238_5, s238_6, s238_7, s238_8, s238_10, s238_11, s238_14, s238_15, s238_16, s238_19, s238_20, s238_21, s238_24, s238_25, s238_26, s238_29, s238_32, s238_33, s238_34, s238_36, s238_39, s238_42, s238_43, s238_46, s238_47, s238_48, s238_49, s238_52, s238_55, s238_56, s238_57, s238_58, s238_61, s238_62, s238_63, s238_66, s238_67, s238_70, s238_71, s238_72, s238_73, s238_74, okF, okA, mcC_o, mcF_o, mcT_i, mcT_l, mcT_z, mcT_q, mcN_i, mcN_l, mcN_z, mcN_q, mcI_i, mcI_z, mcL_l, mcQ_q, hg_hp, hp_hp, List.getD_cons_zero, List.getD_cons_succ, List.set_cons_zero, List.set_cons_succ, List.length_cons, List.length_nil, Nat.reduceAdd, Nat.reduceLT, Nat.reduceEqDiff, Nat.lt_add_one, decide_true, decide_false, Bool.and_true, Bool.true_and, Bool.and_false, Bool.false_and, Bool.false_eq_true, if_true, if_false, ↓reduceIte, Option.bind_some, Option.bind_none, kont_v, kont_n, MO_len, MO_0, h0, M.1, n3, l, nI_clamp, inR_n]
    · have l : ¬ nI k < 3 := nI_nlt (a := k) (b := 3) (by omega) (by omega)
      have i2 : nI k - 1 = nI (k - 1) := nI_sub (a := k) (b := 1) (by omega)
      rw [if_neg c]
      simp (disch := omega) only [s238_0, s238_1, s238_2, s238_5, s238_6, s238_7, s238_8, s238_10, s238_11, s238_14, s238_15, s238_16, s238_19, s238_20, s238_21, s238_24, s238_25, s238_26, s238_29, s238_32, s238_33, s238_34, s238_36, s238_39, s238_42, s238_43, s238_46, s238_47, s238_48, s238_49, s238_52, s238_55, s238_56, s238_57, s238_58, s238_61, s238_62, s238_63, s238_66, s238_67, s238_70, s238_71, s238_72, s238_73, s238_74, okF, okA, mcC_o, mcF_o, mcT_i, mcT_l, mcT_z, mcT_q, mcN_i, mcN_l, mcN_z, mcN_q, mcI_i, mcI_z, mcL_l, mcQ_q, hg_hp, hp_hp, List.getD_cons_zero, List.getD_cons_succ, List.set_cons_zero, List.set_cons_succ, List.length_cons, List.length_nil, Nat.reduceAdd, Nat.reduceLT, Nat.reduceEqDiff, Nat.lt_add_one, decide_true, decide_false, Bool.and_true, Bool.true_and, Bool.and_false, Bool.false_and, Bool.false_eq_true, if_true, if_false, ↓reduceIte, Option.bind_some, Option.bind_none, kont_v, kont_n, MO_len, MO_0, h0, M.1, n3, l, i2, nI_clamp, inR_n]
def cnv (D : LD) (k : Nat) : Int32 := if k = 3 then nI (stn (D.2.1 2) (D.1 2)) else nI (D.1 (if k < 4 then k else k - (if k = 4 then 1 else 0)))
theorem cnv_S (R : REL D S) {k : Nat} (hk : k < 8) : (if k = 3 then nI (stn (D.2.1 2) (D.1 2)) else S (if k < 3 then k else k - 1)) = cnv D k := by
  obtain ⟨z0, z1, z2, z3, z4, z5, z6, -⟩ := RCC R
  unfold cnv
  rcases (by omega : k = 0 ∨ k = 1 ∨ k = 2 ∨ k = 3 ∨ k = 4 ∨ k = 5 ∨ k = 6 ∨ k = 7) with rfl | rfl | rfl | rfl | rfl | rfl | rfl | rfl
  · exact z0
  · exact z1
  · exact z2
  · rfl
  · exact z3
  · exact z4
  · exact z5
  · exact z6
theorem c_count (L : LG h 1 D) (F : FIX h) {k : Nat} (hk : k < 8) : (ev X 151 0 [.ref 0, .int (nI k)] [] (h)) = some (some (.int (cnv D k)), (h)) := by
  have cs := c_standing (X := X) L F
  unfold cnv
  rcases (by omega : k = 0 ∨ k = 1 ∨ k = 2 ∨ k = 3 ∨ k = 4 ∨ k = 5 ∨ k = 6 ∨ k = 7) with rfl | rfl | rfl | rfl | rfl | rfl | rfl | rfl
  · rw [show nI 0 = 0 from rfl]
    simp only [s151_0, s151_48, s151_49, s151_52, s151_55, s151_58, s151_59, s151_60, s151_63, s151_66, s151_69, s151_70, s151_71, s151_74, s151_77, s151_80, s151_81, s151_82, s151_85, s151_88, s151_89, s151_90, s151_93, s151_96, s151_99, s151_100, s151_101, s151_104, s151_107, s151_110, s151_111, s151_112, s151_115, s151_118, s151_121, s151_122, s151_123, s151_126, s151_129, s151_132, s151_133, s151_135, s151_1_0, okF, okA, mcC_o, mcF_o, mcT_i, mcT_l, mcT_z, mcT_q, mcN_i, mcN_l, mcN_z, mcN_q, mcI_i, mcI_z, mcL_l, mcQ_q, hg_hp, hp_hp, List.getD_cons_zero, List.getD_cons_succ, List.set_cons_zero, List.set_cons_succ, List.length_cons, List.length_nil, Nat.reduceAdd, Nat.reduceLT, Nat.reduceEqDiff, Nat.lt_add_one, decide_true, decide_false, Bool.and_true, Bool.true_and, Bool.and_false, Bool.false_and, Bool.false_eq_true, if_true, if_false, ↓reduceIte, Option.bind_some, Option.bind_none, kont_v, kont_n, F.c0, lgo L, (lt0 L).1]
  · rw [show nI 1 = 1 from rfl]
    simp only [s151_0, s151_48, s151_49, s151_52, s151_55, s151_58, s151_59, s151_60, s151_63, s151_66, s151_69, s151_70, s151_71, s151_74, s151_77, s151_80, s151_81, s151_82, s151_85, s151_88, s151_89, s151_90, s151_93, s151_96, s151_99, s151_100, s151_101, s151_104, s151_107, s151_110, s151_111, s151_112, s151_115, s151_118, s151_121, s151_122, s151_123, s151_126, s151_129, s151_132, s151_133, s151_135, s151_1_1, okF, okA, mcC_o, mcF_o, mcT_i, mcT_l, mcT_z, mcT_q, mcN_i, mcN_l, mcN_z, mcN_q, mcI_i, mcI_z, mcL_l, mcQ_q, hg_hp, hp_hp, List.getD_cons_zero, List.getD_cons_succ, List.set_cons_zero, List.set_cons_succ, List.length_cons, List.length_nil, Nat.reduceAdd, Nat.reduceLT, Nat.reduceEqDiff, Nat.lt_add_one, decide_true, decide_false, Bool.and_true, Bool.true_and, Bool.and_false, Bool.false_and, Bool.false_eq_true, if_true, if_false, ↓reduceIte, Option.bind_some, Option.bind_none, kont_v, kont_n, F.c0, lgo L, (lt1 L).1]
  · rw [show nI 2 = 2 from rfl]
    simp only [s151_0, s151_48, s151_49, s151_52, s151_55, s151_58, s151_59, s151_60, s151_63, s151_66, s151_69, s151_70, s151_71, s151_74, s151_77, s151_80, s151_81, s151_82, s151_85, s151_88, s151_89, s151_90, s151_93, s151_96, s151_99, s151_100, s151_101, s151_104, s151_107, s151_110, s151_111, s151_112, s151_115, s151_118, s151_121, s151_122, s151_123, s151_126, s151_129, s151_132, s151_133, s151_135, s151_1_2, okF, okA, mcC_o, mcF_o, mcT_i, mcT_l, mcT_z, mcT_q, mcN_i, mcN_l, mcN_z, mcN_q, mcI_i, mcI_z, mcL_l, mcQ_q, hg_hp, hp_hp, List.getD_cons_zero, List.getD_cons_succ, List.set_cons_zero, List.set_cons_succ, List.length_cons, List.length_nil, Nat.reduceAdd, Nat.reduceLT, Nat.reduceEqDiff, Nat.lt_add_one, decide_true, decide_false, Bool.and_true, Bool.true_and, Bool.and_false, Bool.false_and, Bool.false_eq_true, if_true, if_false, ↓reduceIte, Option.bind_some, Option.bind_none, kont_v, kont_n, F.c0, lgo L, (lt2 L).1]
  · rw [show nI 3 = 3 from rfl]
    simp only [s151_0, s151_48, s151_49, s151_52, s151_55, s151_58, s151_59, s151_60, s151_63, s151_66, s151_69, s151_70, s151_71, s151_74, s151_77, s151_80, s151_81, s151_82, s151_85, s151_88, s151_89, s151_90, s151_93, s151_96, s151_99, s151_100, s151_101, s151_104, s151_107, s151_110, s151_111, s151_112, s151_115, s151_118, s151_121, s151_122, s151_123, s151_126, s151_129, s151_132, s151_133, s151_135, s151_1_3, okF, okA, mcC_o, mcF_o, mcT_i, mcT_l, mcT_z, mcT_q, mcN_i, mcN_l, mcN_z, mcN_q, mcI_i, mcI_z, mcL_l, mcQ_q, hg_hp, hp_hp, List.getD_cons_zero, List.getD_cons_succ, List.set_cons_zero, List.set_cons_succ, List.length_cons, List.length_nil, Nat.reduceAdd, Nat.reduceLT, Nat.reduceEqDiff, Nat.lt_add_one, decide_true, decide_false, Bool.and_true, Bool.true_and, Bool.and_false, Bool.false_and, Bool.false_eq_true, if_true, if_false, ↓reduceIte, Option.bind_some, Option.bind_none, kont_v, kont_n, F.c0, F.c22, lgo L, cs]
  · rw [show nI 4 = 4 from rfl]
    simp only [s151_0, s151_48, s151_49, s151_52, s151_55, s151_58, s151_59, s151_60, s151_63, s151_66, s151_69, s151_70, s151_71, s151_74, s151_77, s151_80, s151_81, s151_82, s151_85, s151_88, s151_89, s151_90, s151_93, s151_96, s151_99, s151_100, s151_101, s151_104, s151_107, s151_110, s151_111, s151_112, s151_115, s151_118, s151_121, s151_122, s151_123, s151_126, s151_129, s151_132, s151_133, s151_135, s151_1_4, okF, okA, mcC_o, mcF_o, mcT_i, mcT_l, mcT_z, mcT_q, mcN_i, mcN_l, mcN_z, mcN_q, mcI_i, mcI_z, mcL_l, mcQ_q, hg_hp, hp_hp, List.getD_cons_zero, List.getD_cons_succ, List.set_cons_zero, List.set_cons_succ, List.length_cons, List.length_nil, Nat.reduceAdd, Nat.reduceLT, Nat.reduceEqDiff, Nat.lt_add_one, decide_true, decide_false, Bool.and_true, Bool.true_and, Bool.and_false, Bool.false_and, Bool.false_eq_true, if_true, if_false, ↓reduceIte, Option.bind_some, Option.bind_none, kont_v, kont_n, F.c0, lgo L, (lt3 L).1]
  · rw [show nI 5 = 5 from rfl]
    simp only [s151_0, s151_48, s151_49, s151_52, s151_55, s151_58, s151_59, s151_60, s151_63, s151_66, s151_69, s151_70, s151_71, s151_74, s151_77, s151_80, s151_81, s151_82, s151_85, s151_88, s151_89, s151_90, s151_93, s151_96, s151_99, s151_100, s151_101, s151_104, s151_107, s151_110, s151_111, s151_112, s151_115, s151_118, s151_121, s151_122, s151_123, s151_126, s151_129, s151_132, s151_133, s151_135, s151_1_5, okF, okA, mcC_o, mcF_o, mcT_i, mcT_l, mcT_z, mcT_q, mcN_i, mcN_l, mcN_z, mcN_q, mcI_i, mcI_z, mcL_l, mcQ_q, hg_hp, hp_hp, List.getD_cons_zero, List.getD_cons_succ, List.set_cons_zero, List.set_cons_succ, List.length_cons, List.length_nil, Nat.reduceAdd, Nat.reduceLT, Nat.reduceEqDiff, Nat.lt_add_one, decide_true, decide_false, Bool.and_true, Bool.true_and, Bool.and_false, Bool.false_and, Bool.false_eq_true, if_true, if_false, ↓reduceIte, Option.bind_some, Option.bind_none, kont_v, kont_n, F.c0, lgo L, (lt5 L).1]
  · rw [show nI 6 = 6 from rfl]
    simp only [s151_0, s151_48, s151_49, s151_52, s151_55, s151_58, s151_59, s151_60, s151_63, s151_66, s151_69, s151_70, s151_71, s151_74, s151_77, s151_80, s151_81, s151_82, s151_85, s151_88, s151_89, s151_90, s151_93, s151_96, s151_99, s151_100, s151_101, s151_104, s151_107, s151_110, s151_111, s151_112, s151_115, s151_118, s151_121, s151_122, s151_123, s151_126, s151_129, s151_132, s151_133, s151_135, s151_1_6, okF, okA, mcC_o, mcF_o, mcT_i, mcT_l, mcT_z, mcT_q, mcN_i, mcN_l, mcN_z, mcN_q, mcI_i, mcI_z, mcL_l, mcQ_q, hg_hp, hp_hp, List.getD_cons_zero, List.getD_cons_succ, List.set_cons_zero, List.set_cons_succ, List.length_cons, List.length_nil, Nat.reduceAdd, Nat.reduceLT, Nat.reduceEqDiff, Nat.lt_add_one, decide_true, decide_false, Bool.and_true, Bool.true_and, Bool.and_false, Bool.false_and, Bool.false_eq_true, if_true, if_false, ↓reduceIte, Option.bind_some, Option.bind_none, kont_v, kont_n, F.c0, lgo L, (lt6 L).1]
  · rw [show nI 7 = 7 from rfl]
    simp only [s151_0, s151_48, s151_49, s151_52, s151_55, s151_58, s151_59, s151_60, s151_63, s151_66, s151_69, s151_70, s151_71, s151_74, s151_77, s151_80, s151_81, s151_82, s151_85, s151_88, s151_89, s151_90, s151_93, s151_96, s151_99, s151_100, s151_101, s151_104, s151_107, s151_110, s151_111, s151_112, s151_115, s151_118, s151_121, s151_122, s151_123, s151_126, s151_129, s151_132, s151_133, s151_135, s151_1_7, okF, okA, mcC_o, mcF_o, mcT_i, mcT_l, mcT_z, mcT_q, mcN_i, mcN_l, mcN_z, mcN_q, mcI_i, mcI_z, mcL_l, mcQ_q, hg_hp, hp_hp, List.getD_cons_zero, List.getD_cons_succ, List.set_cons_zero, List.set_cons_succ, List.length_cons, List.length_nil, Nat.reduceAdd, Nat.reduceLT, Nat.reduceEqDiff, Nat.lt_add_one, decide_true, decide_false, Bool.and_true, Bool.true_and, Bool.and_false, Bool.false_and, Bool.false_eq_true, if_true, if_false, ↓reduceIte, Option.bind_some, Option.bind_none, kont_v, kont_n, F.c0, lgo L, (lt7 L).1]
theorem S_count (I : INVD t h D S IM KP) {w : Int32} : SAME X t h 151 [.ref 0, .int w] 237 [.ref 55, .int w] := by
  have I' := I
  obtain ⟨L, F, M, R, N, G⟩ := I
  have b2 := (LBD L).2.2.1
  by_cases g1 : wi w 0 7 = 0
  · have hx : w.toInt < 0 ∨ 7 < w.toInt := by
      unfold wi at g1
      by_cases c1 : w < 0
      · left
        rw [Int32.lt_iff_toInt_lt, z_toInt] at c1
        exact c1
      · right
        rw [if_neg c1] at g1
        by_cases c2 : 7 < w
        · rw [Int32.lt_iff_toInt_lt, show (7 : Int32).toInt = 7 by decide] at c2
          exact c2
        · rw [if_neg c2] at g1
          exact absurd g1 (by decide)
    refine step_id I' (v := .int (-2)) (by simp only [s151_0, s151_48, s151_49, s151_52, s151_55, s151_58, s151_59, s151_60, s151_63, s151_66, s151_69, s151_70, s151_71, s151_74, s151_77, s151_80, s151_81, s151_82, s151_85, s151_88, s151_89, s151_90, s151_93, s151_96, s151_99, s151_100, s151_101, s151_104, s151_107, s151_110, s151_111, s151_112, s151_115, s151_118, s151_121, s151_122, s151_123, s151_126, s151_129, s151_132, s151_133, s151_135, s151_1_d hx, okF, okA, mcC_o, mcF_o, mcT_i, mcT_l, mcT_z, mcT_q, mcN_i, mcN_l, mcN_z, mcN_q, mcI_i, mcI_z, mcL_l, mcQ_q, hg_hp, hp_hp, List.getD_cons_zero, List.getD_cons_succ, List.set_cons_zero, List.set_cons_succ, List.length_cons, List.length_nil, Nat.reduceAdd, Nat.reduceLT, Nat.reduceEqDiff, Nat.lt_add_one, decide_true, decide_false, Bool.and_true, Bool.true_and, Bool.and_false, Bool.false_and, Bool.false_eq_true, if_true, if_false, ↓reduceIte, Option.bind_some, Option.bind_none, kont_v, kont_n, F.c0]) (fun h' q0 q1 => ?_)
    obtain ⟨io, wl, pl, sp, wa, se, bc, sv, bq, h0⟩ := q0
    simp only [s237_0, s237_1, s237_2, s237_4, s237_7, s237_10, s237_11, s237_12, s237_15, s237_18, s237_20, okF, okA, mcC_o, mcF_o, mcT_i, mcT_l, mcT_z, mcT_q, mcN_i, mcN_l, mcN_z, mcN_q, mcI_i, mcI_z, mcL_l, mcQ_q, hg_hp, hp_hp, List.getD_cons_zero, List.getD_cons_succ, List.set_cons_zero, List.set_cons_succ, List.length_cons, List.length_nil, Nat.reduceAdd, Nat.reduceLT, Nat.reduceEqDiff, Nat.lt_add_one, decide_true, decide_false, Bool.and_true, Bool.true_and, Bool.and_false, Bool.false_and, Bool.false_eq_true, if_true, if_false, ↓reduceIte, Option.bind_some, Option.bind_none, kont_v, kont_n, h0, m_in, g1]
  · obtain ⟨k, -, hk, rfl⟩ := wit_n (a := 0) (b := 7) (by decide) (wi_1 g1).2 (by decide)
    have hk : k < 8 := by omega
    refine step_ok I' (D' := D) (v := .int (cnv D k)) ⟨_, c_count L F hk, COK.refl F, L⟩ (fun h' F' M' => ?_) R (N.mono (by omega))
    obtain ⟨g', mc⟩ := m_countOf (X := X) R b2 F' M' hk
    rw [cnv_S R hk] at mc
    obtain ⟨io, wl, pl, sp, wa, se, bc, sv, bq, h0⟩ := F'.c55
    refine ⟨GH h' g', ?_, GH_MOK F', M'.gh⟩
    simp only [s237_0, s237_1, s237_2, s237_4, s237_7, s237_10, s237_11, s237_12, s237_15, s237_18, s237_20, okF, okA, mcC_o, mcF_o, mcT_i, mcT_l, mcT_z, mcT_q, mcN_i, mcN_l, mcN_z, mcN_q, mcI_i, mcI_z, mcL_l, mcQ_q, hg_hp, hp_hp, List.getD_cons_zero, List.getD_cons_succ, List.set_cons_zero, List.set_cons_succ, List.length_cons, List.length_nil, Nat.reduceAdd, Nat.reduceLT, Nat.reduceEqDiff, Nat.lt_add_one, decide_true, decide_false, Bool.and_true, Bool.true_and, Bool.and_false, Bool.false_and, Bool.false_eq_true, if_true, if_false, ↓reduceIte, Option.bind_some, Option.bind_none, kont_v, kont_n, h0, m_in, g1, mc]
end CN2

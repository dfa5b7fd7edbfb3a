-- PHRASES: the class
def p_att (who t : Int32) (s : PS) : PS := if s.2.1 = 1 - who ∧ s.2.2.1 = t then (-1, s.2.1, s.2.2.1, t, s.2.2.2.2.1, s.2.2.2.2.2) else if s.1 = -1 ∧ ¬ s.2.2.2.1 = t then (who, who, t, s.2.2.2.1, s.2.2.2.2.1, s.2.2.2.2.2) else s
def p_set (who t : Int32) (s : PS) : PS := if who = 0 then (s.1, s.2.1, s.2.2.1, s.2.2.2.1, t, s.2.2.2.2.2) else (s.1, s.2.1, s.2.2.1, s.2.2.2.1, s.2.2.2.2.1, t)
def p_par (who : Int32) (s : PS) : Int32 := if who = 0 then s.2.2.2.2.1 else s.2.2.2.2.2
def p_rip (rw who t : Int32) (s : PS) : PS := if ¬ p_par who s = -1 ∧ ¬ rw < t - p_par who s ∧ s.1 = -1 then p_set who (-1) (who, s.2) else s
theorem PHO_len {rw : Int32} {s : PS} : (PHO rw s).length = 8 := rfl
theorem PHO_0 {rw : Int32} {s : PS} : (PHO rw s).getD 0 .null = .ref 2 := rfl
theorem PHO_1 {rw : Int32} {s : PS} : (PHO rw s).getD 1 .null = .int rw := rfl
theorem PHO_2 {rw : Int32} {s : PS} : (PHO rw s).getD 2 .null = .int s.1 := rfl
theorem PHO_3 {rw : Int32} {s : PS} : (PHO rw s).getD 3 .null = .int s.2.1 := rfl
theorem PHO_4 {rw : Int32} {s : PS} : (PHO rw s).getD 4 .null = .int s.2.2.1 := rfl
theorem PHO_5 {rw : Int32} {s : PS} : (PHO rw s).getD 5 .null = .int s.2.2.2.1 := rfl
theorem PHO_6 {rw : Int32} {s : PS} : (PHO rw s).getD 6 .null = .int s.2.2.2.2.1 := rfl
theorem PHO_7 {rw : Int32} {s : PS} : (PHO rw s).getD 7 .null = .int s.2.2.2.2.2 := rfl
theorem PHOs_1 {rw x : Int32} {s : PS} : (PHO rw s).set 1 (.int x) = PHO x s := rfl
theorem PHOs_2 {rw x : Int32} {s : PS} : (PHO rw s).set 2 (.int x) = PHO rw (x, s.2) := rfl
theorem PHOs_3 {rw x : Int32} {s : PS} : (PHO rw s).set 3 (.int x) = PHO rw (s.1, x, s.2.2) := rfl
theorem PHOs_4 {rw x : Int32} {s : PS} : (PHO rw s).set 4 (.int x) = PHO rw (s.1, s.2.1, x, s.2.2.2) := rfl
theorem PHOs_5 {rw x : Int32} {s : PS} : (PHO rw s).set 5 (.int x) = PHO rw (s.1, s.2.1, s.2.2.1, x, s.2.2.2.2) := rfl
theorem PHOs_6 {rw x : Int32} {s : PS} : (PHO rw s).set 6 (.int x) = PHO rw (s.1, s.2.1, s.2.2.1, s.2.2.2.1, x, s.2.2.2.2.2) := rfl
theorem PHOs_7 {rw x : Int32} {s : PS} : (PHO rw s).set 7 (.int x) = PHO rw (s.1, s.2.1, s.2.2.1, s.2.2.2.1, s.2.2.2.2.1, x) := rfl
section PHR
variable {X : MX} {h : MH} {rw who t : Int32} {s : PS}
theorem c_attack (h0 : hg h 21 = oB 5 (PHO rw s)) : ev X 54 0 [.ref 21, .int who, .int t] [] h = some (none, hp h 21 (oB 5 (PHO rw (p_att who t s)))) := by
  simp only [s54_0, s54_1, s54_4, s54_5, s54_6, s54_7, s54_10, s54_11, s54_14, s54_15, s54_18, s54_19, s54_20, s54_23, s54_24, s54_25, s54_28, s54_31, s54_32, s54_35, s54_36, s54_39, s54_40, s54_43, s54_44, s54_47, s54_48, s54_49, s54_52, s54_53, s54_54, s54_57, s54_58, s54_59, s54_62, okF, okA, mcC_o, mcF_o, mcT_i, mcT_l, mcT_z, mcT_q, mcN_i, mcN_l, mcN_z, mcN_q, mcI_i, mcI_z, mcL_l, mcQ_q, hg_hp, hp_hp, List.getD_cons_zero, List.getD_cons_succ, List.set_cons_zero, List.set_cons_succ, List.length_cons, List.length_nil, Nat.reduceAdd, Nat.reduceLT, Nat.reduceEqDiff, Nat.lt_add_one, decide_true, decide_false, Bool.and_true, Bool.true_and, Bool.and_false, Bool.false_and, Bool.false_eq_true, if_true, if_false, ↓reduceIte, Option.bind_some, Option.bind_none, kont_v, kont_n, h0, PHO]
  unfold p_att
  obtain ⟨ho, at_, aa, sh, fp, sq⟩ := s
  by_cases h1 : at_ = 1 - who
  · by_cases h2 : aa = t
    · simp [h1, h2]
    · by_cases h3 : ho = -1
      · by_cases h4 : sh = t
        · simp [h1, h2, h3, h4]; rw [hp_self]; rw [h0]; simp [PHO, h1, h3, h4]
        · simp [h1, h2, h3, h4]
      · simp [h1, h2, h3]; rw [hp_self]; rw [h0]; simp [PHO, h1]
  · by_cases h3 : ho = -1
    · by_cases h4 : sh = t
      · simp [h1, h3, h4]; rw [hp_self]; rw [h0]; simp [PHO, h3, h4]
      · simp [h1, h3, h4]
    · simp [h1, h3]; rw [hp_self]; rw [h0]; simp [PHO]
theorem c_setParry (h0 : hg h 21 = oB 5 (PHO rw s)) : ev X 55 0 [.ref 21, .int who, .int t] [] h = some (none, hp h 21 (oB 5 (PHO rw (p_set who t s)))) := by
  simp only [s55_0, s55_1, s55_4, s55_5, s55_6, s55_9, s55_12, s55_13, s55_14, s55_17, okF, okA, mcC_o, mcF_o, mcT_i, mcT_l, mcT_z, mcT_q, mcN_i, mcN_l, mcN_z, mcN_q, mcI_i, mcI_z, mcL_l, mcQ_q, hg_hp, hp_hp, List.getD_cons_zero, List.getD_cons_succ, List.set_cons_zero, List.set_cons_succ, List.length_cons, List.length_nil, Nat.reduceAdd, Nat.reduceLT, Nat.reduceEqDiff, Nat.lt_add_one, decide_true, decide_false, Bool.and_true, Bool.true_and, Bool.and_false, Bool.false_and, Bool.false_eq_true, if_true, if_false, ↓reduceIte, Option.bind_some, Option.bind_none, kont_v, kont_n, h0, PHO]
  unfold p_set
  by_cases h1 : who = 0
  · simp [h1]
  · simp [h1]
theorem c_riposte (h0 : hg h 21 = oB 5 (PHO rw s)) : ev X 56 0 [.ref 21, .int who, .int t, .float 0] [] h = some (none, hp h 21 (oB 5 (PHO rw (p_rip rw who t s)))) := by
  obtain ⟨ho, at_, aa, sh, fp, sq⟩ := s
  have h1 : hg (hp h 21 (oB 5 (PHO rw (who, at_, aa, sh, fp, sq)))) 21 = oB 5 (PHO rw (who, at_, aa, sh, fp, sq)) := by rw [hg_hp, if_pos rfl]
  have e := c_setParry (X := X) (who := who) (t := -1) h1
  rw [hp_hp] at e
  have f0 := h0
  simp only [PHO] at e h0
  unfold p_rip p_par
  by_cases hw : who = 0
  · by_cases q1 : fp = -1
    · simp only [s56_0, s56_1, s56_4, s56_5, s56_8, s56_11, s56_12, s56_15, s56_16, s56_17, s56_18, s56_21, s56_22, s56_23, s56_24, s56_25, s56_28, s56_31, s56_32, s56_35, s56_36, s56_39, s56_40, s56_41, s56_44, s56_45, s56_46, s56_47, s56_50, okF, okA, mcC_o, mcF_o, mcT_i, mcT_l, mcT_z, mcT_q, mcN_i, mcN_l, mcN_z, mcN_q, mcI_i, mcI_z, mcL_l, mcQ_q, hg_hp, hp_hp, List.getD_cons_zero, List.getD_cons_succ, List.set_cons_zero, List.set_cons_succ, List.length_cons, List.length_nil, Nat.reduceAdd, Nat.reduceLT, Nat.reduceEqDiff, Nat.lt_add_one, decide_true, decide_false, Bool.and_true, Bool.true_and, Bool.and_false, Bool.false_and, Bool.false_eq_true, if_true, if_false, ↓reduceIte, Option.bind_some, Option.bind_none, kont_v, kont_n, h0, hw, q1, not_true, false_and]
      rw [hp_self]; rw [f0, q1]
    · by_cases q2 : rw < t - fp
      · simp only [s56_0, s56_1, s56_4, s56_5, s56_8, s56_11, s56_12, s56_15, s56_16, s56_17, s56_18, s56_21, s56_22, s56_23, s56_24, s56_25, s56_28, s56_31, s56_32, s56_35, s56_36, s56_39, s56_40, s56_41, s56_44, s56_45, s56_46, s56_47, s56_50, okF, okA, mcC_o, mcF_o, mcT_i, mcT_l, mcT_z, mcT_q, mcN_i, mcN_l, mcN_z, mcN_q, mcI_i, mcI_z, mcL_l, mcQ_q, hg_hp, hp_hp, List.getD_cons_zero, List.getD_cons_succ, List.set_cons_zero, List.set_cons_succ, List.length_cons, List.length_nil, Nat.reduceAdd, Nat.reduceLT, Nat.reduceEqDiff, Nat.lt_add_one, decide_true, decide_false, Bool.and_true, Bool.true_and, Bool.and_false, Bool.false_and, Bool.false_eq_true, if_true, if_false, ↓reduceIte, Option.bind_some, Option.bind_none, kont_v, kont_n, h0, hw, q1, q2, not_true, not_false_iff, false_and, and_false]
        rw [hp_self]; exact f0
      · by_cases q3 : ho = -1
        · subst hw
          simp only [s56_0, s56_1, s56_4, s56_5, s56_8, s56_11, s56_12, s56_15, s56_16, s56_17, s56_18, s56_21, s56_22, s56_23, s56_24, s56_25, s56_28, s56_31, s56_32, s56_35, s56_36, s56_39, s56_40, s56_41, s56_44, s56_45, s56_46, s56_47, s56_50, okF, okA, mcC_o, mcF_o, mcT_i, mcT_l, mcT_z, mcT_q, mcN_i, mcN_l, mcN_z, mcN_q, mcI_i, mcI_z, mcL_l, mcQ_q, hg_hp, hp_hp, List.getD_cons_zero, List.getD_cons_succ, List.set_cons_zero, List.set_cons_succ, List.length_cons, List.length_nil, Nat.reduceAdd, Nat.reduceLT, Nat.reduceEqDiff, Nat.lt_add_one, decide_true, decide_false, Bool.and_true, Bool.true_and, Bool.and_false, Bool.false_and, Bool.false_eq_true, if_true, if_false, ↓reduceIte, Option.bind_some, Option.bind_none, kont_v, kont_n, h0, q1, q2, q3, e, not_false_iff, and_true, true_and, PHO]
        · simp only [s56_0, s56_1, s56_4, s56_5, s56_8, s56_11, s56_12, s56_15, s56_16, s56_17, s56_18, s56_21, s56_22, s56_23, s56_24, s56_25, s56_28, s56_31, s56_32, s56_35, s56_36, s56_39, s56_40, s56_41, s56_44, s56_45, s56_46, s56_47, s56_50, okF, okA, mcC_o, mcF_o, mcT_i, mcT_l, mcT_z, mcT_q, mcN_i, mcN_l, mcN_z, mcN_q, mcI_i, mcI_z, mcL_l, mcQ_q, hg_hp, hp_hp, List.getD_cons_zero, List.getD_cons_succ, List.set_cons_zero, List.set_cons_succ, List.length_cons, List.length_nil, Nat.reduceAdd, Nat.reduceLT, Nat.reduceEqDiff, Nat.lt_add_one, decide_true, decide_false, Bool.and_true, Bool.true_and, Bool.and_false, Bool.false_and, Bool.false_eq_true, if_true, if_false, ↓reduceIte, Option.bind_some, Option.bind_none, kont_v, kont_n, h0, hw, q1, q2, q3, not_true, not_false_iff, false_and, and_false]
          rw [hp_self]; exact f0
  · by_cases q1 : sq = -1
    · simp only [s56_0, s56_1, s56_4, s56_5, s56_8, s56_11, s56_12, s56_15, s56_16, s56_17, s56_18, s56_21, s56_22, s56_23, s56_24, s56_25, s56_28, s56_31, s56_32, s56_35, s56_36, s56_39, s56_40, s56_41, s56_44, s56_45, s56_46, s56_47, s56_50, okF, okA, mcC_o, mcF_o, mcT_i, mcT_l, mcT_z, mcT_q, mcN_i, mcN_l, mcN_z, mcN_q, mcI_i, mcI_z, mcL_l, mcQ_q, hg_hp, hp_hp, List.getD_cons_zero, List.getD_cons_succ, List.set_cons_zero, List.set_cons_succ, List.length_cons, List.length_nil, Nat.reduceAdd, Nat.reduceLT, Nat.reduceEqDiff, Nat.lt_add_one, decide_true, decide_false, Bool.and_true, Bool.true_and, Bool.and_false, Bool.false_and, Bool.false_eq_true, if_true, if_false, ↓reduceIte, Option.bind_some, Option.bind_none, kont_v, kont_n, h0, hw, q1, not_true, false_and]
      rw [hp_self]; rw [f0, q1]
    · by_cases q2 : rw < t - sq
      · simp only [s56_0, s56_1, s56_4, s56_5, s56_8, s56_11, s56_12, s56_15, s56_16, s56_17, s56_18, s56_21, s56_22, s56_23, s56_24, s56_25, s56_28, s56_31, s56_32, s56_35, s56_36, s56_39, s56_40, s56_41, s56_44, s56_45, s56_46, s56_47, s56_50, okF, okA, mcC_o, mcF_o, mcT_i, mcT_l, mcT_z, mcT_q, mcN_i, mcN_l, mcN_z, mcN_q, mcI_i, mcI_z, mcL_l, mcQ_q, hg_hp, hp_hp, List.getD_cons_zero, List.getD_cons_succ, List.set_cons_zero, List.set_cons_succ, List.length_cons, List.length_nil, Nat.reduceAdd, Nat.reduceLT, Nat.reduceEqDiff, Nat.lt_add_one, decide_true, decide_false, Bool.and_true, Bool.true_and, Bool.and_false, Bool.false_and, Bool.false_eq_true, if_true, if_false, ↓reduceIte, Option.bind_some, Option.bind_none, kont_v, kont_n, h0, hw, q1, q2, not_true, not_false_iff, false_and, and_false]
        rw [hp_self]; exact f0
      · by_cases q3 : ho = -1
        · simp only [s56_0, s56_1, s56_4, s56_5, s56_8, s56_11, s56_12, s56_15, s56_16, s56_17, s56_18, s56_21, s56_22, s56_23, s56_24, s56_25, s56_28, s56_31, s56_32, s56_35, s56_36, s56_39, s56_40, s56_41, s56_44, s56_45, s56_46, s56_47, s56_50, okF, okA, mcC_o, mcF_o, mcT_i, mcT_l, mcT_z, mcT_q, mcN_i, mcN_l, mcN_z, mcN_q, mcI_i, mcI_z, mcL_l, mcQ_q, hg_hp, hp_hp, List.getD_cons_zero, List.getD_cons_succ, List.set_cons_zero, List.set_cons_succ, List.length_cons, List.length_nil, Nat.reduceAdd, Nat.reduceLT, Nat.reduceEqDiff, Nat.lt_add_one, decide_true, decide_false, Bool.and_true, Bool.true_and, Bool.and_false, Bool.false_and, Bool.false_eq_true, if_true, if_false, ↓reduceIte, Option.bind_some, Option.bind_none, kont_v, kont_n, h0, hw, q1, q2, q3, e, not_false_iff, and_true, true_and, PHO]
        · simp only [s56_0, s56_1, s56_4, s56_5, s56_8, s56_11, s56_12, s56_15, s56_16, s56_17, s56_18, s56_21, s56_22, s56_23, s56_24, s56_25, s56_28, s56_31, s56_32, s56_35, s56_36, s56_39, s56_40, s56_41, s56_44, s56_45, s56_46, s56_47, s56_50, okF, okA, mcC_o, mcF_o, mcT_i, mcT_l, mcT_z, mcT_q, mcN_i, mcN_l, mcN_z, mcN_q, mcI_i, mcI_z, mcL_l, mcQ_q, hg_hp, hp_hp, List.getD_cons_zero, List.getD_cons_succ, List.set_cons_zero, List.set_cons_succ, List.length_cons, List.length_nil, Nat.reduceAdd, Nat.reduceLT, Nat.reduceEqDiff, Nat.lt_add_one, decide_true, decide_false, Bool.and_true, Bool.true_and, Bool.and_false, Bool.false_and, Bool.false_eq_true, if_true, if_false, ↓reduceIte, Option.bind_some, Option.bind_none, kont_v, kont_n, h0, hw, q1, q2, q3, not_true, not_false_iff, false_and, and_false]
          rw [hp_self]; exact f0
def p_fol (rw sort who t : Int32) (s : PS) : PS := if sort = 0 then p_att who t s else if sort = 1 then (if s.1 = 1 - who then p_set who t (-1, s.2) else s) else if sort = 2 then p_rip rw who t s else if sort = 3 then (if s.1 = who then (-1, s.2) else s) else s
theorem c_follow (h0 : hg h 21 = oB 5 (PHO rw s)) {sort : Int32} (hs : sort = 0 ∨ sort = 1 ∨ sort = 2 ∨ sort = 3 ∨ sort = 4) : ev X 53 0 [.ref 21, .int sort, .int who, .int t] [] h = some (none, hp h 21 (oB 5 (PHO rw (p_fol rw sort who t s)))) := by
  have h1 : hg (hp h 21 (oB 5 (PHO rw (-1, s.2)))) 21 = oB 5 (PHO rw (-1, s.2)) := by rw [hg_hp, if_pos rfl]
  have e := c_setParry (X := X) (who := who) (t := t) h1
  rw [hp_hp] at e
  have e1 := c_attack (X := X) (who := who) (t := t) h0
  have e2 := c_riposte (X := X) (who := who) (t := t) h0
  have n1 : ¬ (1 : Int32) = 0 := by decide
  have n2 : ¬ (2 : Int32) = 0 := by decide
  have n3 : ¬ (2 : Int32) = 1 := by decide
  have n4 : ¬ (3 : Int32) = 0 := by decide
  have n5 : ¬ (3 : Int32) = 1 := by decide
  have n6 : ¬ (3 : Int32) = 2 := by decide
  have n7 : ¬ (4 : Int32) = 0 := by decide
  have n8 : ¬ (4 : Int32) = 1 := by decide
  have n9 : ¬ (4 : Int32) = 2 := by decide
  have n10 : ¬ (4 : Int32) = 3 := by decide
  unfold p_fol
  rcases hs with rfl | rfl | rfl | rfl | rfl
  · simp only [s53_0, s53_1_0, s53_1_1, s53_1_2, s53_1_3, s53_1_d, s53_32, s53_33, s53_34, s53_35, s53_38, s53_41, s53_42, s53_45, s53_46, s53_47, s53_48, s53_51, s53_52, s53_53, s53_56, s53_57, s53_58, s53_59, s53_62, s53_65, s53_66, s53_67, s53_68, s53_71, s53_74, s53_75, s53_78, s53_79, s53_82, s53_83, s53_84, s53_87, s53_90, okF, okA, mcC_o, mcF_o, mcT_i, mcT_l, mcT_z, mcT_q, mcN_i, mcN_l, mcN_z, mcN_q, mcI_i, mcI_z, mcL_l, mcQ_q, hg_hp, hp_hp, List.getD_cons_zero, List.getD_cons_succ, List.set_cons_zero, List.set_cons_succ, List.length_cons, List.length_nil, Nat.reduceAdd, Nat.reduceLT, Nat.reduceEqDiff, Nat.lt_add_one, decide_true, decide_false, Bool.and_true, Bool.true_and, Bool.and_false, Bool.false_and, Bool.false_eq_true, if_true, if_false, ↓reduceIte, Option.bind_some, Option.bind_none, kont_v, kont_n, PHO_len, PHO_0, PHO_1, PHO_2, PHO_3, PHO_4, PHO_5, PHO_6, PHO_7, PHOs_1, PHOs_2, PHOs_3, PHOs_4, PHOs_5, PHOs_6, PHOs_7, h0, e1]
  · by_cases q : s.1 = 1 - who
    · simp only [s53_0, s53_1_0, s53_1_1, s53_1_2, s53_1_3, s53_1_d, s53_32, s53_33, s53_34, s53_35, s53_38, s53_41, s53_42, s53_45, s53_46, s53_47, s53_48, s53_51, s53_52, s53_53, s53_56, s53_57, s53_58, s53_59, s53_62, s53_65, s53_66, s53_67, s53_68, s53_71, s53_74, s53_75, s53_78, s53_79, s53_82, s53_83, s53_84, s53_87, s53_90, okF, okA, mcC_o, mcF_o, mcT_i, mcT_l, mcT_z, mcT_q, mcN_i, mcN_l, mcN_z, mcN_q, mcI_i, mcI_z, mcL_l, mcQ_q, hg_hp, hp_hp, List.getD_cons_zero, List.getD_cons_succ, List.set_cons_zero, List.set_cons_succ, List.length_cons, List.length_nil, Nat.reduceAdd, Nat.reduceLT, Nat.reduceEqDiff, Nat.lt_add_one, decide_true, decide_false, Bool.and_true, Bool.true_and, Bool.and_false, Bool.false_and, Bool.false_eq_true, if_true, if_false, ↓reduceIte, Option.bind_some, Option.bind_none, kont_v, kont_n, PHO_len, PHO_0, PHO_1, PHO_2, PHO_3, PHO_4, PHO_5, PHO_6, PHO_7, PHOs_1, PHOs_2, PHOs_3, PHOs_4, PHOs_5, PHOs_6, PHOs_7, h0, q, e, n1]
    · simp only [s53_0, s53_1_0, s53_1_1, s53_1_2, s53_1_3, s53_1_d, s53_32, s53_33, s53_34, s53_35, s53_38, s53_41, s53_42, s53_45, s53_46, s53_47, s53_48, s53_51, s53_52, s53_53, s53_56, s53_57, s53_58, s53_59, s53_62, s53_65, s53_66, s53_67, s53_68, s53_71, s53_74, s53_75, s53_78, s53_79, s53_82, s53_83, s53_84, s53_87, s53_90, okF, okA, mcC_o, mcF_o, mcT_i, mcT_l, mcT_z, mcT_q, mcN_i, mcN_l, mcN_z, mcN_q, mcI_i, mcI_z, mcL_l, mcQ_q, hg_hp, hp_hp, List.getD_cons_zero, List.getD_cons_succ, List.set_cons_zero, List.set_cons_succ, List.length_cons, List.length_nil, Nat.reduceAdd, Nat.reduceLT, Nat.reduceEqDiff, Nat.lt_add_one, decide_true, decide_false, Bool.and_true, Bool.true_and, Bool.and_false, Bool.false_and, Bool.false_eq_true, if_true, if_false, ↓reduceIte, Option.bind_some, Option.bind_none, kont_v, kont_n, PHO_len, PHO_0, PHO_1, PHO_2, PHO_3, PHO_4, PHO_5, PHO_6, PHO_7, PHOs_1, PHOs_2, PHOs_3, PHOs_4, PHOs_5, PHOs_6, PHOs_7, h0, q, n1]
      rw [hp_self h0]
  · simp only [s53_0, s53_1_0, s53_1_1, s53_1_2, s53_1_3, s53_1_d, s53_32, s53_33, s53_34, s53_35, s53_38, s53_41, s53_42, s53_45, s53_46, s53_47, s53_48, s53_51, s53_52, s53_53, s53_56, s53_57, s53_58, s53_59, s53_62, s53_65, s53_66, s53_67, s53_68, s53_71, s53_74, s53_75, s53_78, s53_79, s53_82, s53_83, s53_84, s53_87, s53_90, okF, okA, mcC_o, mcF_o, mcT_i, mcT_l, mcT_z, mcT_q, mcN_i, mcN_l, mcN_z, mcN_q, mcI_i, mcI_z, mcL_l, mcQ_q, hg_hp, hp_hp, List.getD_cons_zero, List.getD_cons_succ, List.set_cons_zero, List.set_cons_succ, List.length_cons, List.length_nil, Nat.reduceAdd, Nat.reduceLT, Nat.reduceEqDiff, Nat.lt_add_one, decide_true, decide_false, Bool.and_true, Bool.true_and, Bool.and_false, Bool.false_and, Bool.false_eq_true, if_true, if_false, ↓reduceIte, Option.bind_some, Option.bind_none, kont_v, kont_n, PHO_len, PHO_0, PHO_1, PHO_2, PHO_3, PHO_4, PHO_5, PHO_6, PHO_7, PHOs_1, PHOs_2, PHOs_3, PHOs_4, PHOs_5, PHOs_6, PHOs_7, h0, e2, n2, n3]
  · by_cases q : s.1 = who
    · simp only [s53_0, s53_1_0, s53_1_1, s53_1_2, s53_1_3, s53_1_d, s53_32, s53_33, s53_34, s53_35, s53_38, s53_41, s53_42, s53_45, s53_46, s53_47, s53_48, s53_51, s53_52, s53_53, s53_56, s53_57, s53_58, s53_59, s53_62, s53_65, s53_66, s53_67, s53_68, s53_71, s53_74, s53_75, s53_78, s53_79, s53_82, s53_83, s53_84, s53_87, s53_90, okF, okA, mcC_o, mcF_o, mcT_i, mcT_l, mcT_z, mcT_q, mcN_i, mcN_l, mcN_z, mcN_q, mcI_i, mcI_z, mcL_l, mcQ_q, hg_hp, hp_hp, List.getD_cons_zero, List.getD_cons_succ, List.set_cons_zero, List.set_cons_succ, List.length_cons, List.length_nil, Nat.reduceAdd, Nat.reduceLT, Nat.reduceEqDiff, Nat.lt_add_one, decide_true, decide_false, Bool.and_true, Bool.true_and, Bool.and_false, Bool.false_and, Bool.false_eq_true, if_true, if_false, ↓reduceIte, Option.bind_some, Option.bind_none, kont_v, kont_n, PHO_len, PHO_0, PHO_1, PHO_2, PHO_3, PHO_4, PHO_5, PHO_6, PHO_7, PHOs_1, PHOs_2, PHOs_3, PHOs_4, PHOs_5, PHOs_6, PHOs_7, h0, q, n4, n5, n6]
    · simp only [s53_0, s53_1_0, s53_1_1, s53_1_2, s53_1_3, s53_1_d, s53_32, s53_33, s53_34, s53_35, s53_38, s53_41, s53_42, s53_45, s53_46, s53_47, s53_48, s53_51, s53_52, s53_53, s53_56, s53_57, s53_58, s53_59, s53_62, s53_65, s53_66, s53_67, s53_68, s53_71, s53_74, s53_75, s53_78, s53_79, s53_82, s53_83, s53_84, s53_87, s53_90, okF, okA, mcC_o, mcF_o, mcT_i, mcT_l, mcT_z, mcT_q, mcN_i, mcN_l, mcN_z, mcN_q, mcI_i, mcI_z, mcL_l, mcQ_q, hg_hp, hp_hp, List.getD_cons_zero, List.getD_cons_succ, List.set_cons_zero, List.set_cons_succ, List.length_cons, List.length_nil, Nat.reduceAdd, Nat.reduceLT, Nat.reduceEqDiff, Nat.lt_add_one, decide_true, decide_false, Bool.and_true, Bool.true_and, Bool.and_false, Bool.false_and, Bool.false_eq_true, if_true, if_false, ↓reduceIte, Option.bind_some, Option.bind_none, kont_v, kont_n, PHO_len, PHO_0, PHO_1, PHO_2, PHO_3, PHO_4, PHO_5, PHO_6, PHO_7, PHOs_1, PHOs_2, PHOs_3, PHOs_4, PHOs_5, PHOs_6, PHOs_7, h0, q, n4, n5, n6]
      rw [hp_self h0]
  · simp only [s53_0, s53_1_d (x := 4) (Or.inr (by decide)), s53_90, okF, okA, mcC_o, mcF_o, mcT_i, mcT_l, mcT_z, mcT_q, mcN_i, mcN_l, mcN_z, mcN_q, mcI_i, mcI_z, mcL_l, mcQ_q, hg_hp, hp_hp, List.getD_cons_zero, List.getD_cons_succ, List.set_cons_zero, List.set_cons_succ, List.length_cons, List.length_nil, Nat.reduceAdd, Nat.reduceLT, Nat.reduceEqDiff, Nat.lt_add_one, decide_true, decide_false, Bool.and_true, Bool.true_and, Bool.and_false, Bool.false_and, Bool.false_eq_true, if_true, if_false, ↓reduceIte, Option.bind_some, Option.bind_none, kont_v, kont_n, n7, n8, n9, n10]
    rw [hp_self h0]
/-- the acts from i on, m of them, up to a time -/
def p_run (rw time : Int32) (f : Nat → Int32) : Nat → Nat → PS → PS
  | 0, _, s => s
  | m + 1, i, s => if time < f (i * 3 + 2) then s else p_run rw time f m (i + 1) (p_fol rw (f (i * 3 + 1)) (f (i * 3)) (f (i * 3 + 2)) s)
theorem c_hold_loop {w time : Int32} {n : Nat} {f : Nat → Int32} (hf : ∀ i, i < n → f (i * 3 + 1) = 0 ∨ f (i * 3 + 1) = 1 ∨ f (i * 3 + 1) = 2 ∨ f (i * 3 + 1) = 3 ∨ f (i * 3 + 1) = 4) (hn : n ≤ 20) : ∀ (m i : Nat) (h : MH) (s : PS), i + m = n → TAB h 2 3 20 3 n f → hg h 21 = oB 5 (PHO rw s) → ev X 52 49 [.ref 21, .int w, .int time, .int (nI i)] [] h = some (some (.int (p_run rw time f m i s).1), hp h 21 (oB 5 (PHO rw (p_run rw time f m i s))))
  | 0, i, h, s, hi, T, h0 => by
    have e : i = n := by omega
    subst e
    have q := nI_nlt (Nat.le_refl i) (by omega)
    simp only [s52_0, s52_1, s52_2, s52_5, s52_8, s52_11, s52_14, s52_17, s52_18, s52_19, s52_22, s52_23, s52_24, s52_27, s52_28, s52_29, s52_32, s52_33, s52_34, s52_37, s52_38, s52_39, s52_42, s52_43, s52_44, s52_47, s52_48, s52_49, s52_50, s52_51, s52_54, s52_57, s52_60, s52_61, s52_64, s52_65, s52_66, s52_69, s52_70, s52_73, s52_74, s52_75, s52_78, s52_79, s52_80, s52_83, s52_84, s52_87, s52_88, s52_89, s52_92, s52_93, s52_96, s52_97, s52_98, s52_101, s52_104, s52_107, s52_110, s52_111, s52_114, okF, okA, mcC_o, mcF_o, mcT_i, mcT_l, mcT_z, mcT_q, mcN_i, mcN_l, mcN_z, mcN_q, mcI_i, mcI_z, mcL_l, mcQ_q, hg_hp, hp_hp, List.getD_cons_zero, List.getD_cons_succ, List.set_cons_zero, List.set_cons_succ, List.length_cons, List.length_nil, Nat.reduceAdd, Nat.reduceLT, Nat.reduceEqDiff, Nat.lt_add_one, decide_true, decide_false, Bool.and_true, Bool.true_and, Bool.and_false, Bool.false_and, Bool.false_eq_true, if_true, if_false, ↓reduceIte, Option.bind_some, Option.bind_none, kont_v, kont_n, PHO_len, PHO_0, PHO_1, PHO_2, PHO_3, PHO_4, PHO_5, PHO_6, PHO_7, PHOs_1, PHOs_2, PHOs_3, PHOs_4, PHOs_5, PHOs_6, PHOs_7, h0, T.1, q, p_run]
    rw [hp_self h0]
  | m + 1, i, h, s, hi, T, h0 => by
    have hin : i < n := by omega
    have q := nI_lt hin (by omega)
    have g0 := T.get' (X := X) (r := i) (q := 0) (q' := 0) rfl rfl (by omega) (by decide)
    have g1 := T.get' (X := X) (r := i) (q := 1) (q' := 1) rfl rfl (by omega) (by decide)
    have g2 := T.get' (X := X) (r := i) (q := 2) (q' := 2) rfl rfl (by omega) (by decide)
    have ef := c_follow (X := X) (who := f (i * 3)) (t := f (i * 3 + 2)) h0 (hf i hin)
    simp only [Nat.add_zero] at g0
    rw [s52_49]
    by_cases ht : time < f (i * 3 + 2)
    · simp only [s52_0, s52_1, s52_2, s52_5, s52_8, s52_11, s52_14, s52_17, s52_18, s52_19, s52_22, s52_23, s52_24, s52_27, s52_28, s52_29, s52_32, s52_33, s52_34, s52_37, s52_38, s52_39, s52_42, s52_43, s52_44, s52_47, s52_48, s52_50, s52_51, s52_54, s52_57, s52_60, s52_61, s52_64, s52_65, s52_66, s52_69, s52_70, s52_73, s52_74, s52_75, s52_78, s52_79, s52_80, s52_83, s52_84, s52_87, s52_88, s52_89, s52_92, s52_93, s52_96, s52_97, s52_98, s52_101, s52_104, s52_107, s52_110, s52_111, s52_114, okF, okA, mcC_o, mcF_o, mcT_i, mcT_l, mcT_z, mcT_q, mcN_i, mcN_l, mcN_z, mcN_q, mcI_i, mcI_z, mcL_l, mcQ_q, hg_hp, hp_hp, List.getD_cons_zero, List.getD_cons_succ, List.set_cons_zero, List.set_cons_succ, List.length_cons, List.length_nil, Nat.reduceAdd, Nat.reduceLT, Nat.reduceEqDiff, Nat.lt_add_one, decide_true, decide_false, Bool.and_true, Bool.true_and, Bool.and_false, Bool.false_and, Bool.false_eq_true, if_true, if_false, ↓reduceIte, Option.bind_some, Option.bind_none, kont_v, kont_n, PHO_len, PHO_0, PHO_1, PHO_2, PHO_3, PHO_4, PHO_5, PHO_6, PHO_7, PHOs_1, PHOs_2, PHOs_3, PHOs_4, PHOs_5, PHOs_6, PHOs_7, h0, T.1, q, g0, g1, g2, ht, p_run]
      rw [hp_self h0]
    · have ih := c_hold_loop (w := w) (time := time) hf hn m (i + 1) (hp h 21 (oB 5 (PHO rw (p_fol rw (f (i * 3 + 1)) (f (i * 3)) (f (i * 3 + 2)) s)))) _ (by omega) (T.off (by decide) (by decide)) (by rw [hg_hp, if_pos rfl])
      rw [hp_hp] at ih
      simp only [s52_0, s52_1, s52_2, s52_5, s52_8, s52_11, s52_14, s52_17, s52_18, s52_19, s52_22, s52_23, s52_24, s52_27, s52_28, s52_29, s52_32, s52_33, s52_34, s52_37, s52_38, s52_39, s52_42, s52_43, s52_44, s52_47, s52_48, s52_50, s52_51, s52_54, s52_57, s52_60, s52_61, s52_64, s52_65, s52_66, s52_69, s52_70, s52_73, s52_74, s52_75, s52_78, s52_79, s52_80, s52_83, s52_84, s52_87, s52_88, s52_89, s52_92, s52_93, s52_96, s52_97, s52_98, s52_101, s52_104, s52_107, s52_110, s52_111, s52_114, okF, okA, mcC_o, mcF_o, mcT_i, mcT_l, mcT_z, mcT_q, mcN_i, mcN_l, mcN_z, mcN_q, mcI_i, mcI_z, mcL_l, mcQ_q, hg_hp, hp_hp, List.getD_cons_zero, List.getD_cons_succ, List.set_cons_zero, List.set_cons_succ, List.length_cons, List.length_nil, Nat.reduceAdd, Nat.reduceLT, Nat.reduceEqDiff, Nat.lt_add_one, decide_true, decide_false, Bool.and_true, Bool.true_and, Bool.and_false, Bool.false_and, Bool.false_eq_true, if_true, if_false, ↓reduceIte, Option.bind_some, Option.bind_none, kont_v, kont_n, PHO_len, PHO_0, PHO_1, PHO_2, PHO_3, PHO_4, PHO_5, PHO_6, PHO_7, PHOs_1, PHOs_2, PHOs_3, PHOs_4, PHOs_5, PHOs_6, PHOs_7, h0, T.1, q, g0, g1, g2, ht, p_run, ef, nI_1]
      exact ih
def p_rw (w : Int32) : Int32 := if w = 0 then 300 else 200
theorem c_holderAt {w time : Int32} {n : Nat} {f : Nat → Int32} {s : PS} (hf : ∀ i, i < n → f (i * 3 + 1) = 0 ∨ f (i * 3 + 1) = 1 ∨ f (i * 3 + 1) = 2 ∨ f (i * 3 + 1) = 3 ∨ f (i * 3 + 1) = 4) (hn : n ≤ 20) (T : TAB h 2 3 20 3 n f) (h0 : hg h 21 = oB 5 (PHO rw s)) : ev X 52 0 [.ref 21, .int w, .int time, .float 0] [] h = some (some (.int (p_run (p_rw w) time f n 0 (-1, -1, -1, -1, -1, -1)).1), hp h 21 (oB 5 (PHO (p_rw w) (p_run (p_rw w) time f n 0 (-1, -1, -1, -1, -1, -1))))) := by
  have ih := c_hold_loop (X := X) (rw := p_rw w) (w := w) (time := time) hf hn n 0 (hp h 21 (oB 5 (PHO (p_rw w) (-1, -1, -1, -1, -1, -1)))) _ (by omega) (T.off (by decide) (by decide)) (by rw [hg_hp, if_pos rfl])
  rw [hp_hp, nI_0] at ih
  unfold p_rw at ih ⊢
  by_cases hw : w = 0
  · rw [if_pos hw] at ih ⊢
    simp only [s52_0, s52_1, s52_2, s52_5, s52_8, s52_11, s52_14, s52_17, s52_18, s52_19, s52_22, s52_23, s52_24, s52_27, s52_28, s52_29, s52_32, s52_33, s52_34, s52_37, s52_38, s52_39, s52_42, s52_43, s52_44, s52_47, s52_48, s52_50, s52_51, s52_54, s52_57, s52_60, s52_61, s52_64, s52_65, s52_66, s52_69, s52_70, s52_73, s52_74, s52_75, s52_78, s52_79, s52_80, s52_83, s52_84, s52_87, s52_88, s52_89, s52_92, s52_93, s52_96, s52_97, s52_98, s52_101, s52_104, s52_107, s52_110, s52_111, s52_114, okF, okA, mcC_o, mcF_o, mcT_i, mcT_l, mcT_z, mcT_q, mcN_i, mcN_l, mcN_z, mcN_q, mcI_i, mcI_z, mcL_l, mcQ_q, hg_hp, hp_hp, List.getD_cons_zero, List.getD_cons_succ, List.set_cons_zero, List.set_cons_succ, List.length_cons, List.length_nil, Nat.reduceAdd, Nat.reduceLT, Nat.reduceEqDiff, Nat.lt_add_one, decide_true, decide_false, Bool.and_true, Bool.true_and, Bool.and_false, Bool.false_and, Bool.false_eq_true, if_true, if_false, ↓reduceIte, Option.bind_some, Option.bind_none, kont_v, kont_n, PHO_len, PHO_0, PHO_1, PHO_2, PHO_3, PHO_4, PHO_5, PHO_6, PHO_7, PHOs_1, PHOs_2, PHOs_3, PHOs_4, PHOs_5, PHOs_6, PHOs_7, h0, hw] at ih ⊢
    exact ih
  · rw [if_neg hw] at ih ⊢
    simp only [s52_0, s52_1, s52_2, s52_5, s52_8, s52_11, s52_14, s52_17, s52_18, s52_19, s52_22, s52_23, s52_24, s52_27, s52_28, s52_29, s52_32, s52_33, s52_34, s52_37, s52_38, s52_39, s52_42, s52_43, s52_44, s52_47, s52_48, s52_50, s52_51, s52_54, s52_57, s52_60, s52_61, s52_64, s52_65, s52_66, s52_69, s52_70, s52_73, s52_74, s52_75, s52_78, s52_79, s52_80, s52_83, s52_84, s52_87, s52_88, s52_89, s52_92, s52_93, s52_96, s52_97, s52_98, s52_101, s52_104, s52_107, s52_110, s52_111, s52_114, okF, okA, mcC_o, mcF_o, mcT_i, mcT_l, mcT_z, mcT_q, mcN_i, mcN_l, mcN_z, mcN_q, mcI_i, mcI_z, mcL_l, mcQ_q, hg_hp, hp_hp, List.getD_cons_zero, List.getD_cons_succ, List.set_cons_zero, List.set_cons_succ, List.length_cons, List.length_nil, Nat.reduceAdd, Nat.reduceLT, Nat.reduceEqDiff, Nat.lt_add_one, decide_true, decide_false, Bool.and_true, Bool.true_and, Bool.and_false, Bool.false_and, Bool.false_eq_true, if_true, if_false, ↓reduceIte, Option.bind_some, Option.bind_none, kont_v, kont_n, PHO_len, PHO_0, PHO_1, PHO_2, PHO_3, PHO_4, PHO_5, PHO_6, PHO_7, PHOs_1, PHOs_2, PHOs_3, PHOs_4, PHOs_5, PHOs_6, PHOs_7, h0, hw] at ih ⊢
    exact ih
end PHR

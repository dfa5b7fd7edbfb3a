-- FORMULA 3: what the reference's row of steps does
def RMH (B : MH) (Z : Nat → Int32) (sp wa : Int32) (st wj ww : Nat → Int32) : MH := hp (hp (hp (hp B 55 (oB 12 (MO (Z 0) (Z 1) (Z 2) sp wa (Z 3) (Z 4) (Z 5) (Z 6)))) 72 (iA 60 st)) 73 (iA 60 wj)) 74 (iA 60 ww)
section RMS
variable {B : MH} {Z : Nat → Int32} {sp wa a b : Int32} {st wj ww f : Nat → Int32}
theorem RM_55 : hg (RMH B Z sp wa st wj ww) 55 = oB 12 (MO (Z 0) (Z 1) (Z 2) sp wa (Z 3) (Z 4) (Z 5) (Z 6)) := Eq.trans rfl rfl
theorem RM_56 : hg (RMH B Z sp wa st wj ww) 56 = hg B 56 := Eq.trans rfl rfl
theorem RM_72 : hg (RMH B Z sp wa st wj ww) 72 = iA 60 st := Eq.trans rfl rfl
theorem RM_73 : hg (RMH B Z sp wa st wj ww) 73 = iA 60 wj := Eq.trans rfl rfl
theorem RM_74 : hg (RMH B Z sp wa st wj ww) 74 = iA 60 ww := Eq.trans rfl rfl
theorem RM_o {k : Nat} (h1 : k ≠ 55) (h2 : k < 72 ∨ 74 < k) : hg (RMH B Z sp wa st wj ww) k = hg B k := by
  unfold RMH
  rw [hg_hp, if_neg (by omega), hg_hp, if_neg (by omega), hg_hp, if_neg (by omega), hg_hp, if_neg h1]
theorem RMp_55 : hp (RMH B Z sp wa st wj ww) 55 (oB 12 (MO (Z 0) (Z 1) (Z 2) a b (Z 3) (Z 4) (Z 5) (Z 6))) = RMH B Z a b st wj ww := by
  unfold RMH
  rw [hp_sw (by decide : (74 : Nat) ≠ 55), hp_sw (by decide : (73 : Nat) ≠ 55), hp_sw (by decide : (72 : Nat) ≠ 55), hp_hp]
theorem RMp_72 : hp (RMH B Z sp wa st wj ww) 72 (iA 60 f) = RMH B Z sp wa f wj ww := by
  unfold RMH
  rw [hp_sw (by decide : (74 : Nat) ≠ 72), hp_sw (by decide : (73 : Nat) ≠ 72), hp_hp]
theorem RMp_73 : hp (RMH B Z sp wa st wj ww) 73 (iA 60 f) = RMH B Z sp wa st f ww := by
  unfold RMH
  rw [hp_sw (by decide : (74 : Nat) ≠ 73), hp_hp]
theorem RMp_74 : hp (RMH B Z sp wa st wj ww) 74 (iA 60 f) = RMH B Z sp wa st wj f := by
  unfold RMH
  rw [hp_hp]
theorem RM_id {h : MH} (h55 : hg h 55 = oB 12 (MO (Z 0) (Z 1) (Z 2) sp wa (Z 3) (Z 4) (Z 5) (Z 6))) (h72 : hg h 72 = iA 60 st) (h73 : hg h 73 = iA 60 wj) (h74 : hg h 74 = iA 60 ww) : RMH h Z sp wa st wj ww = h := by
  unfold RMH
  rw [hp_self h55, hp_self h72, hp_self h73, hp_self h74]
end RMS
def hld (c : Int32) : Int32 := if c = 2 then 3 else if c = 3 then 2 else if c = 4 then 2 else if c = 5 then 1 else if c = 6 then 1 else 0
def sgo (c : Nat) : Int32 := if c = 42 then 3 else if c = 47 then 4 else if c = 43 then 5 else if c = 45 then 6 else -1
section RFO
variable {X : MX} {h B : MH} {Z : Nat → Int32} {st wj ww : Nat → Int32} {ns nw : Nat}
theorem m_holds {c : Int32} : (ev X 196 0 [.int c] [] (h)) = some (some (.int (hld c)), (h)) := by
  unfold hld
  by_cases c2 : c = 2
  · have e := eq_true c2
    rw [if_pos c2]
    simp only [s196_0, s196_1, s196_2, s196_5, s196_6, s196_9, s196_10, s196_11, s196_14, s196_15, s196_16, s196_19, s196_20, s196_23, s196_24, s196_25, s196_28, s196_29, s196_31, s196_34, s196_35, s196_38, s196_39, okF, okA, mcC_o, mcF_o, mcT_i, mcT_l, mcT_z, mcT_q, mcN_i, mcN_l, mcN_z, mcN_q, mcI_i, mcI_z, mcL_l, mcQ_q, hg_hp, hp_hp, List.getD_cons_zero, List.getD_cons_succ, List.set_cons_zero, List.set_cons_succ, List.length_cons, List.length_nil, Nat.reduceAdd, Nat.reduceLT, Nat.reduceEqDiff, Nat.lt_add_one, decide_true, decide_false, Bool.and_true, Bool.true_and, Bool.and_false, Bool.false_and, Bool.false_eq_true, if_true, if_false, ↓reduceIte, Option.bind_some, Option.bind_none, kont_v, kont_n, e]
  have e2 := eq_false c2
  rw [if_neg c2]
  by_cases c3 : c = 3
  · have e := eq_true c3
    rw [if_pos c3]
    simp only [s196_0, s196_1, s196_2, s196_5, s196_6, s196_9, s196_10, s196_11, s196_14, s196_15, s196_16, s196_19, s196_20, s196_23, s196_24, s196_25, s196_28, s196_29, s196_31, s196_34, s196_35, s196_38, s196_39, okF, okA, mcC_o, mcF_o, mcT_i, mcT_l, mcT_z, mcT_q, mcN_i, mcN_l, mcN_z, mcN_q, mcI_i, mcI_z, mcL_l, mcQ_q, hg_hp, hp_hp, List.getD_cons_zero, List.getD_cons_succ, List.set_cons_zero, List.set_cons_succ, List.length_cons, List.length_nil, Nat.reduceAdd, Nat.reduceLT, Nat.reduceEqDiff, Nat.lt_add_one, decide_true, decide_false, Bool.and_true, Bool.true_and, Bool.and_false, Bool.false_and, Bool.false_eq_true, if_true, if_false, ↓reduceIte, Option.bind_some, Option.bind_none, kont_v, kont_n, e2, e]
  have e3 := eq_false c3
  rw [if_neg c3]
  by_cases c4 : c = 4
  · have e := eq_true c4
    rw [if_pos c4]
    simp only [s196_0, s196_1, s196_2, s196_5, s196_6, s196_9, s196_10, s196_11, s196_14, s196_15, s196_16, s196_19, s196_20, s196_23, s196_24, s196_25, s196_28, s196_29, s196_31, s196_34, s196_35, s196_38, s196_39, okF, okA, mcC_o, mcF_o, mcT_i, mcT_l, mcT_z, mcT_q, mcN_i, mcN_l, mcN_z, mcN_q, mcI_i, mcI_z, mcL_l, mcQ_q, hg_hp, hp_hp, List.getD_cons_zero, List.getD_cons_succ, List.set_cons_zero, List.set_cons_succ, List.length_cons, List.length_nil, Nat.reduceAdd, Nat.reduceLT, Nat.reduceEqDiff, Nat.lt_add_one, decide_true, decide_false, Bool.and_true, Bool.true_and, Bool.and_false, Bool.false_and, Bool.false_eq_true, if_true, if_false, ↓reduceIte, Option.bind_some, Option.bind_none, kont_v, kont_n, e2, e3, e]
  have e4 := eq_false c4
  rw [if_neg c4]
  by_cases c5 : c = 5
  · have e := eq_true c5
    rw [if_pos c5]
    simp only [s196_0, s196_1, s196_2, s196_5, s196_6, s196_9, s196_10, s196_11, s196_14, s196_15, s196_16, s196_19, s196_20, s196_23, s196_24, s196_25, s196_28, s196_29, s196_31, s196_34, s196_35, s196_38, s196_39, okF, okA, mcC_o, mcF_o, mcT_i, mcT_l, mcT_z, mcT_q, mcN_i, mcN_l, mcN_z, mcN_q, mcI_i, mcI_z, mcL_l, mcQ_q, hg_hp, hp_hp, List.getD_cons_zero, List.getD_cons_succ, List.set_cons_zero, List.set_cons_succ, List.length_cons, List.length_nil, Nat.reduceAdd, Nat.reduceLT, Nat.reduceEqDiff, Nat.lt_add_one, decide_true, decide_false, Bool.and_true, Bool.true_and, Bool.and_false, Bool.false_and, Bool.false_eq_true, if_true, if_false, ↓reduceIte, Option.bind_some, Option.bind_none, kont_v, kont_n, e2, e3, e4, e]
  have e5 := eq_false c5
  rw [if_neg c5]
  by_cases c6 : c = 6
  · have e := eq_true c6
    rw [if_pos c6]
    simp only [s196_0, s196_1, s196_2, s196_5, s196_6, s196_9, s196_10, s196_11, s196_14, s196_15, s196_16, s196_19, s196_20, s196_23, s196_24, s196_25, s196_28, s196_29, s196_31, s196_34, s196_35, s196_38, s196_39, okF, okA, mcC_o, mcF_o, mcT_i, mcT_l, mcT_z, mcT_q, mcN_i, mcN_l, mcN_z, mcN_q, mcI_i, mcI_z, mcL_l, mcQ_q, hg_hp, hp_hp, List.getD_cons_zero, List.getD_cons_succ, List.set_cons_zero, List.set_cons_succ, List.length_cons, List.length_nil, Nat.reduceAdd, Nat.reduceLT, Nat.reduceEqDiff, Nat.lt_add_one, decide_true, decide_false, Bool.and_true, Bool.true_and, Bool.and_false, Bool.false_and, Bool.false_eq_true, if_true, if_false, ↓reduceIte, Option.bind_some, Option.bind_none, kont_v, kont_n, e2, e3, e4, e5, e]
  have e6 := eq_false c6
  rw [if_neg c6]
  simp only [s196_0, s196_1, s196_2, s196_5, s196_6, s196_9, s196_10, s196_11, s196_14, s196_15, s196_16, s196_19, s196_20, s196_23, s196_24, s196_25, s196_28, s196_29, s196_31, s196_34, s196_35, s196_38, s196_39, okF, okA, mcC_o, mcF_o, mcT_i, mcT_l, mcT_z, mcT_q, mcN_i, mcN_l, mcN_z, mcN_q, mcI_i, mcI_z, mcL_l, mcQ_q, hg_hp, hp_hp, List.getD_cons_zero, List.getD_cons_succ, List.set_cons_zero, List.set_cons_succ, List.length_cons, List.length_nil, Nat.reduceAdd, Nat.reduceLT, Nat.reduceEqDiff, Nat.lt_add_one, decide_true, decide_false, Bool.and_true, Bool.true_and, Bool.and_false, Bool.false_and, Bool.false_eq_true, if_true, if_false, ↓reduceIte, Option.bind_some, Option.bind_none, kont_v, kont_n, e2, e3, e4, e5, e6]
theorem m_signOf {c : Nat} (hc : c < 128) : (ev X 198 0 [.int (nI c)] [] (h)) = some (some (.int (sgo c)), (h)) := by
  have ne : ∀ k : Nat, k < 128 → ((nI c = nI k) = (c = k)) := fun k hk => propext (nI_eq (by omega) (by omega))
  have n42 : (nI c = (42 : Int32)) = (c = 42) := ne 42 (by omega)
  have n47 : (nI c = (47 : Int32)) = (c = 47) := ne 47 (by omega)
  have n43 : (nI c = (43 : Int32)) = (c = 43) := ne 43 (by omega)
  have n45 : (nI c = (45 : Int32)) = (c = 45) := ne 45 (by omega)
  unfold sgo
  by_cases c1 : c = 42
  · have e := eq_true c1
    rw [if_pos c1]
    simp only [s198_0, s198_1, s198_3, s198_6, s198_7, s198_10, s198_11, s198_13, s198_16, s198_17, s198_20, s198_21, s198_23, s198_26, s198_27, s198_30, s198_31, s198_33, s198_36, s198_38, s198_41, s198_42, okF, okA, mcC_o, mcF_o, mcT_i, mcT_l, mcT_z, mcT_q, mcN_i, mcN_l, mcN_z, mcN_q, mcI_i, mcI_z, mcL_l, mcQ_q, hg_hp, hp_hp, List.getD_cons_zero, List.getD_cons_succ, List.set_cons_zero, List.set_cons_succ, List.length_cons, List.length_nil, Nat.reduceAdd, Nat.reduceLT, Nat.reduceEqDiff, Nat.lt_add_one, decide_true, decide_false, Bool.and_true, Bool.true_and, Bool.and_false, Bool.false_and, Bool.false_eq_true, if_true, if_false, ↓reduceIte, Option.bind_some, Option.bind_none, kont_v, kont_n, n42, e]
  have e1 := eq_false c1
  rw [if_neg c1]
  by_cases c2 : c = 47
  · have e := eq_true c2
    rw [if_pos c2]
    simp only [s198_0, s198_1, s198_3, s198_6, s198_7, s198_10, s198_11, s198_13, s198_16, s198_17, s198_20, s198_21, s198_23, s198_26, s198_27, s198_30, s198_31, s198_33, s198_36, s198_38, s198_41, s198_42, okF, okA, mcC_o, mcF_o, mcT_i, mcT_l, mcT_z, mcT_q, mcN_i, mcN_l, mcN_z, mcN_q, mcI_i, mcI_z, mcL_l, mcQ_q, hg_hp, hp_hp, List.getD_cons_zero, List.getD_cons_succ, List.set_cons_zero, List.set_cons_succ, List.length_cons, List.length_nil, Nat.reduceAdd, Nat.reduceLT, Nat.reduceEqDiff, Nat.lt_add_one, decide_true, decide_false, Bool.and_true, Bool.true_and, Bool.and_false, Bool.false_and, Bool.false_eq_true, if_true, if_false, ↓reduceIte, Option.bind_some, Option.bind_none, kont_v, kont_n, n42, e1, n47, e]
  have e2 := eq_false c2
  rw [if_neg c2]
  by_cases c3 : c = 43
  · have e := eq_true c3
    rw [if_pos c3]
    simp only [s198_0, s198_1, s198_3, s198_6, s198_7, s198_10, s198_11, s198_13, s198_16, s198_17, s198_20, s198_21, s198_23, s198_26, s198_27, s198_30, s198_31, s198_33, s198_36, s198_38, s198_41, s198_42, okF, okA, mcC_o, mcF_o, mcT_i, mcT_l, mcT_z, mcT_q, mcN_i, mcN_l, mcN_z, mcN_q, mcI_i, mcI_z, mcL_l, mcQ_q, hg_hp, hp_hp, List.getD_cons_zero, List.getD_cons_succ, List.set_cons_zero, List.set_cons_succ, List.length_cons, List.length_nil, Nat.reduceAdd, Nat.reduceLT, Nat.reduceEqDiff, Nat.lt_add_one, decide_true, decide_false, Bool.and_true, Bool.true_and, Bool.and_false, Bool.false_and, Bool.false_eq_true, if_true, if_false, ↓reduceIte, Option.bind_some, Option.bind_none, kont_v, kont_n, n42, e1, n47, e2, n43, e]
  have e3 := eq_false c3
  rw [if_neg c3]
  by_cases c4 : c = 45
  · have e := eq_true c4
    rw [if_pos c4]
    simp only [s198_0, s198_1, s198_3, s198_6, s198_7, s198_10, s198_11, s198_13, s198_16, s198_17, s198_20, s198_21, s198_23, s198_26, s198_27, s198_30, s198_31, s198_33, s198_36, s198_38, s198_41, s198_42, okF, okA, mcC_o, mcF_o, mcT_i, mcT_l, mcT_z, mcT_q, mcN_i, mcN_l, mcN_z, mcN_q, mcI_i, mcI_z, mcL_l, mcQ_q, hg_hp, hp_hp, List.getD_cons_zero, List.getD_cons_succ, List.set_cons_zero, List.set_cons_succ, List.length_cons, List.length_nil, Nat.reduceAdd, Nat.reduceLT, Nat.reduceEqDiff, Nat.lt_add_one, decide_true, decide_false, Bool.and_true, Bool.true_and, Bool.and_false, Bool.false_and, Bool.false_eq_true, if_true, if_false, ↓reduceIte, Option.bind_some, Option.bind_none, kont_v, kont_n, n42, e1, n47, e2, n43, e3, n45, e]
  have e4 := eq_false c4
  rw [if_neg c4]
  simp only [s198_0, s198_1, s198_3, s198_6, s198_7, s198_10, s198_11, s198_13, s198_16, s198_17, s198_20, s198_21, s198_23, s198_26, s198_27, s198_30, s198_31, s198_33, s198_36, s198_38, s198_41, s198_42, okF, okA, mcC_o, mcF_o, mcT_i, mcT_l, mcT_z, mcT_q, mcN_i, mcN_l, mcN_z, mcN_q, mcI_i, mcI_z, mcL_l, mcQ_q, hg_hp, hp_hp, List.getD_cons_zero, List.getD_cons_succ, List.set_cons_zero, List.set_cons_succ, List.length_cons, List.length_nil, Nat.reduceAdd, Nat.reduceLT, Nat.reduceEqDiff, Nat.lt_add_one, decide_true, decide_false, Bool.and_true, Bool.true_and, Bool.and_false, Bool.false_and, Bool.false_eq_true, if_true, if_false, ↓reduceIte, Option.bind_some, Option.bind_none, kont_v, kont_n, n42, e1, n47, e2, n43, e3, n45, e4]
theorem m_nameOf {c : Nat} (hc : c < 128) : (ev X 200 0 [.int (nI c)] [] (h)) = some (some (.int (if ltr c < 7 then nI (ltr c) else -1)), (h)) := by
  by_cases r : 98 ≤ c ∧ c ≤ 121
  · rcases (by omega : c = 98 ∨ c = 99 ∨ c = 100 ∨ c = 101 ∨ c = 102 ∨ c = 103 ∨ c = 104 ∨ c = 105 ∨ c = 106 ∨ c = 107 ∨ c = 108 ∨ c = 109 ∨ c = 110 ∨ c = 111 ∨ c = 112 ∨ c = 113 ∨ c = 114 ∨ c = 115 ∨ c = 116 ∨ c = 117 ∨ c = 118 ∨ c = 119 ∨ c = 120 ∨ c = 121) with rfl | rfl | rfl | rfl | rfl | rfl | rfl | rfl | rfl | rfl | rfl | rfl | rfl | rfl | rfl | rfl | rfl | rfl | rfl | rfl | rfl | rfl | rfl | rfl
    · show ev X 200 0 [.int 98] [] h = some (some (Value.int 3), h)
      simp only [s200_0, s200_1_98, s200_112, s200_113, s200_114, s200_115, s200_116, s200_117, s200_118, s200_119, s200_120, s200_121, s200_122, s200_123, s200_124, s200_126, s200_127, s200_128]
    · show ev X 200 0 [.int 99] [] h = some (some (Value.int (-1)), h)
      simp only [s200_0, s200_1_99, s200_112, s200_113, s200_114, s200_115, s200_116, s200_117, s200_118, s200_119, s200_120, s200_121, s200_122, s200_123, s200_124, s200_126, s200_127, s200_128]
    · show ev X 200 0 [.int 100] [] h = some (some (Value.int 1), h)
      simp only [s200_0, s200_1_100, s200_112, s200_113, s200_114, s200_115, s200_116, s200_117, s200_118, s200_119, s200_120, s200_121, s200_122, s200_123, s200_124, s200_126, s200_127, s200_128]
    · show ev X 200 0 [.int 101] [] h = some (some (Value.int (-1)), h)
      simp only [s200_0, s200_1_101, s200_112, s200_113, s200_114, s200_115, s200_116, s200_117, s200_118, s200_119, s200_120, s200_121, s200_122, s200_123, s200_124, s200_126, s200_127, s200_128]
    · show ev X 200 0 [.int 102] [] h = some (some (Value.int (-1)), h)
      simp only [s200_0, s200_1_102, s200_112, s200_113, s200_114, s200_115, s200_116, s200_117, s200_118, s200_119, s200_120, s200_121, s200_122, s200_123, s200_124, s200_126, s200_127, s200_128]
    · show ev X 200 0 [.int 103] [] h = some (some (Value.int 2), h)
      simp only [s200_0, s200_1_103, s200_112, s200_113, s200_114, s200_115, s200_116, s200_117, s200_118, s200_119, s200_120, s200_121, s200_122, s200_123, s200_124, s200_126, s200_127, s200_128]
    · show ev X 200 0 [.int 104] [] h = some (some (Value.int (-1)), h)
      simp only [s200_0, s200_1_104, s200_112, s200_113, s200_114, s200_115, s200_116, s200_117, s200_118, s200_119, s200_120, s200_121, s200_122, s200_123, s200_124, s200_126, s200_127, s200_128]
    · show ev X 200 0 [.int 105] [] h = some (some (Value.int (-1)), h)
      simp only [s200_0, s200_1_105, s200_112, s200_113, s200_114, s200_115, s200_116, s200_117, s200_118, s200_119, s200_120, s200_121, s200_122, s200_123, s200_124, s200_126, s200_127, s200_128]
    · show ev X 200 0 [.int 106] [] h = some (some (Value.int (-1)), h)
      simp only [s200_0, s200_1_106, s200_112, s200_113, s200_114, s200_115, s200_116, s200_117, s200_118, s200_119, s200_120, s200_121, s200_122, s200_123, s200_124, s200_126, s200_127, s200_128]
    · show ev X 200 0 [.int 107] [] h = some (some (Value.int (-1)), h)
      simp only [s200_0, s200_1_107, s200_112, s200_113, s200_114, s200_115, s200_116, s200_117, s200_118, s200_119, s200_120, s200_121, s200_122, s200_123, s200_124, s200_126, s200_127, s200_128]
    · show ev X 200 0 [.int 108] [] h = some (some (Value.int (-1)), h)
      simp only [s200_0, s200_1_108, s200_112, s200_113, s200_114, s200_115, s200_116, s200_117, s200_118, s200_119, s200_120, s200_121, s200_122, s200_123, s200_124, s200_126, s200_127, s200_128]
    · show ev X 200 0 [.int 109] [] h = some (some (Value.int (-1)), h)
      simp only [s200_0, s200_1_109, s200_112, s200_113, s200_114, s200_115, s200_116, s200_117, s200_118, s200_119, s200_120, s200_121, s200_122, s200_123, s200_124, s200_126, s200_127, s200_128]
    · show ev X 200 0 [.int 110] [] h = some (some (Value.int (-1)), h)
      simp only [s200_0, s200_1_110, s200_112, s200_113, s200_114, s200_115, s200_116, s200_117, s200_118, s200_119, s200_120, s200_121, s200_122, s200_123, s200_124, s200_126, s200_127, s200_128]
    · show ev X 200 0 [.int 111] [] h = some (some (Value.int (-1)), h)
      simp only [s200_0, s200_1_111, s200_112, s200_113, s200_114, s200_115, s200_116, s200_117, s200_118, s200_119, s200_120, s200_121, s200_122, s200_123, s200_124, s200_126, s200_127, s200_128]
    · show ev X 200 0 [.int 112] [] h = some (some (Value.int (-1)), h)
      simp only [s200_0, s200_1_112, s200_112, s200_113, s200_114, s200_115, s200_116, s200_117, s200_118, s200_119, s200_120, s200_121, s200_122, s200_123, s200_124, s200_126, s200_127, s200_128]
    · show ev X 200 0 [.int 113] [] h = some (some (Value.int (-1)), h)
      simp only [s200_0, s200_1_113, s200_112, s200_113, s200_114, s200_115, s200_116, s200_117, s200_118, s200_119, s200_120, s200_121, s200_122, s200_123, s200_124, s200_126, s200_127, s200_128]
    · show ev X 200 0 [.int 114] [] h = some (some (Value.int 6), h)
      simp only [s200_0, s200_1_114, s200_112, s200_113, s200_114, s200_115, s200_116, s200_117, s200_118, s200_119, s200_120, s200_121, s200_122, s200_123, s200_124, s200_126, s200_127, s200_128]
    · show ev X 200 0 [.int 115] [] h = some (some (Value.int 4), h)
      simp only [s200_0, s200_1_115, s200_112, s200_113, s200_114, s200_115, s200_116, s200_117, s200_118, s200_119, s200_120, s200_121, s200_122, s200_123, s200_124, s200_126, s200_127, s200_128]
    · show ev X 200 0 [.int 116] [] h = some (some (Value.int (-1)), h)
      simp only [s200_0, s200_1_116, s200_112, s200_113, s200_114, s200_115, s200_116, s200_117, s200_118, s200_119, s200_120, s200_121, s200_122, s200_123, s200_124, s200_126, s200_127, s200_128]
    · show ev X 200 0 [.int 117] [] h = some (some (Value.int (-1)), h)
      simp only [s200_0, s200_1_117, s200_112, s200_113, s200_114, s200_115, s200_116, s200_117, s200_118, s200_119, s200_120, s200_121, s200_122, s200_123, s200_124, s200_126, s200_127, s200_128]
    · show ev X 200 0 [.int 118] [] h = some (some (Value.int (-1)), h)
      simp only [s200_0, s200_1_118, s200_112, s200_113, s200_114, s200_115, s200_116, s200_117, s200_118, s200_119, s200_120, s200_121, s200_122, s200_123, s200_124, s200_126, s200_127, s200_128]
    · show ev X 200 0 [.int 119] [] h = some (some (Value.int 0), h)
      simp only [s200_0, s200_1_119, s200_112, s200_113, s200_114, s200_115, s200_116, s200_117, s200_118, s200_119, s200_120, s200_121, s200_122, s200_123, s200_124, s200_126, s200_127, s200_128]
    · show ev X 200 0 [.int 120] [] h = some (some (Value.int (-1)), h)
      simp only [s200_0, s200_1_120, s200_112, s200_113, s200_114, s200_115, s200_116, s200_117, s200_118, s200_119, s200_120, s200_121, s200_122, s200_123, s200_124, s200_126, s200_127, s200_128]
    · show ev X 200 0 [.int 121] [] h = some (some (Value.int 5), h)
      simp only [s200_0, s200_1_121, s200_112, s200_113, s200_114, s200_115, s200_116, s200_117, s200_118, s200_119, s200_120, s200_121, s200_122, s200_123, s200_124, s200_126, s200_127, s200_128]
  · have e7 : ltr c = 7 := by
      unfold ltr
      rw [if_neg (by omega), if_neg (by omega), if_neg (by omega), if_neg (by omega), if_neg (by omega), if_neg (by omega), if_neg (by omega)]
    have hx : (nI c).toInt < 98 ∨ 121 < (nI c).toInt := by rw [nI_toInt (by omega)]; omega
    rw [if_neg (by omega), s200_0, s200_1_d hx]
    simp only [s200_127, s200_128]
theorem m_emits (hs : ns < 60) {a b wa : Int32} : (ev X 197 0 [.ref 55, .int a, .int b] [] (RMH B Z (nI ns) wa st wj ww)) = some (none, (RMH B Z (nI (ns + 1)) wa (upd st ns a) (upd wj ns b) ww)) := by
  have r1 : inR (nI ns) 60 = true := inR_n hs (by decide)
  have c1 : (nI ns).toNatClampNeg = ns := nI_clamp (by omega)
  have p1 : nI ns + 1 = nI (ns + 1) := nI_add ns 1
  simp only [s197_0, s197_1, s197_4, s197_5, s197_8, s197_9, s197_10, s197_11, s197_14, s197_15, s197_18, s197_19, s197_20, s197_21, s197_22, s197_25, s197_26, s197_27, s197_30, okF, okA, mcC_o, mcF_o, mcT_i, mcT_l, mcT_z, mcT_q, mcN_i, mcN_l, mcN_z, mcN_q, mcI_i, mcI_z, mcL_l, mcQ_q, hg_hp, hp_hp, List.getD_cons_zero, List.getD_cons_succ, List.set_cons_zero, List.set_cons_succ, List.length_cons, List.length_nil, Nat.reduceAdd, Nat.reduceLT, Nat.reduceEqDiff, Nat.lt_add_one, decide_true, decide_false, Bool.and_true, Bool.true_and, Bool.and_false, Bool.false_and, Bool.false_eq_true, if_true, if_false, ↓reduceIte, Option.bind_some, Option.bind_none, kont_v, kont_n, RM_55, RM_56, RM_72, RM_73, RM_74, RMp_55, RMp_72, RMp_73, RMp_74, MO_len, MO_0, MO_19, MO_20, MO_21, MO_22, MO_23, MOs_19, MOs_22, r1, c1, p1]
theorem m_waitsWith (hs : nw < 60) {a sp : Int32} : (ev X 199 0 [.ref 55, .int a] [] (RMH B Z sp (nI nw) st wj ww)) = some (none, (RMH B Z sp (nI (nw + 1)) st wj (upd ww nw a))) := by
  have r1 : inR (nI nw) 60 = true := inR_n hs (by decide)
  have c1 : (nI nw).toNatClampNeg = nw := nI_clamp (by omega)
  have p1 : nI nw + 1 = nI (nw + 1) := nI_add nw 1
  simp only [s199_0, s199_1, s199_4, s199_5, s199_8, s199_9, s199_10, s199_11, s199_12, s199_15, s199_16, s199_17, s199_20, okF, okA, mcC_o, mcF_o, mcT_i, mcT_l, mcT_z, mcT_q, mcN_i, mcN_l, mcN_z, mcN_q, mcI_i, mcI_z, mcL_l, mcQ_q, hg_hp, hp_hp, List.getD_cons_zero, List.getD_cons_succ, List.set_cons_zero, List.set_cons_succ, List.length_cons, List.length_nil, Nat.reduceAdd, Nat.reduceLT, Nat.reduceEqDiff, Nat.lt_add_one, decide_true, decide_false, Bool.and_true, Bool.true_and, Bool.and_false, Bool.false_and, Bool.false_eq_true, if_true, if_false, ↓reduceIte, Option.bind_some, Option.bind_none, kont_v, kont_n, RM_55, RM_56, RM_72, RM_73, RM_74, RMp_55, RMp_72, RMp_73, RMp_74, MO_len, MO_0, MO_19, MO_20, MO_21, MO_22, MO_23, MOs_19, MOs_22, r1, c1, p1]
/-- settling stops -/
theorem m_set_0 {t sp : Int32} : (ev X 195 0 [.ref 55, .int t] [] (RMH B Z sp 0 st wj ww)) = some (none, (RMH B Z sp 0 st wj ww)) := by
  have l : ¬ (0 : Int32) < 0 := by decide
  rw [s195_0]
  simp only [s195_1, s195_4, s195_7, s195_8, s195_11, s195_12, s195_15, s195_16, s195_17, s195_18, s195_21, s195_22, s195_25, s195_26, s195_27, s195_30, s195_31, s195_32, s195_35, s195_36, s195_37, s195_40, s195_41, s195_44, s195_45, s195_46, s195_49, s195_52, okF, okA, mcC_o, mcF_o, mcT_i, mcT_l, mcT_z, mcT_q, mcN_i, mcN_l, mcN_z, mcN_q, mcI_i, mcI_z, mcL_l, mcQ_q, hg_hp, hp_hp, List.getD_cons_zero, List.getD_cons_succ, List.set_cons_zero, List.set_cons_succ, List.length_cons, List.length_nil, Nat.reduceAdd, Nat.reduceLT, Nat.reduceEqDiff, Nat.lt_add_one, decide_true, decide_false, Bool.and_true, Bool.true_and, Bool.and_false, Bool.false_and, Bool.false_eq_true, if_true, if_false, ↓reduceIte, Option.bind_some, Option.bind_none, kont_v, kont_n, RM_55, RM_56, RM_72, RM_73, RM_74, RMp_55, RMp_72, RMp_73, RMp_74, MO_len, MO_0, MO_19, MO_20, MO_21, MO_22, MO_23, MOs_19, MOs_22, l]
theorem m_set_stop (hw : nw < 60) {t sp : Int32} (ht : hld (ww nw) < t) : (ev X 195 0 [.ref 55, .int t] [] (RMH B Z sp (nI (nw + 1)) st wj ww)) = some (none, (RMH B Z sp (nI (nw + 1)) st wj ww)) := by
  have l : (0 : Int32) < nI (nw + 1) := nI_lt (a := 0) (by omega) (by omega)
  have p1 : nI (nw + 1) - 1 = nI nw := nI_pred nw
  have r1 : inR (nI nw) 60 = true := inR_n hw (by decide)
  have c1 : (nI nw).toNatClampNeg = nw := nI_clamp (by omega)
  rw [s195_0]
  simp only [s195_1, s195_4, s195_7, s195_8, s195_11, s195_12, s195_15, s195_16, s195_17, s195_18, s195_21, s195_22, s195_25, s195_26, s195_27, s195_30, s195_31, s195_32, s195_35, s195_36, s195_37, s195_40, s195_41, s195_44, s195_45, s195_46, s195_49, s195_52, okF, okA, mcC_o, mcF_o, mcT_i, mcT_l, mcT_z, mcT_q, mcN_i, mcN_l, mcN_z, mcN_q, mcI_i, mcI_z, mcL_l, mcQ_q, hg_hp, hp_hp, List.getD_cons_zero, List.getD_cons_succ, List.set_cons_zero, List.set_cons_succ, List.length_cons, List.length_nil, Nat.reduceAdd, Nat.reduceLT, Nat.reduceEqDiff, Nat.lt_add_one, decide_true, decide_false, Bool.and_true, Bool.true_and, Bool.and_false, Bool.false_and, Bool.false_eq_true, if_true, if_false, ↓reduceIte, Option.bind_some, Option.bind_none, kont_v, kont_n, RM_55, RM_56, RM_72, RM_73, RM_74, RMp_55, RMp_72, RMp_73, RMp_74, MO_len, MO_0, MO_19, MO_20, MO_21, MO_22, MO_23, MOs_19, MOs_22, l, p1, r1, c1, m_holds, ht]
theorem m_set_step (hw : nw < 60) (hs : ns < 60) {t : Int32} (ht : ¬ hld (ww nw) < t) : (ev X 195 0 [.ref 55, .int t] [] (RMH B Z (nI ns) (nI (nw + 1)) st wj ww)) = (ev X 195 0 [.ref 55, .int t] [] (RMH B Z (nI (ns + 1)) (nI nw) (upd st ns (ww nw)) (upd wj ns 0) ww)) := by
  have l : (0 : Int32) < nI (nw + 1) := nI_lt (a := 0) (by omega) (by omega)
  have p1 : nI (nw + 1) - 1 = nI nw := nI_pred nw
  have r1 : inR (nI nw) 60 = true := inR_n hw (by decide)
  have c1 : (nI nw).toNatClampNeg = nw := nI_clamp (by omega)
  have em := m_emits (X := X) (B := B) (Z := Z) (st := st) (wj := wj) (ww := ww) (ns := ns) hs (a := ww nw) (b := 0) (wa := nI nw)
  rw [s195_0]
  simp only [s195_1, s195_4, s195_7, s195_8, s195_11, s195_12, s195_15, s195_16, s195_17, s195_18, s195_21, s195_22, s195_25, s195_26, s195_27, s195_30, s195_31, s195_32, s195_35, s195_36, s195_37, s195_40, s195_41, s195_44, s195_45, s195_46, s195_49, s195_52, okF, okA, mcC_o, mcF_o, mcT_i, mcT_l, mcT_z, mcT_q, mcN_i, mcN_l, mcN_z, mcN_q, mcI_i, mcI_z, mcL_l, mcQ_q, hg_hp, hp_hp, List.getD_cons_zero, List.getD_cons_succ, List.set_cons_zero, List.set_cons_succ, List.length_cons, List.length_nil, Nat.reduceAdd, Nat.reduceLT, Nat.reduceEqDiff, Nat.lt_add_one, decide_true, decide_false, Bool.and_true, Bool.true_and, Bool.and_false, Bool.false_and, Bool.false_eq_true, if_true, if_false, ↓reduceIte, Option.bind_some, Option.bind_none, kont_v, kont_n, RM_55, RM_56, RM_72, RM_73, RM_74, RMp_55, RMp_72, RMp_73, RMp_74, MO_len, MO_0, MO_19, MO_20, MO_21, MO_22, MO_23, MOs_19, MOs_22, l, p1, r1, c1, m_holds, ht, em]
end RFO
theorem wi_dg {c : Nat} (hc : c < 128) : wi (nI c) 48 57 = if dgb c = true then 1 else 0 := by
  have := wi_nn (a := c) (b := 48) (c := 57) (by omega) (by omega) (by omega)
  have e : wi (nI c) 48 57 = if 48 ≤ c ∧ c ≤ 57 then 1 else 0 := this
  rw [e]
  unfold dgb
  by_cases a : 48 ≤ c
  · by_cases b : c ≤ 57
    · rw [if_pos ⟨a, b⟩, decide_eq_true a, decide_eq_true b]; rfl
    · rw [if_neg (fun z => b z.2), decide_eq_false b, Bool.and_false, if_neg (by decide)]
  · rw [if_neg (fun z => a z.1), decide_eq_false a, Bool.false_and, if_neg (by decide)]
section RRD
variable {X : MX} {B : MH} {Z : Nat → Int32} {S st wj ww : Nat → Int32} {ns nw n x i d : Nat} {q : Nat → Nat} {a1 a7 a8 a9 : Value}
/-- the signs of text x -/
def TXT (S : Nat → Int32) (x n : Nat) (q : Nat → Nat) : Prop := x < 4 ∧ n ≤ 50 ∧ ∀ i, i < n → S (646 + 51 * x + 1 + i) = nI (q i) ∧ q i < 128
theorem rd_sp (h56 : hg B 56 = iA 16450 S) (T : TXT S x n q) (hi : i < n) {op wh : Int32} (c : q i = 32) : ev X 194 35 [.ref 55, a1, .int (nI (646 + 51 * x)), .int (nI n), .int (op), .int wh, .int (nI i), a7, a8, a9] [] (RMH B Z (nI ns) (nI nw) st wj ww) = ev X 194 35 [.ref 55, a1, .int (nI (646 + 51 * x)), .int (nI n), .int (op), .int wh, .int (nI (i + 1)), .int (nI (q i)), a8, a9] [] (RMH B Z (nI ns) (nI nw) st wj ww) := by
  obtain ⟨t1, t2, t3⟩ := T
  have q128 := (t3 i hi).2
  have l := nI_lt hi (by omega)
  have p0 : nI (646 + 51 * x) + 1 = nI (646 + 51 * x + 1) := nI_add _ 1
  have p2 : nI (646 + 51 * x + 1) + nI i = nI (646 + 51 * x + 1 + i) := nI_add _ i
  have r1 : inR (nI (646 + 51 * x + 1 + i)) 16450 = true := inR_n (by omega) (by decide)
  have c1 : (nI (646 + 51 * x + 1 + i)).toNatClampNeg = 646 + 51 * x + 1 + i := nI_clamp (by omega)
  have e1 := (t3 i hi).1
  have p1 : nI i + 1 = nI (i + 1) := nI_add i 1
  have one0 : ¬ (1 : Int32) = 0 := by decide
  have ne : ∀ k : Nat, k < 128 → ((nI (q i) = nI k) = (q i = k)) := fun k hk => propext (nI_eq (by omega) (by omega))
  have n32 : (nI (q i) = (32 : Int32)) = (q i = 32) := ne 32 (by omega)
  have n41 : (nI (q i) = (41 : Int32)) = (q i = 41) := ne 41 (by omega)
  have n40 : (nI (q i) = (40 : Int32)) = (q i = 40) := ne 40 (by omega)
  have n45 : (nI (q i) = (45 : Int32)) = (q i = 45) := ne 45 (by omega)
  have e32 := eq_true c
  conv => lhs; rw [s194_35]
  simp only [s194_0, s194_3, s194_5, s194_6, s194_7, s194_8, s194_9, s194_10, s194_13, s194_14, s194_15, s194_16, s194_17, s194_18, s194_21, s194_22, s194_23, s194_26, s194_27, s194_29, s194_30, s194_32, s194_33, s194_37, s194_38, s194_41, s194_42, s194_45, s194_46, s194_47, s194_48, s194_50, s194_51, s194_52, s194_54, s194_56, s194_58, s194_61, s194_64, s194_67, s194_69, s194_72, s194_74, s194_76, s194_79, s194_81, s194_84, s194_85, s194_86, s194_89, s194_90, s194_91, s194_94, s194_95, s194_96, s194_99, s194_102, s194_103, s194_104, s194_107, s194_110, s194_112, s194_115, s194_116, s194_119, s194_120, s194_122, s194_125, s194_128, s194_131, s194_132, s194_134, s194_137, s194_140, s194_141, s194_143, s194_146, s194_148, s194_150, s194_151, s194_152, s194_153, s194_154, s194_157, s194_160, s194_162, s194_164, s194_166, s194_169, s194_172, s194_174, s194_176, s194_177, s194_181, s194_182, s194_185, s194_186, s194_189, s194_190, s194_191, s194_192, s194_194, s194_195, s194_196, s194_198, s194_200, s194_203, s194_206, s194_208, s194_210, s194_211, s194_213, s194_216, s194_218, s194_220, s194_221, s194_222, s194_223, s194_224, s194_226, s194_228, s194_229, s194_230, s194_233, s194_234, s194_235, s194_236, s194_238, s194_239, s194_240, s194_241, s194_243, s194_244, s194_246, s194_249, s194_252, s194_253, s194_254, s194_256, s194_259, s194_260, s194_261, s194_264, s194_265, s194_267, s194_270, s194_272, s194_275, s194_276, s194_279, s194_280, s194_281, s194_283, s194_286, s194_289, s194_290, s194_291, s194_294, s194_295, s194_297, s194_300, s194_303, s194_305, s194_307, s194_310, s194_312, s194_314, s194_317, s194_319, s194_321, s194_322, s194_323, s194_324, s194_325, s194_328, s194_329, s194_331, s194_334, s194_337, s194_340, s194_342, s194_344, s194_347, s194_348, s194_349, s194_352, s194_355, s194_358, s194_360, s194_362, s194_363, s194_364, s194_365, s194_366, s194_369, s194_370, s194_371, s194_374, s194_376, s194_379, s194_381, s194_384, s194_385, s194_388, s194_390, s194_391, s194_392, s194_393, s194_394, okF, okA, mcC_o, mcF_o, mcT_i, mcT_l, mcT_z, mcT_q, mcN_i, mcN_l, mcN_z, mcN_q, mcI_i, mcI_z, mcL_l, mcQ_q, hg_hp, hp_hp, List.getD_cons_zero, List.getD_cons_succ, List.set_cons_zero, List.set_cons_succ, List.length_cons, List.length_nil, Nat.reduceAdd, Nat.reduceLT, Nat.reduceEqDiff, Nat.lt_add_one, decide_true, decide_false, Bool.and_true, Bool.true_and, Bool.and_false, Bool.false_and, Bool.false_eq_true, if_true, if_false, ↓reduceIte, Option.bind_some, Option.bind_none, kont_v, kont_n, RM_55, RM_56, RM_72, RM_73, RM_74, RMp_55, RMp_72, RMp_73, RMp_74, MO_len, MO_0, MO_19, MO_20, MO_21, MO_22, MO_23, MOs_19, MOs_22, h56, l, p0, p2, r1, c1, e1, p1, n32, e32]
theorem rd_close (h56 : hg B 56 = iA 16450 S) (T : TXT S x n q) (hi : i < n) (c : q i = 41) (hd : d < 50) {ns1 nw1 : Nat} {st1 wi1 : Nat → Int32} {H3 : MH} (s1 : (ev X 195 0 [.ref 55, .int 1] [] (RMH B Z (nI ns) (nI nw) st wj ww)) = some (none, (RMH B Z (nI ns1) (nI (nw1 + 1)) st1 wi1 ww))) (s3 : (ev X 195 0 [.ref 55, .int 3] [] (RMH B Z (nI ns1) (nI nw1) st1 wi1 ww)) = some (none, (H3))) : ev X 194 35 [.ref 55, a1, .int (nI (646 + 51 * x)), .int (nI n), .int (nI (d + 1)), .int 1, .int (nI i), a7, a8, a9] [] (RMH B Z (nI ns) (nI nw) st wj ww) = ev X 194 35 [.ref 55, a1, .int (nI (646 + 51 * x)), .int (nI n), .int (nI d), .int 1, .int (nI (i + 1)), .int (nI (q i)), a8, a9] [] H3 := by
  obtain ⟨t1, t2, t3⟩ := T
  have q128 := (t3 i hi).2
  have l := nI_lt hi (by omega)
  have p0 : nI (646 + 51 * x) + 1 = nI (646 + 51 * x + 1) := nI_add _ 1
  have p2 : nI (646 + 51 * x + 1) + nI i = nI (646 + 51 * x + 1 + i) := nI_add _ i
  have r1 : inR (nI (646 + 51 * x + 1 + i)) 16450 = true := inR_n (by omega) (by decide)
  have c1 : (nI (646 + 51 * x + 1 + i)).toNatClampNeg = 646 + 51 * x + 1 + i := nI_clamp (by omega)
  have e1 := (t3 i hi).1
  have p1 : nI i + 1 = nI (i + 1) := nI_add i 1
  have one0 : ¬ (1 : Int32) = 0 := by decide
  have ne : ∀ k : Nat, k < 128 → ((nI (q i) = nI k) = (q i = k)) := fun k hk => propext (nI_eq (by omega) (by omega))
  have n32 : (nI (q i) = (32 : Int32)) = (q i = 32) := ne 32 (by omega)
  have n41 : (nI (q i) = (41 : Int32)) = (q i = 41) := ne 41 (by omega)
  have n40 : (nI (q i) = (40 : Int32)) = (q i = 40) := ne 40 (by omega)
  have n45 : (nI (q i) = (45 : Int32)) = (q i = 45) := ne 45 (by omega)
  have e32 := eq_false (show ¬ q i = 32 by omega)
  have e41 := eq_true c
  have l0 : (0 : Int32) < nI (d + 1) := nI_lt (a := 0) (by omega) (by omega)
  have pw : nI (nw1 + 1) - 1 = nI nw1 := nI_pred nw1
  have pd : nI (d + 1) + -1 = nI d := by rw [← Int32.sub_eq_add_neg]; exact nI_pred d
  conv => lhs; rw [s194_35]
  simp only [s194_0, s194_3, s194_5, s194_6, s194_7, s194_8, s194_9, s194_10, s194_13, s194_14, s194_15, s194_16, s194_17, s194_18, s194_21, s194_22, s194_23, s194_26, s194_27, s194_29, s194_30, s194_32, s194_33, s194_37, s194_38, s194_41, s194_42, s194_45, s194_46, s194_47, s194_48, s194_50, s194_51, s194_52, s194_54, s194_56, s194_58, s194_61, s194_64, s194_67, s194_69, s194_72, s194_74, s194_76, s194_79, s194_81, s194_84, s194_85, s194_86, s194_89, s194_90, s194_91, s194_94, s194_95, s194_96, s194_99, s194_102, s194_103, s194_104, s194_107, s194_110, s194_112, s194_115, s194_116, s194_119, s194_120, s194_122, s194_125, s194_128, s194_131, s194_132, s194_134, s194_137, s194_140, s194_141, s194_143, s194_146, s194_148, s194_150, s194_151, s194_152, s194_153, s194_154, s194_157, s194_160, s194_162, s194_164, s194_166, s194_169, s194_172, s194_174, s194_176, s194_177, s194_181, s194_182, s194_185, s194_186, s194_189, s194_190, s194_191, s194_192, s194_194, s194_195, s194_196, s194_198, s194_200, s194_203, s194_206, s194_208, s194_210, s194_211, s194_213, s194_216, s194_218, s194_220, s194_221, s194_222, s194_223, s194_224, s194_226, s194_228, s194_229, s194_230, s194_233, s194_234, s194_235, s194_236, s194_238, s194_239, s194_240, s194_241, s194_243, s194_244, s194_246, s194_249, s194_252, s194_253, s194_254, s194_256, s194_259, s194_260, s194_261, s194_264, s194_265, s194_267, s194_270, s194_272, s194_275, s194_276, s194_279, s194_280, s194_281, s194_283, s194_286, s194_289, s194_290, s194_291, s194_294, s194_295, s194_297, s194_300, s194_303, s194_305, s194_307, s194_310, s194_312, s194_314, s194_317, s194_319, s194_321, s194_322, s194_323, s194_324, s194_325, s194_328, s194_329, s194_331, s194_334, s194_337, s194_340, s194_342, s194_344, s194_347, s194_348, s194_349, s194_352, s194_355, s194_358, s194_360, s194_362, s194_363, s194_364, s194_365, s194_366, s194_369, s194_370, s194_371, s194_374, s194_376, s194_379, s194_381, s194_384, s194_385, s194_388, s194_390, s194_391, s194_392, s194_393, s194_394, okF, okA, mcC_o, mcF_o, mcT_i, mcT_l, mcT_z, mcT_q, mcN_i, mcN_l, mcN_z, mcN_q, mcI_i, mcI_z, mcL_l, mcQ_q, hg_hp, hp_hp, List.getD_cons_zero, List.getD_cons_succ, List.set_cons_zero, List.set_cons_succ, List.length_cons, List.length_nil, Nat.reduceAdd, Nat.reduceLT, Nat.reduceEqDiff, Nat.lt_add_one, decide_true, decide_false, Bool.and_true, Bool.true_and, Bool.and_false, Bool.false_and, Bool.false_eq_true, if_true, if_false, ↓reduceIte, Option.bind_some, Option.bind_none, kont_v, kont_n, RM_55, RM_56, RM_72, RM_73, RM_74, RMp_55, RMp_72, RMp_73, RMp_74, MO_len, MO_0, MO_19, MO_20, MO_21, MO_22, MO_23, MOs_19, MOs_22, h56, l, p0, p2, r1, c1, e1, p1, n32, e32, one0, n41, e41, l0, s1, pw, pd, s3]
theorem rd_sign (h56 : hg B 56 = iA 16450 S) (T : TXT S x n q) (hi : i < n) (c : ¬ q i = 32) (c41 : ¬ q i = 41) {sg : Int32} (hsg : sgo (q i) = sg) (hs1 : ¬ sg = -1) {ns1 nw1 : Nat} {st1 wi1 : Nat → Int32} (hw : nw1 < 60) {op : Int32} (s1 : (ev X 195 0 [.ref 55, .int (hld sg)] [] (RMH B Z (nI ns) (nI nw) st wj ww)) = some (none, (RMH B Z (nI ns1) (nI nw1) st1 wi1 ww))) : ev X 194 35 [.ref 55, a1, .int (nI (646 + 51 * x)), .int (nI n), .int (op), .int 1, .int (nI i), a7, a8, a9] [] (RMH B Z (nI ns) (nI nw) st wj ww) = ev X 194 35 [.ref 55, a1, .int (nI (646 + 51 * x)), .int (nI n), .int (op), .int 0, .int (nI (i + 1)), .int (nI (q i)), a8, a9] [] (RMH B Z (nI ns1) (nI (nw1 + 1)) st1 wi1 (upd ww nw1 sg)) := by
  obtain ⟨t1, t2, t3⟩ := T
  have q128 := (t3 i hi).2
  have l := nI_lt hi (by omega)
  have p0 : nI (646 + 51 * x) + 1 = nI (646 + 51 * x + 1) := nI_add _ 1
  have p2 : nI (646 + 51 * x + 1) + nI i = nI (646 + 51 * x + 1 + i) := nI_add _ i
  have r1 : inR (nI (646 + 51 * x + 1 + i)) 16450 = true := inR_n (by omega) (by decide)
  have c1 : (nI (646 + 51 * x + 1 + i)).toNatClampNeg = 646 + 51 * x + 1 + i := nI_clamp (by omega)
  have e1 := (t3 i hi).1
  have p1 : nI i + 1 = nI (i + 1) := nI_add i 1
  have one0 : ¬ (1 : Int32) = 0 := by decide
  have ne : ∀ k : Nat, k < 128 → ((nI (q i) = nI k) = (q i = k)) := fun k hk => propext (nI_eq (by omega) (by omega))
  have n32 : (nI (q i) = (32 : Int32)) = (q i = 32) := ne 32 (by omega)
  have n41 : (nI (q i) = (41 : Int32)) = (q i = 41) := ne 41 (by omega)
  have n40 : (nI (q i) = (40 : Int32)) = (q i = 40) := ne 40 (by omega)
  have n45 : (nI (q i) = (45 : Int32)) = (q i = 45) := ne 45 (by omega)
  have e32 := eq_false c
  have e41 := eq_false c41
  have so := fun h => m_signOf (X := X) (h := h) q128
  rw [hsg] at so
  have sn := eq_false hs1
  have wt := m_waitsWith (X := X) (B := B) (Z := Z) (st := st1) (wj := wi1) (ww := ww) (nw := nw1) hw (a := sg) (sp := nI ns1)
  conv => lhs; rw [s194_35]
  simp only [s194_0, s194_3, s194_5, s194_6, s194_7, s194_8, s194_9, s194_10, s194_13, s194_14, s194_15, s194_16, s194_17, s194_18, s194_21, s194_22, s194_23, s194_26, s194_27, s194_29, s194_30, s194_32, s194_33, s194_37, s194_38, s194_41, s194_42, s194_45, s194_46, s194_47, s194_48, s194_50, s194_51, s194_52, s194_54, s194_56, s194_58, s194_61, s194_64, s194_67, s194_69, s194_72, s194_74, s194_76, s194_79, s194_81, s194_84, s194_85, s194_86, s194_89, s194_90, s194_91, s194_94, s194_95, s194_96, s194_99, s194_102, s194_103, s194_104, s194_107, s194_110, s194_112, s194_115, s194_116, s194_119, s194_120, s194_122, s194_125, s194_128, s194_131, s194_132, s194_134, s194_137, s194_140, s194_141, s194_143, s194_146, s194_148, s194_150, s194_151, s194_152, s194_153, s194_154, s194_157, s194_160, s194_162, s194_164, s194_166, s194_169, s194_172, s194_174, s194_176, s194_177, s194_181, s194_182, s194_185, s194_186, s194_189, s194_190, s194_191, s194_192, s194_194, s194_195, s194_196, s194_198, s194_200, s194_203, s194_206, s194_208, s194_210, s194_211, s194_213, s194_216, s194_218, s194_220, s194_221, s194_222, s194_223, s194_224, s194_226, s194_228, s194_229, s194_230, s194_233, s194_234, s194_235, s194_236, s194_238, s194_239, s194_240, s194_241, s194_243, s194_244, s194_246, s194_249, s194_252, s194_253, s194_254, s194_256, s194_259, s194_260, s194_261, s194_264, s194_265, s194_267, s194_270, s194_272, s194_275, s194_276, s194_279, s194_280, s194_281, s194_283, s194_286, s194_289, s194_290, s194_291, s194_294, s194_295, s194_297, s194_300, s194_303, s194_305, s194_307, s194_310, s194_312, s194_314, s194_317, s194_319, s194_321, s194_322, s194_323, s194_324, s194_325, s194_328, s194_329, s194_331, s194_334, s194_337, s194_340, s194_342, s194_344, s194_347, s194_348, s194_349, s194_352, s194_355, s194_358, s194_360, s194_362, s194_363, s194_364, s194_365, s194_366, s194_369, s194_370, s194_371, s194_374, s194_376, s194_379, s194_381, s194_384, s194_385, s194_388, s194_390, s194_391, s194_392, s194_393, s194_394, okF, okA, mcC_o, mcF_o, mcT_i, mcT_l, mcT_z, mcT_q, mcN_i, mcN_l, mcN_z, mcN_q, mcI_i, mcI_z, mcL_l, mcQ_q, hg_hp, hp_hp, List.getD_cons_zero, List.getD_cons_succ, List.set_cons_zero, List.set_cons_succ, List.length_cons, List.length_nil, Nat.reduceAdd, Nat.reduceLT, Nat.reduceEqDiff, Nat.lt_add_one, decide_true, decide_false, Bool.and_true, Bool.true_and, Bool.and_false, Bool.false_and, Bool.false_eq_true, if_true, if_false, ↓reduceIte, Option.bind_some, Option.bind_none, kont_v, kont_n, RM_55, RM_56, RM_72, RM_73, RM_74, RMp_55, RMp_72, RMp_73, RMp_74, MO_len, MO_0, MO_19, MO_20, MO_21, MO_22, MO_23, MOs_19, MOs_22, h56, l, p0, p2, r1, c1, e1, p1, n32, e32, one0, n41, e41, so, sn, m_holds, s1, wt]
theorem rd_badj (h56 : hg B 56 = iA 16450 S) (T : TXT S x n q) (hi : i < n) (c : ¬ q i = 32) (hd : d < 50) (c41 : ¬ (q i = 41 ∧ 0 < d)) (hs1 : sgo (q i) = -1) : ev X 194 35 [.ref 55, a1, .int (nI (646 + 51 * x)), .int (nI n), .int (nI d), .int 1, .int (nI i), a7, a8, a9] [] (RMH B Z (nI ns) (nI nw) st wj ww) = some (some (.int (10 * nI i + 1)), (RMH B Z (nI ns) (nI nw) st wj ww)) := by
  obtain ⟨t1, t2, t3⟩ := T
  have q128 := (t3 i hi).2
  have l := nI_lt hi (by omega)
  have p0 : nI (646 + 51 * x) + 1 = nI (646 + 51 * x + 1) := nI_add _ 1
  have p2 : nI (646 + 51 * x + 1) + nI i = nI (646 + 51 * x + 1 + i) := nI_add _ i
  have r1 : inR (nI (646 + 51 * x + 1 + i)) 16450 = true := inR_n (by omega) (by decide)
  have c1 : (nI (646 + 51 * x + 1 + i)).toNatClampNeg = 646 + 51 * x + 1 + i := nI_clamp (by omega)
  have e1 := (t3 i hi).1
  have p1 : nI i + 1 = nI (i + 1) := nI_add i 1
  have one0 : ¬ (1 : Int32) = 0 := by decide
  have ne : ∀ k : Nat, k < 128 → ((nI (q i) = nI k) = (q i = k)) := fun k hk => propext (nI_eq (by omega) (by omega))
  have n32 : (nI (q i) = (32 : Int32)) = (q i = 32) := ne 32 (by omega)
  have n41 : (nI (q i) = (41 : Int32)) = (q i = 41) := ne 41 (by omega)
  have n40 : (nI (q i) = (40 : Int32)) = (q i = 40) := ne 40 (by omega)
  have n45 : (nI (q i) = (45 : Int32)) = (q i = 45) := ne 45 (by omega)
  have e32 := eq_false c
  have so := fun h => m_signOf (X := X) (h := h) q128
  rw [hs1] at so
  have sn : ((-1 : Int32) = -1) = True := eq_true rfl
  by_cases k : q i = 41
  · have e41 := eq_true k
    have d0 : d = 0 := by omega
    have l0 : ¬ (0 : Int32) < nI d := by rw [d0]; decide
    rw [s194_35]
    simp only [s194_0, s194_3, s194_5, s194_6, s194_7, s194_8, s194_9, s194_10, s194_13, s194_14, s194_15, s194_16, s194_17, s194_18, s194_21, s194_22, s194_23, s194_26, s194_27, s194_29, s194_30, s194_32, s194_33, s194_37, s194_38, s194_41, s194_42, s194_45, s194_46, s194_47, s194_48, s194_50, s194_51, s194_52, s194_54, s194_56, s194_58, s194_61, s194_64, s194_67, s194_69, s194_72, s194_74, s194_76, s194_79, s194_81, s194_84, s194_85, s194_86, s194_89, s194_90, s194_91, s194_94, s194_95, s194_96, s194_99, s194_102, s194_103, s194_104, s194_107, s194_110, s194_112, s194_115, s194_116, s194_119, s194_120, s194_122, s194_125, s194_128, s194_131, s194_132, s194_134, s194_137, s194_140, s194_141, s194_143, s194_146, s194_148, s194_150, s194_151, s194_152, s194_153, s194_154, s194_157, s194_160, s194_162, s194_164, s194_166, s194_169, s194_172, s194_174, s194_176, s194_177, s194_181, s194_182, s194_185, s194_186, s194_189, s194_190, s194_191, s194_192, s194_194, s194_195, s194_196, s194_198, s194_200, s194_203, s194_206, s194_208, s194_210, s194_211, s194_213, s194_216, s194_218, s194_220, s194_221, s194_222, s194_223, s194_224, s194_226, s194_228, s194_229, s194_230, s194_233, s194_234, s194_235, s194_236, s194_238, s194_239, s194_240, s194_241, s194_243, s194_244, s194_246, s194_249, s194_252, s194_253, s194_254, s194_256, s194_259, s194_260, s194_261, s194_264, s194_265, s194_267, s194_270, s194_272, s194_275, s194_276, s194_279, s194_280, s194_281, s194_283, s194_286, s194_289, s194_290, s194_291, s194_294, s194_295, s194_297, s194_300, s194_303, s194_305, s194_307, s194_310, s194_312, s194_314, s194_317, s194_319, s194_321, s194_322, s194_323, s194_324, s194_325, s194_328, s194_329, s194_331, s194_334, s194_337, s194_340, s194_342, s194_344, s194_347, s194_348, s194_349, s194_352, s194_355, s194_358, s194_360, s194_362, s194_363, s194_364, s194_365, s194_366, s194_369, s194_370, s194_371, s194_374, s194_376, s194_379, s194_381, s194_384, s194_385, s194_388, s194_390, s194_391, s194_392, s194_393, s194_394, okF, okA, mcC_o, mcF_o, mcT_i, mcT_l, mcT_z, mcT_q, mcN_i, mcN_l, mcN_z, mcN_q, mcI_i, mcI_z, mcL_l, mcQ_q, hg_hp, hp_hp, List.getD_cons_zero, List.getD_cons_succ, List.set_cons_zero, List.set_cons_succ, List.length_cons, List.length_nil, Nat.reduceAdd, Nat.reduceLT, Nat.reduceEqDiff, Nat.lt_add_one, decide_true, decide_false, Bool.and_true, Bool.true_and, Bool.and_false, Bool.false_and, Bool.false_eq_true, if_true, if_false, ↓reduceIte, Option.bind_some, Option.bind_none, kont_v, kont_n, RM_55, RM_56, RM_72, RM_73, RM_74, RMp_55, RMp_72, RMp_73, RMp_74, MO_len, MO_0, MO_19, MO_20, MO_21, MO_22, MO_23, MOs_19, MOs_22, h56, l, p0, p2, r1, c1, e1, p1, n32, e32, one0, n41, e41, l0, so, sn]
  · have e41 := eq_false k
    rw [s194_35]
    simp only [s194_0, s194_3, s194_5, s194_6, s194_7, s194_8, s194_9, s194_10, s194_13, s194_14, s194_15, s194_16, s194_17, s194_18, s194_21, s194_22, s194_23, s194_26, s194_27, s194_29, s194_30, s194_32, s194_33, s194_37, s194_38, s194_41, s194_42, s194_45, s194_46, s194_47, s194_48, s194_50, s194_51, s194_52, s194_54, s194_56, s194_58, s194_61, s194_64, s194_67, s194_69, s194_72, s194_74, s194_76, s194_79, s194_81, s194_84, s194_85, s194_86, s194_89, s194_90, s194_91, s194_94, s194_95, s194_96, s194_99, s194_102, s194_103, s194_104, s194_107, s194_110, s194_112, s194_115, s194_116, s194_119, s194_120, s194_122, s194_125, s194_128, s194_131, s194_132, s194_134, s194_137, s194_140, s194_141, s194_143, s194_146, s194_148, s194_150, s194_151, s194_152, s194_153, s194_154, s194_157, s194_160, s194_162, s194_164, s194_166, s194_169, s194_172, s194_174, s194_176, s194_177, s194_181, s194_182, s194_185, s194_186, s194_189, s194_190, s194_191, s194_192, s194_194, s194_195, s194_196, s194_198, s194_200, s194_203, s194_206, s194_208, s194_210, s194_211, s194_213, s194_216, s194_218, s194_220, s194_221, s194_222, s194_223, s194_224, s194_226, s194_228, s194_229, s194_230, s194_233, s194_234, s194_235, s194_236, s194_238, s194_239, s194_240, s194_241, s194_243, s194_244, s194_246, s194_249, s194_252, s194_253, s194_254, s194_256, s194_259, s194_260, s194_261, s194_264, s194_265, s194_267, s194_270, s194_272, s194_275, s194_276, s194_279, s194_280, s194_281, s194_283, s194_286, s194_289, s194_290, s194_291, s194_294, s194_295, s194_297, s194_300, s194_303, s194_305, s194_307, s194_310, s194_312, s194_314, s194_317, s194_319, s194_321, s194_322, s194_323, s194_324, s194_325, s194_328, s194_329, s194_331, s194_334, s194_337, s194_340, s194_342, s194_344, s194_347, s194_348, s194_349, s194_352, s194_355, s194_358, s194_360, s194_362, s194_363, s194_364, s194_365, s194_366, s194_369, s194_370, s194_371, s194_374, s194_376, s194_379, s194_381, s194_384, s194_385, s194_388, s194_390, s194_391, s194_392, s194_393, s194_394, okF, okA, mcC_o, mcF_o, mcT_i, mcT_l, mcT_z, mcT_q, mcN_i, mcN_l, mcN_z, mcN_q, mcI_i, mcI_z, mcL_l, mcQ_q, hg_hp, hp_hp, List.getD_cons_zero, List.getD_cons_succ, List.set_cons_zero, List.set_cons_succ, List.length_cons, List.length_nil, Nat.reduceAdd, Nat.reduceLT, Nat.reduceEqDiff, Nat.lt_add_one, decide_true, decide_false, Bool.and_true, Bool.true_and, Bool.and_false, Bool.false_and, Bool.false_eq_true, if_true, if_false, ↓reduceIte, Option.bind_some, Option.bind_none, kont_v, kont_n, RM_55, RM_56, RM_72, RM_73, RM_74, RMp_55, RMp_72, RMp_73, RMp_74, MO_len, MO_0, MO_19, MO_20, MO_21, MO_22, MO_23, MOs_19, MOs_22, h56, l, p0, p2, r1, c1, e1, p1, n32, e32, one0, n41, e41, so, sn]
theorem rd_let (h56 : hg B 56 = iA 16450 S) (T : TXT S x n q) (hi : i < n) (c : ¬ q i = 32) (cd : ¬ dgb (q i) = true) (cl : ltr (q i) < 7) (hs : ns < 60) {op : Int32} {H3 : MH} (s3 : (ev X 195 0 [.ref 55, .int 3] [] (RMH B Z (nI (ns + 1)) (nI nw) (upd st ns 1) (upd wj ns (nI (ltr (q i)))) ww)) = some (none, (H3))) : ev X 194 35 [.ref 55, a1, .int (nI (646 + 51 * x)), .int (nI n), .int (op), .int 0, .int (nI i), a7, a8, a9] [] (RMH B Z (nI ns) (nI nw) st wj ww) = ev X 194 35 [.ref 55, a1, .int (nI (646 + 51 * x)), .int (nI n), .int (op), .int 1, .int (nI (i + 1)), .int (nI (q i)), a8, a9] [] H3 := by
  obtain ⟨t1, t2, t3⟩ := T
  have q128 := (t3 i hi).2
  have l := nI_lt hi (by omega)
  have p0 : nI (646 + 51 * x) + 1 = nI (646 + 51 * x + 1) := nI_add _ 1
  have p2 : nI (646 + 51 * x + 1) + nI i = nI (646 + 51 * x + 1 + i) := nI_add _ i
  have r1 : inR (nI (646 + 51 * x + 1 + i)) 16450 = true := inR_n (by omega) (by decide)
  have c1 : (nI (646 + 51 * x + 1 + i)).toNatClampNeg = 646 + 51 * x + 1 + i := nI_clamp (by omega)
  have e1 := (t3 i hi).1
  have p1 : nI i + 1 = nI (i + 1) := nI_add i 1
  have one0 : ¬ (1 : Int32) = 0 := by decide
  have ne : ∀ k : Nat, k < 128 → ((nI (q i) = nI k) = (q i = k)) := fun k hk => propext (nI_eq (by omega) (by omega))
  have n32 : (nI (q i) = (32 : Int32)) = (q i = 32) := ne 32 (by omega)
  have n41 : (nI (q i) = (41 : Int32)) = (q i = 41) := ne 41 (by omega)
  have n40 : (nI (q i) = (40 : Int32)) = (q i = 40) := ne 40 (by omega)
  have n45 : (nI (q i) = (45 : Int32)) = (q i = 45) := ne 45 (by omega)
  have e32 := eq_false c
  have di := fun h => m_in (X := X) (h := h) (v := nI (q i)) (a := 48) (b := 57)
  have dw : wi (nI (q i)) 48 57 = if dgb (q i) = true then 1 else 0 := wi_dg q128
  rw [if_neg cd] at dw
  have no := fun h => m_nameOf (X := X) (h := h) q128
  rw [if_pos cl] at no
  have nn := eq_false (nI_m1 (b := ltr (q i)) (by omega))
  have em := m_emits (X := X) (B := B) (Z := Z) (st := st) (wj := wj) (ww := ww) (ns := ns) hs (a := 1) (b := nI (ltr (q i))) (wa := nI nw)
  conv => lhs; rw [s194_35]
  simp only [s194_0, s194_3, s194_5, s194_6, s194_7, s194_8, s194_9, s194_10, s194_13, s194_14, s194_15, s194_16, s194_17, s194_18, s194_21, s194_22, s194_23, s194_26, s194_27, s194_29, s194_30, s194_32, s194_33, s194_37, s194_38, s194_41, s194_42, s194_45, s194_46, s194_47, s194_48, s194_50, s194_51, s194_52, s194_54, s194_56, s194_58, s194_61, s194_64, s194_67, s194_69, s194_72, s194_74, s194_76, s194_79, s194_81, s194_84, s194_85, s194_86, s194_89, s194_90, s194_91, s194_94, s194_95, s194_96, s194_99, s194_102, s194_103, s194_104, s194_107, s194_110, s194_112, s194_115, s194_116, s194_119, s194_120, s194_122, s194_125, s194_128, s194_131, s194_132, s194_134, s194_137, s194_140, s194_141, s194_143, s194_146, s194_148, s194_150, s194_151, s194_152, s194_153, s194_154, s194_157, s194_160, s194_162, s194_164, s194_166, s194_169, s194_172, s194_174, s194_176, s194_177, s194_181, s194_182, s194_185, s194_186, s194_189, s194_190, s194_191, s194_192, s194_194, s194_195, s194_196, s194_198, s194_200, s194_203, s194_206, s194_208, s194_210, s194_211, s194_213, s194_216, s194_218, s194_220, s194_221, s194_222, s194_223, s194_224, s194_226, s194_228, s194_229, s194_230, s194_233, s194_234, s194_235, s194_236, s194_238, s194_239, s194_240, s194_241, s194_243, s194_244, s194_246, s194_249, s194_252, s194_253, s194_254, s194_256, s194_259, s194_260, s194_261, s194_264, s194_265, s194_267, s194_270, s194_272, s194_275, s194_276, s194_279, s194_280, s194_281, s194_283, s194_286, s194_289, s194_290, s194_291, s194_294, s194_295, s194_297, s194_300, s194_303, s194_305, s194_307, s194_310, s194_312, s194_314, s194_317, s194_319, s194_321, s194_322, s194_323, s194_324, s194_325, s194_328, s194_329, s194_331, s194_334, s194_337, s194_340, s194_342, s194_344, s194_347, s194_348, s194_349, s194_352, s194_355, s194_358, s194_360, s194_362, s194_363, s194_364, s194_365, s194_366, s194_369, s194_370, s194_371, s194_374, s194_376, s194_379, s194_381, s194_384, s194_385, s194_388, s194_390, s194_391, s194_392, s194_393, s194_394, okF, okA, mcC_o, mcF_o, mcT_i, mcT_l, mcT_z, mcT_q, mcN_i, mcN_l, mcN_z, mcN_q, mcI_i, mcI_z, mcL_l, mcQ_q, hg_hp, hp_hp, List.getD_cons_zero, List.getD_cons_succ, List.set_cons_zero, List.set_cons_succ, List.length_cons, List.length_nil, Nat.reduceAdd, Nat.reduceLT, Nat.reduceEqDiff, Nat.lt_add_one, decide_true, decide_false, Bool.and_true, Bool.true_and, Bool.and_false, Bool.false_and, Bool.false_eq_true, if_true, if_false, ↓reduceIte, Option.bind_some, Option.bind_none, kont_v, kont_n, RM_55, RM_56, RM_72, RM_73, RM_74, RMp_55, RMp_72, RMp_73, RMp_74, MO_len, MO_0, MO_19, MO_20, MO_21, MO_22, MO_23, MOs_19, MOs_22, h56, l, p0, p2, r1, c1, e1, p1, n32, e32, di, dw, no, nn, em, s3]
theorem rd_open (h56 : hg B 56 = iA 16450 S) (T : TXT S x n q) (hi : i < n) (c : q i = 40) (hd : d < 8) (hw : nw < 60) : ev X 194 35 [.ref 55, a1, .int (nI (646 + 51 * x)), .int (nI n), .int (nI d), .int 0, .int (nI i), a7, a8, a9] [] (RMH B Z (nI ns) (nI nw) st wj ww) = ev X 194 35 [.ref 55, a1, .int (nI (646 + 51 * x)), .int (nI n), .int (nI (d + 1)), .int 0, .int (nI (i + 1)), .int (nI (q i)), a8, a9] [] (RMH B Z (nI ns) (nI (nw + 1)) st wj (upd ww nw 7)) := by
  obtain ⟨t1, t2, t3⟩ := T
  have q128 := (t3 i hi).2
  have l := nI_lt hi (by omega)
  have p0 : nI (646 + 51 * x) + 1 = nI (646 + 51 * x + 1) := nI_add _ 1
  have p2 : nI (646 + 51 * x + 1) + nI i = nI (646 + 51 * x + 1 + i) := nI_add _ i
  have r1 : inR (nI (646 + 51 * x + 1 + i)) 16450 = true := inR_n (by omega) (by decide)
  have c1 : (nI (646 + 51 * x + 1 + i)).toNatClampNeg = 646 + 51 * x + 1 + i := nI_clamp (by omega)
  have e1 := (t3 i hi).1
  have p1 : nI i + 1 = nI (i + 1) := nI_add i 1
  have one0 : ¬ (1 : Int32) = 0 := by decide
  have ne : ∀ k : Nat, k < 128 → ((nI (q i) = nI k) = (q i = k)) := fun k hk => propext (nI_eq (by omega) (by omega))
  have n32 : (nI (q i) = (32 : Int32)) = (q i = 32) := ne 32 (by omega)
  have n41 : (nI (q i) = (41 : Int32)) = (q i = 41) := ne 41 (by omega)
  have n40 : (nI (q i) = (40 : Int32)) = (q i = 40) := ne 40 (by omega)
  have n45 : (nI (q i) = (45 : Int32)) = (q i = 45) := ne 45 (by omega)
  have e32 := eq_false (show ¬ q i = 32 by omega)
  have cd : ¬ dgb (q i) = true := by rw [c]; decide
  have cl : ¬ ltr (q i) < 7 := by rw [c]; decide
  have e40 := eq_true c
  have di := fun h => m_in (X := X) (h := h) (v := nI (q i)) (a := 48) (b := 57)
  have dw : wi (nI (q i)) 48 57 = if dgb (q i) = true then 1 else 0 := wi_dg q128
  rw [if_neg cd] at dw
  have no := fun h => m_nameOf (X := X) (h := h) q128
  rw [if_neg cl] at no
  have nn : ((-1 : Int32) = -1) = True := eq_true rfl
  have n8 : (nI d = (8 : Int32)) = False := eq_false (fun z => by have := (nI_eq (b := 8) (by omega) (by omega)).mp z; omega)
  have pd : nI d + 1 = nI (d + 1) := nI_add d 1
  have wt := m_waitsWith (X := X) (B := B) (Z := Z) (st := st) (wj := wj) (ww := ww) (nw := nw) hw (a := 7) (sp := nI ns)
  conv => lhs; rw [s194_35]
  simp only [s194_0, s194_3, s194_5, s194_6, s194_7, s194_8, s194_9, s194_10, s194_13, s194_14, s194_15, s194_16, s194_17, s194_18, s194_21, s194_22, s194_23, s194_26, s194_27, s194_29, s194_30, s194_32, s194_33, s194_37, s194_38, s194_41, s194_42, s194_45, s194_46, s194_47, s194_48, s194_50, s194_51, s194_52, s194_54, s194_56, s194_58, s194_61, s194_64, s194_67, s194_69, s194_72, s194_74, s194_76, s194_79, s194_81, s194_84, s194_85, s194_86, s194_89, s194_90, s194_91, s194_94, s194_95, s194_96, s194_99, s194_102, s194_103, s194_104, s194_107, s194_110, s194_112, s194_115, s194_116, s194_119, s194_120, s194_122, s194_125, s194_128, s194_131, s194_132, s194_134, s194_137, s194_140, s194_141, s194_143, s194_146, s194_148, s194_150, s194_151, s194_152, s194_153, s194_154, s194_157, s194_160, s194_162, s194_164, s194_166, s194_169, s194_172, s194_174, s194_176, s194_177, s194_181, s194_182, s194_185, s194_186, s194_189, s194_190, s194_191, s194_192, s194_194, s194_195, s194_196, s194_198, s194_200, s194_203, s194_206, s194_208, s194_210, s194_211, s194_213, s194_216, s194_218, s194_220, s194_221, s194_222, s194_223, s194_224, s194_226, s194_228, s194_229, s194_230, s194_233, s194_234, s194_235, s194_236, s194_238, s194_239, s194_240, s194_241, s194_243, s194_244, s194_246, s194_249, s194_252, s194_253, s194_254, s194_256, s194_259, s194_260, s194_261, s194_264, s194_265, s194_267, s194_270, s194_272, s194_275, s194_276, s194_279, s194_280, s194_281, s194_283, s194_286, s194_289, s194_290, s194_291, s194_294, s194_295, s194_297, s194_300, s194_303, s194_305, s194_307, s194_310, s194_312, s194_314, s194_317, s194_319, s194_321, s194_322, s194_323, s194_324, s194_325, s194_328, s194_329, s194_331, s194_334, s194_337, s194_340, s194_342, s194_344, s194_347, s194_348, s194_349, s194_352, s194_355, s194_358, s194_360, s194_362, s194_363, s194_364, s194_365, s194_366, s194_369, s194_370, s194_371, s194_374, s194_376, s194_379, s194_381, s194_384, s194_385, s194_388, s194_390, s194_391, s194_392, s194_393, s194_394, okF, okA, mcC_o, mcF_o, mcT_i, mcT_l, mcT_z, mcT_q, mcN_i, mcN_l, mcN_z, mcN_q, mcI_i, mcI_z, mcL_l, mcQ_q, hg_hp, hp_hp, List.getD_cons_zero, List.getD_cons_succ, List.set_cons_zero, List.set_cons_succ, List.length_cons, List.length_nil, Nat.reduceAdd, Nat.reduceLT, Nat.reduceEqDiff, Nat.lt_add_one, decide_true, decide_false, Bool.and_true, Bool.true_and, Bool.and_false, Bool.false_and, Bool.false_eq_true, if_true, if_false, ↓reduceIte, Option.bind_some, Option.bind_none, kont_v, kont_n, RM_55, RM_56, RM_72, RM_73, RM_74, RMp_55, RMp_72, RMp_73, RMp_74, MO_len, MO_0, MO_19, MO_20, MO_21, MO_22, MO_23, MOs_19, MOs_22, h56, l, p0, p2, r1, c1, e1, p1, n32, e32, di, dw, no, nn, n40, e40, n8, pd, wt]
theorem rd_deep (h56 : hg B 56 = iA 16450 S) (T : TXT S x n q) (hi : i < n) (c : q i = 40) : ev X 194 35 [.ref 55, a1, .int (nI (646 + 51 * x)), .int (nI n), .int (nI 8), .int 0, .int (nI i), a7, a8, a9] [] (RMH B Z (nI ns) (nI nw) st wj ww) = some (some (.int (10 * nI i + 3)), (RMH B Z (nI ns) (nI nw) st wj ww)) := by
  obtain ⟨t1, t2, t3⟩ := T
  have q128 := (t3 i hi).2
  have l := nI_lt hi (by omega)
  have p0 : nI (646 + 51 * x) + 1 = nI (646 + 51 * x + 1) := nI_add _ 1
  have p2 : nI (646 + 51 * x + 1) + nI i = nI (646 + 51 * x + 1 + i) := nI_add _ i
  have r1 : inR (nI (646 + 51 * x + 1 + i)) 16450 = true := inR_n (by omega) (by decide)
  have c1 : (nI (646 + 51 * x + 1 + i)).toNatClampNeg = 646 + 51 * x + 1 + i := nI_clamp (by omega)
  have e1 := (t3 i hi).1
  have p1 : nI i + 1 = nI (i + 1) := nI_add i 1
  have one0 : ¬ (1 : Int32) = 0 := by decide
  have ne : ∀ k : Nat, k < 128 → ((nI (q i) = nI k) = (q i = k)) := fun k hk => propext (nI_eq (by omega) (by omega))
  have n32 : (nI (q i) = (32 : Int32)) = (q i = 32) := ne 32 (by omega)
  have n41 : (nI (q i) = (41 : Int32)) = (q i = 41) := ne 41 (by omega)
  have n40 : (nI (q i) = (40 : Int32)) = (q i = 40) := ne 40 (by omega)
  have n45 : (nI (q i) = (45 : Int32)) = (q i = 45) := ne 45 (by omega)
  have e32 := eq_false (show ¬ q i = 32 by omega)
  have cd : ¬ dgb (q i) = true := by rw [c]; decide
  have cl : ¬ ltr (q i) < 7 := by rw [c]; decide
  have e40 := eq_true c
  have di := fun h => m_in (X := X) (h := h) (v := nI (q i)) (a := 48) (b := 57)
  have dw : wi (nI (q i)) 48 57 = if dgb (q i) = true then 1 else 0 := wi_dg q128
  rw [if_neg cd] at dw
  have no := fun h => m_nameOf (X := X) (h := h) q128
  rw [if_neg cl] at no
  have nn : ((-1 : Int32) = -1) = True := eq_true rfl
  have n8 : (nI 8 = (8 : Int32)) = True := eq_true rfl
  rw [s194_35]
  simp only [s194_0, s194_3, s194_5, s194_6, s194_7, s194_8, s194_9, s194_10, s194_13, s194_14, s194_15, s194_16, s194_17, s194_18, s194_21, s194_22, s194_23, s194_26, s194_27, s194_29, s194_30, s194_32, s194_33, s194_37, s194_38, s194_41, s194_42, s194_45, s194_46, s194_47, s194_48, s194_50, s194_51, s194_52, s194_54, s194_56, s194_58, s194_61, s194_64, s194_67, s194_69, s194_72, s194_74, s194_76, s194_79, s194_81, s194_84, s194_85, s194_86, s194_89, s194_90, s194_91, s194_94, s194_95, s194_96, s194_99, s194_102, s194_103, s194_104, s194_107, s194_110, s194_112, s194_115, s194_116, s194_119, s194_120, s194_122, s194_125, s194_128, s194_131, s194_132, s194_134, s194_137, s194_140, s194_141, s194_143, s194_146, s194_148, s194_150, s194_151, s194_152, s194_153, s194_154, s194_157, s194_160, s194_162, s194_164, s194_166, s194_169, s194_172, s194_174, s194_176, s194_177, s194_181, s194_182, s194_185, s194_186, s194_189, s194_190, s194_191, s194_192, s194_194, s194_195, s194_196, s194_198, s194_200, s194_203, s194_206, s194_208, s194_210, s194_211, s194_213, s194_216, s194_218, s194_220, s194_221, s194_222, s194_223, s194_224, s194_226, s194_228, s194_229, s194_230, s194_233, s194_234, s194_235, s194_236, s194_238, s194_239, s194_240, s194_241, s194_243, s194_244, s194_246, s194_249, s194_252, s194_253, s194_254, s194_256, s194_259, s194_260, s194_261, s194_264, s194_265, s194_267, s194_270, s194_272, s194_275, s194_276, s194_279, s194_280, s194_281, s194_283, s194_286, s194_289, s194_290, s194_291, s194_294, s194_295, s194_297, s194_300, s194_303, s194_305, s194_307, s194_310, s194_312, s194_314, s194_317, s194_319, s194_321, s194_322, s194_323, s194_324, s194_325, s194_328, s194_329, s194_331, s194_334, s194_337, s194_340, s194_342, s194_344, s194_347, s194_348, s194_349, s194_352, s194_355, s194_358, s194_360, s194_362, s194_363, s194_364, s194_365, s194_366, s194_369, s194_370, s194_371, s194_374, s194_376, s194_379, s194_381, s194_384, s194_385, s194_388, s194_390, s194_391, s194_392, s194_393, s194_394, okF, okA, mcC_o, mcF_o, mcT_i, mcT_l, mcT_z, mcT_q, mcN_i, mcN_l, mcN_z, mcN_q, mcI_i, mcI_z, mcL_l, mcQ_q, hg_hp, hp_hp, List.getD_cons_zero, List.getD_cons_succ, List.set_cons_zero, List.set_cons_succ, List.length_cons, List.length_nil, Nat.reduceAdd, Nat.reduceLT, Nat.reduceEqDiff, Nat.lt_add_one, decide_true, decide_false, Bool.and_true, Bool.true_and, Bool.and_false, Bool.false_and, Bool.false_eq_true, if_true, if_false, ↓reduceIte, Option.bind_some, Option.bind_none, kont_v, kont_n, RM_55, RM_56, RM_72, RM_73, RM_74, RMp_55, RMp_72, RMp_73, RMp_74, MO_len, MO_0, MO_19, MO_20, MO_21, MO_22, MO_23, MOs_19, MOs_22, h56, l, p0, p2, r1, c1, e1, p1, n32, e32, di, dw, no, nn, n40, e40, n8]
theorem rd_neg (h56 : hg B 56 = iA 16450 S) (T : TXT S x n q) (hi : i < n) (c : q i = 45) (hw : nw < 60) {op : Int32} : ev X 194 35 [.ref 55, a1, .int (nI (646 + 51 * x)), .int (nI n), .int (op), .int 0, .int (nI i), a7, a8, a9] [] (RMH B Z (nI ns) (nI nw) st wj ww) = ev X 194 35 [.ref 55, a1, .int (nI (646 + 51 * x)), .int (nI n), .int (op), .int 0, .int (nI (i + 1)), .int (nI (q i)), a8, a9] [] (RMH B Z (nI ns) (nI (nw + 1)) st wj (upd ww nw 2)) := by
  obtain ⟨t1, t2, t3⟩ := T
  have q128 := (t3 i hi).2
  have l := nI_lt hi (by omega)
  have p0 : nI (646 + 51 * x) + 1 = nI (646 + 51 * x + 1) := nI_add _ 1
  have p2 : nI (646 + 51 * x + 1) + nI i = nI (646 + 51 * x + 1 + i) := nI_add _ i
  have r1 : inR (nI (646 + 51 * x + 1 + i)) 16450 = true := inR_n (by omega) (by decide)
  have c1 : (nI (646 + 51 * x + 1 + i)).toNatClampNeg = 646 + 51 * x + 1 + i := nI_clamp (by omega)
  have e1 := (t3 i hi).1
  have p1 : nI i + 1 = nI (i + 1) := nI_add i 1
  have one0 : ¬ (1 : Int32) = 0 := by decide
  have ne : ∀ k : Nat, k < 128 → ((nI (q i) = nI k) = (q i = k)) := fun k hk => propext (nI_eq (by omega) (by omega))
  have n32 : (nI (q i) = (32 : Int32)) = (q i = 32) := ne 32 (by omega)
  have n41 : (nI (q i) = (41 : Int32)) = (q i = 41) := ne 41 (by omega)
  have n40 : (nI (q i) = (40 : Int32)) = (q i = 40) := ne 40 (by omega)
  have n45 : (nI (q i) = (45 : Int32)) = (q i = 45) := ne 45 (by omega)
  have e32 := eq_false (show ¬ q i = 32 by omega)
  have cd : ¬ dgb (q i) = true := by rw [c]; decide
  have cl : ¬ ltr (q i) < 7 := by rw [c]; decide
  have e40 := eq_false (show ¬ q i = 40 by omega)
  have e45 := eq_true c
  have di := fun h => m_in (X := X) (h := h) (v := nI (q i)) (a := 48) (b := 57)
  have dw : wi (nI (q i)) 48 57 = if dgb (q i) = true then 1 else 0 := wi_dg q128
  rw [if_neg cd] at dw
  have no := fun h => m_nameOf (X := X) (h := h) q128
  rw [if_neg cl] at no
  have nn : ((-1 : Int32) = -1) = True := eq_true rfl
  have wt := m_waitsWith (X := X) (B := B) (Z := Z) (st := st) (wj := wj) (ww := ww) (nw := nw) hw (a := 2) (sp := nI ns)
  conv => lhs; rw [s194_35]
  simp only [s194_0, s194_3, s194_5, s194_6, s194_7, s194_8, s194_9, s194_10, s194_13, s194_14, s194_15, s194_16, s194_17, s194_18, s194_21, s194_22, s194_23, s194_26, s194_27, s194_29, s194_30, s194_32, s194_33, s194_37, s194_38, s194_41, s194_42, s194_45, s194_46, s194_47, s194_48, s194_50, s194_51, s194_52, s194_54, s194_56, s194_58, s194_61, s194_64, s194_67, s194_69, s194_72, s194_74, s194_76, s194_79, s194_81, s194_84, s194_85, s194_86, s194_89, s194_90, s194_91, s194_94, s194_95, s194_96, s194_99, s194_102, s194_103, s194_104, s194_107, s194_110, s194_112, s194_115, s194_116, s194_119, s194_120, s194_122, s194_125, s194_128, s194_131, s194_132, s194_134, s194_137, s194_140, s194_141, s194_143, s194_146, s194_148, s194_150, s194_151, s194_152, s194_153, s194_154, s194_157, s194_160, s194_162, s194_164, s194_166, s194_169, s194_172, s194_174, s194_176, s194_177, s194_181, s194_182, s194_185, s194_186, s194_189, s194_190, s194_191, s194_192, s194_194, s194_195, s194_196, s194_198, s194_200, s194_203, s194_206, s194_208, s194_210, s194_211, s194_213, s194_216, s194_218, s194_220, s194_221, s194_222, s194_223, s194_224, s194_226, s194_228, s194_229, s194_230, s194_233, s194_234, s194_235, s194_236, s194_238, s194_239, s194_240, s194_241, s194_243, s194_244, s194_246, s194_249, s194_252, s194_253, s194_254, s194_256, s194_259, s194_260, s194_261, s194_264, s194_265, s194_267, s194_270, s194_272, s194_275, s194_276, s194_279, s194_280, s194_281, s194_283, s194_286, s194_289, s194_290, s194_291, s194_294, s194_295, s194_297, s194_300, s194_303, s194_305, s194_307, s194_310, s194_312, s194_314, s194_317, s194_319, s194_321, s194_322, s194_323, s194_324, s194_325, s194_328, s194_329, s194_331, s194_334, s194_337, s194_340, s194_342, s194_344, s194_347, s194_348, s194_349, s194_352, s194_355, s194_358, s194_360, s194_362, s194_363, s194_364, s194_365, s194_366, s194_369, s194_370, s194_371, s194_374, s194_376, s194_379, s194_381, s194_384, s194_385, s194_388, s194_390, s194_391, s194_392, s194_393, s194_394, okF, okA, mcC_o, mcF_o, mcT_i, mcT_l, mcT_z, mcT_q, mcN_i, mcN_l, mcN_z, mcN_q, mcI_i, mcI_z, mcL_l, mcQ_q, hg_hp, hp_hp, List.getD_cons_zero, List.getD_cons_succ, List.set_cons_zero, List.set_cons_succ, List.length_cons, List.length_nil, Nat.reduceAdd, Nat.reduceLT, Nat.reduceEqDiff, Nat.lt_add_one, decide_true, decide_false, Bool.and_true, Bool.true_and, Bool.and_false, Bool.false_and, Bool.false_eq_true, if_true, if_false, ↓reduceIte, Option.bind_some, Option.bind_none, kont_v, kont_n, RM_55, RM_56, RM_72, RM_73, RM_74, RMp_55, RMp_72, RMp_73, RMp_74, MO_len, MO_0, MO_19, MO_20, MO_21, MO_22, MO_23, MOs_19, MOs_22, h56, l, p0, p2, r1, c1, e1, p1, n32, e32, di, dw, no, nn, n40, e40, n45, e45, wt]
theorem rd_badu (h56 : hg B 56 = iA 16450 S) (T : TXT S x n q) (hi : i < n) (c : ¬ q i = 32) (cd : ¬ dgb (q i) = true) (cl : ¬ ltr (q i) < 7) (c40 : ¬ q i = 40) (c45 : ¬ q i = 45) {op : Int32} : ev X 194 35 [.ref 55, a1, .int (nI (646 + 51 * x)), .int (nI n), .int (op), .int 0, .int (nI i), a7, a8, a9] [] (RMH B Z (nI ns) (nI nw) st wj ww) = some (some (.int (10 * nI i + 1)), (RMH B Z (nI ns) (nI nw) st wj ww)) := by
  obtain ⟨t1, t2, t3⟩ := T
  have q128 := (t3 i hi).2
  have l := nI_lt hi (by omega)
  have p0 : nI (646 + 51 * x) + 1 = nI (646 + 51 * x + 1) := nI_add _ 1
  have p2 : nI (646 + 51 * x + 1) + nI i = nI (646 + 51 * x + 1 + i) := nI_add _ i
  have r1 : inR (nI (646 + 51 * x + 1 + i)) 16450 = true := inR_n (by omega) (by decide)
  have c1 : (nI (646 + 51 * x + 1 + i)).toNatClampNeg = 646 + 51 * x + 1 + i := nI_clamp (by omega)
  have e1 := (t3 i hi).1
  have p1 : nI i + 1 = nI (i + 1) := nI_add i 1
  have one0 : ¬ (1 : Int32) = 0 := by decide
  have ne : ∀ k : Nat, k < 128 → ((nI (q i) = nI k) = (q i = k)) := fun k hk => propext (nI_eq (by omega) (by omega))
  have n32 : (nI (q i) = (32 : Int32)) = (q i = 32) := ne 32 (by omega)
  have n41 : (nI (q i) = (41 : Int32)) = (q i = 41) := ne 41 (by omega)
  have n40 : (nI (q i) = (40 : Int32)) = (q i = 40) := ne 40 (by omega)
  have n45 : (nI (q i) = (45 : Int32)) = (q i = 45) := ne 45 (by omega)
  have e32 := eq_false c
  have e40 := eq_false c40
  have e45 := eq_false c45
  have di := fun h => m_in (X := X) (h := h) (v := nI (q i)) (a := 48) (b := 57)
  have dw : wi (nI (q i)) 48 57 = if dgb (q i) = true then 1 else 0 := wi_dg q128
  rw [if_neg cd] at dw
  have no := fun h => m_nameOf (X := X) (h := h) q128
  rw [if_neg cl] at no
  have nn : ((-1 : Int32) = -1) = True := eq_true rfl
  rw [s194_35]
  simp only [s194_0, s194_3, s194_5, s194_6, s194_7, s194_8, s194_9, s194_10, s194_13, s194_14, s194_15, s194_16, s194_17, s194_18, s194_21, s194_22, s194_23, s194_26, s194_27, s194_29, s194_30, s194_32, s194_33, s194_37, s194_38, s194_41, s194_42, s194_45, s194_46, s194_47, s194_48, s194_50, s194_51, s194_52, s194_54, s194_56, s194_58, s194_61, s194_64, s194_67, s194_69, s194_72, s194_74, s194_76, s194_79, s194_81, s194_84, s194_85, s194_86, s194_89, s194_90, s194_91, s194_94, s194_95, s194_96, s194_99, s194_102, s194_103, s194_104, s194_107, s194_110, s194_112, s194_115, s194_116, s194_119, s194_120, s194_122, s194_125, s194_128, s194_131, s194_132, s194_134, s194_137, s194_140, s194_141, s194_143, s194_146, s194_148, s194_150, s194_151, s194_152, s194_153, s194_154, s194_157, s194_160, s194_162, s194_164, s194_166, s194_169, s194_172, s194_174, s194_176, s194_177, s194_181, s194_182, s194_185, s194_186, s194_189, s194_190, s194_191, s194_192, s194_194, s194_195, s194_196, s194_198, s194_200, s194_203, s194_206, s194_208, s194_210, s194_211, s194_213, s194_216, s194_218, s194_220, s194_221, s194_222, s194_223, s194_224, s194_226, s194_228, s194_229, s194_230, s194_233, s194_234, s194_235, s194_236, s194_238, s194_239, s194_240, s194_241, s194_243, s194_244, s194_246, s194_249, s194_252, s194_253, s194_254, s194_256, s194_259, s194_260, s194_261, s194_264, s194_265, s194_267, s194_270, s194_272, s194_275, s194_276, s194_279, s194_280, s194_281, s194_283, s194_286, s194_289, s194_290, s194_291, s194_294, s194_295, s194_297, s194_300, s194_303, s194_305, s194_307, s194_310, s194_312, s194_314, s194_317, s194_319, s194_321, s194_322, s194_323, s194_324, s194_325, s194_328, s194_329, s194_331, s194_334, s194_337, s194_340, s194_342, s194_344, s194_347, s194_348, s194_349, s194_352, s194_355, s194_358, s194_360, s194_362, s194_363, s194_364, s194_365, s194_366, s194_369, s194_370, s194_371, s194_374, s194_376, s194_379, s194_381, s194_384, s194_385, s194_388, s194_390, s194_391, s194_392, s194_393, s194_394, okF, okA, mcC_o, mcF_o, mcT_i, mcT_l, mcT_z, mcT_q, mcN_i, mcN_l, mcN_z, mcN_q, mcI_i, mcI_z, mcL_l, mcQ_q, hg_hp, hp_hp, List.getD_cons_zero, List.getD_cons_succ, List.set_cons_zero, List.set_cons_succ, List.length_cons, List.length_nil, Nat.reduceAdd, Nat.reduceLT, Nat.reduceEqDiff, Nat.lt_add_one, decide_true, decide_false, Bool.and_true, Bool.true_and, Bool.and_false, Bool.false_and, Bool.false_eq_true, if_true, if_false, ↓reduceIte, Option.bind_some, Option.bind_none, kont_v, kont_n, RM_55, RM_56, RM_72, RM_73, RM_74, RMp_55, RMp_72, RMp_73, RMp_74, MO_len, MO_0, MO_19, MO_20, MO_21, MO_22, MO_23, MOs_19, MOs_22, h56, l, p0, p2, r1, c1, e1, p1, n32, e32, di, dw, no, nn, n40, e40, n45, e45]
theorem rd_dl (h56 : hg B 56 = iA 16450 S) {f : Nat} (f100 : f < 100) (T : TXT S x n q) {op wh : Int32} : ∀ (m i : Nat) (v : Int32), i + m = f + 6 → f ≤ i → ev X 194 179 [.ref 55, a1, .int (nI (646 + 51 * x)), .int (nI n), .int op, .int wh, .int (nI i), a7, .int (nI f), .int v] [] (RMH B Z (nI ns) (nI nw) st wj ww) = if dgb (sgn n q (i + dct n q m i)) = true then some (some (.int (10 * nI f + 2)), (RMH B Z (nI ns) (nI nw) st wj ww)) else ev X 194 252 [.ref 55, a1, .int (nI (646 + 51 * x)), .int (nI n), .int op, .int wh, .int (nI (i + dct n q m i)), a7, .int (nI f), .int (dvl n q m i v)] [] (RMH B Z (nI ns) (nI nw) st wj ww) := by
  obtain ⟨t1, t2, t3⟩ := T
  have stop : ∀ (i : Nat) (v : Int32), i < 1000 → ¬ dgb (sgn n q i) = true → ev X 194 179 [.ref 55, a1, .int (nI (646 + 51 * x)), .int (nI n), .int op, .int wh, .int (nI i), a7, .int (nI f), .int v] [] (RMH B Z (nI ns) (nI nw) st wj ww) = ev X 194 252 [.ref 55, a1, .int (nI (646 + 51 * x)), .int (nI n), .int op, .int wh, .int (nI i), a7, .int (nI f), .int v] [] (RMH B Z (nI ns) (nI nw) st wj ww) := fun i v hi2 c => by
    by_cases hi : i < n
    · have q128 := (t3 i hi).2
      have l := nI_lt hi (by omega)
      have p0 : nI (646 + 51 * x) + 1 = nI (646 + 51 * x + 1) := nI_add _ 1
      have p2 : nI (646 + 51 * x + 1) + nI i = nI (646 + 51 * x + 1 + i) := nI_add _ i
      have r1 : inR (nI (646 + 51 * x + 1 + i)) 16450 = true := inR_n (by omega) (by decide)
      have c1 : (nI (646 + 51 * x + 1 + i)).toNatClampNeg = 646 + 51 * x + 1 + i := nI_clamp (by omega)
      have e1 := (t3 i hi).1
      unfold sgn at c
      rw [if_pos hi] at c
      have di := fun h => m_in (X := X) (h := h) (v := nI (q i)) (a := 48) (b := 57)
      have dw := wi_dg q128
      rw [if_neg c] at dw
      rw [s194_179]
      simp only [s194_0, s194_3, s194_5, s194_6, s194_7, s194_8, s194_9, s194_10, s194_13, s194_14, s194_15, s194_16, s194_17, s194_18, s194_21, s194_22, s194_23, s194_26, s194_27, s194_29, s194_30, s194_32, s194_33, s194_35, s194_37, s194_38, s194_41, s194_42, s194_45, s194_46, s194_47, s194_48, s194_50, s194_51, s194_52, s194_54, s194_56, s194_58, s194_61, s194_64, s194_67, s194_69, s194_72, s194_74, s194_76, s194_79, s194_81, s194_84, s194_85, s194_86, s194_89, s194_90, s194_91, s194_94, s194_95, s194_96, s194_99, s194_102, s194_103, s194_104, s194_107, s194_110, s194_112, s194_115, s194_116, s194_119, s194_120, s194_122, s194_125, s194_128, s194_131, s194_132, s194_134, s194_137, s194_140, s194_141, s194_143, s194_146, s194_148, s194_150, s194_151, s194_152, s194_153, s194_154, s194_157, s194_160, s194_162, s194_164, s194_166, s194_169, s194_172, s194_174, s194_176, s194_177, s194_181, s194_182, s194_185, s194_186, s194_189, s194_190, s194_191, s194_192, s194_194, s194_195, s194_196, s194_198, s194_200, s194_203, s194_206, s194_208, s194_210, s194_211, s194_213, s194_216, s194_218, s194_220, s194_221, s194_222, s194_223, s194_224, s194_226, s194_228, s194_229, s194_230, s194_233, s194_234, s194_235, s194_236, s194_238, s194_239, s194_240, s194_241, s194_243, s194_244, s194_246, s194_249, s194_253, s194_254, s194_256, s194_259, s194_260, s194_261, s194_264, s194_265, s194_267, s194_270, s194_272, s194_275, s194_276, s194_279, s194_280, s194_281, s194_283, s194_286, s194_289, s194_290, s194_291, s194_294, s194_295, s194_297, s194_300, s194_303, s194_305, s194_307, s194_310, s194_312, s194_314, s194_317, s194_319, s194_321, s194_322, s194_323, s194_324, s194_325, s194_328, s194_329, s194_331, s194_334, s194_337, s194_340, s194_342, s194_344, s194_347, s194_348, s194_349, s194_352, s194_355, s194_358, s194_360, s194_362, s194_363, s194_364, s194_365, s194_366, s194_369, s194_370, s194_371, s194_374, s194_376, s194_379, s194_381, s194_384, s194_385, s194_388, s194_390, s194_391, s194_392, s194_393, s194_394, okF, okA, mcC_o, mcF_o, mcT_i, mcT_l, mcT_z, mcT_q, mcN_i, mcN_l, mcN_z, mcN_q, mcI_i, mcI_z, mcL_l, mcQ_q, hg_hp, hp_hp, List.getD_cons_zero, List.getD_cons_succ, List.set_cons_zero, List.set_cons_succ, List.length_cons, List.length_nil, Nat.reduceAdd, Nat.reduceLT, Nat.reduceEqDiff, Nat.lt_add_one, decide_true, decide_false, Bool.and_true, Bool.true_and, Bool.and_false, Bool.false_and, Bool.false_eq_true, if_true, if_false, ↓reduceIte, Option.bind_some, Option.bind_none, kont_v, kont_n, RM_55, RM_56, RM_72, RM_73, RM_74, RMp_55, RMp_72, RMp_73, RMp_74, MO_len, MO_0, MO_19, MO_20, MO_21, MO_22, MO_23, MOs_19, MOs_22, h56, l, p0, p2, r1, c1, e1, di, dw]
    · have l := nI_nlt (a := i) (b := n) (by omega) (by omega)
      rw [s194_179]
      simp only [s194_0, s194_3, s194_5, s194_6, s194_7, s194_8, s194_9, s194_10, s194_13, s194_14, s194_15, s194_16, s194_17, s194_18, s194_21, s194_22, s194_23, s194_26, s194_27, s194_29, s194_30, s194_32, s194_33, s194_35, s194_37, s194_38, s194_41, s194_42, s194_45, s194_46, s194_47, s194_48, s194_50, s194_51, s194_52, s194_54, s194_56, s194_58, s194_61, s194_64, s194_67, s194_69, s194_72, s194_74, s194_76, s194_79, s194_81, s194_84, s194_85, s194_86, s194_89, s194_90, s194_91, s194_94, s194_95, s194_96, s194_99, s194_102, s194_103, s194_104, s194_107, s194_110, s194_112, s194_115, s194_116, s194_119, s194_120, s194_122, s194_125, s194_128, s194_131, s194_132, s194_134, s194_137, s194_140, s194_141, s194_143, s194_146, s194_148, s194_150, s194_151, s194_152, s194_153, s194_154, s194_157, s194_160, s194_162, s194_164, s194_166, s194_169, s194_172, s194_174, s194_176, s194_177, s194_181, s194_182, s194_185, s194_186, s194_189, s194_190, s194_191, s194_192, s194_194, s194_195, s194_196, s194_198, s194_200, s194_203, s194_206, s194_208, s194_210, s194_211, s194_213, s194_216, s194_218, s194_220, s194_221, s194_222, s194_223, s194_224, s194_226, s194_228, s194_229, s194_230, s194_233, s194_234, s194_235, s194_236, s194_238, s194_239, s194_240, s194_241, s194_243, s194_244, s194_246, s194_249, s194_253, s194_254, s194_256, s194_259, s194_260, s194_261, s194_264, s194_265, s194_267, s194_270, s194_272, s194_275, s194_276, s194_279, s194_280, s194_281, s194_283, s194_286, s194_289, s194_290, s194_291, s194_294, s194_295, s194_297, s194_300, s194_303, s194_305, s194_307, s194_310, s194_312, s194_314, s194_317, s194_319, s194_321, s194_322, s194_323, s194_324, s194_325, s194_328, s194_329, s194_331, s194_334, s194_337, s194_340, s194_342, s194_344, s194_347, s194_348, s194_349, s194_352, s194_355, s194_358, s194_360, s194_362, s194_363, s194_364, s194_365, s194_366, s194_369, s194_370, s194_371, s194_374, s194_376, s194_379, s194_381, s194_384, s194_385, s194_388, s194_390, s194_391, s194_392, s194_393, s194_394, okF, okA, mcC_o, mcF_o, mcT_i, mcT_l, mcT_z, mcT_q, mcN_i, mcN_l, mcN_z, mcN_q, mcI_i, mcI_z, mcL_l, mcQ_q, hg_hp, hp_hp, List.getD_cons_zero, List.getD_cons_succ, List.set_cons_zero, List.set_cons_succ, List.length_cons, List.length_nil, Nat.reduceAdd, Nat.reduceLT, Nat.reduceEqDiff, Nat.lt_add_one, decide_true, decide_false, Bool.and_true, Bool.true_and, Bool.and_false, Bool.false_and, Bool.false_eq_true, if_true, if_false, ↓reduceIte, Option.bind_some, Option.bind_none, kont_v, kont_n, l]
  intro m
  induction m with
  | zero =>
    intro i v e hf
    show _ = if dgb (sgn n q i) = true then _ else ev X 194 252 [.ref 55, a1, .int (nI (646 + 51 * x)), .int (nI n), .int op, .int wh, .int (nI i), a7, .int (nI f), .int v] [] _
    by_cases c : dgb (sgn n q i) = true
    · rw [if_pos c]
      have hi : i < n := by
        by_cases hi : i < n
        · exact hi
        · unfold sgn at c; rw [if_neg hi] at c; exact absurd c (by decide)
      have q128 := (t3 i hi).2
      have l := nI_lt hi (by omega)
      have p0 : nI (646 + 51 * x) + 1 = nI (646 + 51 * x + 1) := nI_add _ 1
      have p2 : nI (646 + 51 * x + 1) + nI i = nI (646 + 51 * x + 1 + i) := nI_add _ i
      have r1 : inR (nI (646 + 51 * x + 1 + i)) 16450 = true := inR_n (by omega) (by decide)
      have c1 : (nI (646 + 51 * x + 1 + i)).toNatClampNeg = 646 + 51 * x + 1 + i := nI_clamp (by omega)
      have e1 := (t3 i hi).1
      unfold sgn at c
      rw [if_pos hi] at c
      have di := fun h => m_in (X := X) (h := h) (v := nI (q i)) (a := 48) (b := 57)
      have dw := wi_dg q128
      rw [if_pos c] at dw
      have one0 : ¬ (1 : Int32) = 0 := by decide
      have s6 : nI i - nI f = 6 := by rw [nI_sub (by omega), show i - f = 6 by omega]; rfl
      have e6 : ((6 : Int32) = 6) = True := eq_true rfl
      rw [s194_179]
      simp only [s194_0, s194_3, s194_5, s194_6, s194_7, s194_8, s194_9, s194_10, s194_13, s194_14, s194_15, s194_16, s194_17, s194_18, s194_21, s194_22, s194_23, s194_26, s194_27, s194_29, s194_30, s194_32, s194_33, s194_35, s194_37, s194_38, s194_41, s194_42, s194_45, s194_46, s194_47, s194_48, s194_50, s194_51, s194_52, s194_54, s194_56, s194_58, s194_61, s194_64, s194_67, s194_69, s194_72, s194_74, s194_76, s194_79, s194_81, s194_84, s194_85, s194_86, s194_89, s194_90, s194_91, s194_94, s194_95, s194_96, s194_99, s194_102, s194_103, s194_104, s194_107, s194_110, s194_112, s194_115, s194_116, s194_119, s194_120, s194_122, s194_125, s194_128, s194_131, s194_132, s194_134, s194_137, s194_140, s194_141, s194_143, s194_146, s194_148, s194_150, s194_151, s194_152, s194_153, s194_154, s194_157, s194_160, s194_162, s194_164, s194_166, s194_169, s194_172, s194_174, s194_176, s194_177, s194_181, s194_182, s194_185, s194_186, s194_189, s194_190, s194_191, s194_192, s194_194, s194_195, s194_196, s194_198, s194_200, s194_203, s194_206, s194_208, s194_210, s194_211, s194_213, s194_216, s194_218, s194_220, s194_221, s194_222, s194_223, s194_224, s194_226, s194_228, s194_229, s194_230, s194_233, s194_234, s194_235, s194_236, s194_238, s194_239, s194_240, s194_241, s194_243, s194_244, s194_246, s194_249, s194_253, s194_254, s194_256, s194_259, s194_260, s194_261, s194_264, s194_265, s194_267, s194_270, s194_272, s194_275, s194_276, s194_279, s194_280, s194_281, s194_283, s194_286, s194_289, s194_290, s194_291, s194_294, s194_295, s194_297, s194_300, s194_303, s194_305, s194_307, s194_310, s194_312, s194_314, s194_317, s194_319, s194_321, s194_322, s194_323, s194_324, s194_325, s194_328, s194_329, s194_331, s194_334, s194_337, s194_340, s194_342, s194_344, s194_347, s194_348, s194_349, s194_352, s194_355, s194_358, s194_360, s194_362, s194_363, s194_364, s194_365, s194_366, s194_369, s194_370, s194_371, s194_374, s194_376, s194_379, s194_381, s194_384, s194_385, s194_388, s194_390, s194_391, s194_392, s194_393, s194_394, okF, okA, mcC_o, mcF_o, mcT_i, mcT_l, mcT_z, mcT_q, mcN_i, mcN_l, mcN_z, mcN_q, mcI_i, mcI_z, mcL_l, mcQ_q, hg_hp, hp_hp, List.getD_cons_zero, List.getD_cons_succ, List.set_cons_zero, List.set_cons_succ, List.length_cons, List.length_nil, Nat.reduceAdd, Nat.reduceLT, Nat.reduceEqDiff, Nat.lt_add_one, decide_true, decide_false, Bool.and_true, Bool.true_and, Bool.and_false, Bool.false_and, Bool.false_eq_true, if_true, if_false, ↓reduceIte, Option.bind_some, Option.bind_none, kont_v, kont_n, RM_55, RM_56, RM_72, RM_73, RM_74, RMp_55, RMp_72, RMp_73, RMp_74, MO_len, MO_0, MO_19, MO_20, MO_21, MO_22, MO_23, MOs_19, MOs_22, h56, l, p0, p2, r1, c1, e1, di, dw, one0, s6, e6]
    · rw [if_neg c]
      exact stop i v (by omega) c
  | succ m ih =>
    intro i v e hf
    rw [dct, dvl]
    by_cases c : dgb (sgn n q i) = true
    · rw [if_pos c, if_pos c, show i + (dct n q m (i + 1) + 1) = i + 1 + dct n q m (i + 1) by omega, ← ih (i + 1) _ (by omega) (by omega)]
      have hi : i < n := by
        by_cases hi : i < n
        · exact hi
        · unfold sgn at c; rw [if_neg hi] at c; exact absurd c (by decide)
      have q128 := (t3 i hi).2
      have l := nI_lt hi (by omega)
      have p0 : nI (646 + 51 * x) + 1 = nI (646 + 51 * x + 1) := nI_add _ 1
      have p1 : nI i + 1 = nI (i + 1) := nI_add i 1
      have p2 : nI (646 + 51 * x + 1) + nI i = nI (646 + 51 * x + 1 + i) := nI_add _ i
      have r1 : inR (nI (646 + 51 * x + 1 + i)) 16450 = true := inR_n (by omega) (by decide)
      have c1 : (nI (646 + 51 * x + 1 + i)).toNatClampNeg = 646 + 51 * x + 1 + i := nI_clamp (by omega)
      have e1 := (t3 i hi).1
      have es : sgn n q i = q i := by unfold sgn; rw [if_pos hi]
      rw [es] at c
      have di := fun h => m_in (X := X) (h := h) (v := nI (q i)) (a := 48) (b := 57)
      have dw := wi_dg q128
      rw [if_pos c] at dw
      have one0 : ¬ (1 : Int32) = 0 := by decide
      have s6 : nI i - nI f = nI (i - f) := nI_sub hf
      have e6 : (nI (i - f) = (6 : Int32)) = False := eq_false (fun z => by have := (nI_eq (b := 6) (by omega) (by omega)).mp z; omega)
      rw [es]
      conv => lhs; rw [s194_179]
      simp only [s194_0, s194_3, s194_5, s194_6, s194_7, s194_8, s194_9, s194_10, s194_13, s194_14, s194_15, s194_16, s194_17, s194_18, s194_21, s194_22, s194_23, s194_26, s194_27, s194_29, s194_30, s194_32, s194_33, s194_35, s194_37, s194_38, s194_41, s194_42, s194_45, s194_46, s194_47, s194_48, s194_50, s194_51, s194_52, s194_54, s194_56, s194_58, s194_61, s194_64, s194_67, s194_69, s194_72, s194_74, s194_76, s194_79, s194_81, s194_84, s194_85, s194_86, s194_89, s194_90, s194_91, s194_94, s194_95, s194_96, s194_99, s194_102, s194_103, s194_104, s194_107, s194_110, s194_112, s194_115, s194_116, s194_119, s194_120, s194_122, s194_125, s194_128, s194_131, s194_132, s194_134, s194_137, s194_140, s194_141, s194_143, s194_146, s194_148, s194_150, s194_151, s194_152, s194_153, s194_154, s194_157, s194_160, s194_162, s194_164, s194_166, s194_169, s194_172, s194_174, s194_176, s194_177, s194_181, s194_182, s194_185, s194_186, s194_189, s194_190, s194_191, s194_192, s194_194, s194_195, s194_196, s194_198, s194_200, s194_203, s194_206, s194_208, s194_210, s194_211, s194_213, s194_216, s194_218, s194_220, s194_221, s194_222, s194_223, s194_224, s194_226, s194_228, s194_229, s194_230, s194_233, s194_234, s194_235, s194_236, s194_238, s194_239, s194_240, s194_241, s194_243, s194_244, s194_246, s194_249, s194_253, s194_254, s194_256, s194_259, s194_260, s194_261, s194_264, s194_265, s194_267, s194_270, s194_272, s194_275, s194_276, s194_279, s194_280, s194_281, s194_283, s194_286, s194_289, s194_290, s194_291, s194_294, s194_295, s194_297, s194_300, s194_303, s194_305, s194_307, s194_310, s194_312, s194_314, s194_317, s194_319, s194_321, s194_322, s194_323, s194_324, s194_325, s194_328, s194_329, s194_331, s194_334, s194_337, s194_340, s194_342, s194_344, s194_347, s194_348, s194_349, s194_352, s194_355, s194_358, s194_360, s194_362, s194_363, s194_364, s194_365, s194_366, s194_369, s194_370, s194_371, s194_374, s194_376, s194_379, s194_381, s194_384, s194_385, s194_388, s194_390, s194_391, s194_392, s194_393, s194_394, okF, okA, mcC_o, mcF_o, mcT_i, mcT_l, mcT_z, mcT_q, mcN_i, mcN_l, mcN_z, mcN_q, mcI_i, mcI_z, mcL_l, mcQ_q, hg_hp, hp_hp, List.getD_cons_zero, List.getD_cons_succ, List.set_cons_zero, List.set_cons_succ, List.length_cons, List.length_nil, Nat.reduceAdd, Nat.reduceLT, Nat.reduceEqDiff, Nat.lt_add_one, decide_true, decide_false, Bool.and_true, Bool.true_and, Bool.and_false, Bool.false_and, Bool.false_eq_true, if_true, if_false, ↓reduceIte, Option.bind_some, Option.bind_none, kont_v, kont_n, RM_55, RM_56, RM_72, RM_73, RM_74, RMp_55, RMp_72, RMp_73, RMp_74, MO_len, MO_0, MO_19, MO_20, MO_21, MO_22, MO_23, MOs_19, MOs_22, h56, l, p0, p1, p2, r1, c1, e1, di, dw, one0, s6, e6]
    · rw [if_neg c, if_neg c, Nat.add_zero, if_neg c]
      exact stop i v (by omega) c
theorem rd_dig (h56 : hg B 56 = iA 16450 S) (T : TXT S x n q) (hi : i < n) (cd : dgb (q i) = true) (hs : ns < 60) {op : Int32} {H3 : MH} (s3 : (ev X 195 0 [.ref 55, .int 3] [] (RMH B Z (nI (ns + 1)) (nI nw) (upd st ns 0) (upd wj ns (dvl n q 6 i 0)) ww)) = some (none, (H3))) : ev X 194 35 [.ref 55, a1, .int (nI (646 + 51 * x)), .int (nI n), .int (op), .int 0, .int (nI i), a7, a8, a9] [] (RMH B Z (nI ns) (nI nw) st wj ww) = if dgb (sgn n q (i + dct n q 6 i)) = true then some (some (.int (10 * nI i + 2)), (RMH B Z (nI ns) (nI nw) st wj ww)) else ev X 194 35 [.ref 55, a1, .int (nI (646 + 51 * x)), .int (nI n), .int (op), .int 1, .int (nI (i + dct n q 6 i)), .int (nI (q i)), .int (nI i), .int (dvl n q 6 i 0)] [] H3 := by
  have T' := T
  obtain ⟨t1, t2, t3⟩ := T
  have q128 := (t3 i hi).2
  have l := nI_lt hi (by omega)
  have p0 : nI (646 + 51 * x) + 1 = nI (646 + 51 * x + 1) := nI_add _ 1
  have p2 : nI (646 + 51 * x + 1) + nI i = nI (646 + 51 * x + 1 + i) := nI_add _ i
  have r1 : inR (nI (646 + 51 * x + 1 + i)) 16450 = true := inR_n (by omega) (by decide)
  have c1 : (nI (646 + 51 * x + 1 + i)).toNatClampNeg = 646 + 51 * x + 1 + i := nI_clamp (by omega)
  have e1 := (t3 i hi).1
  have p1 : nI i + 1 = nI (i + 1) := nI_add i 1
  have one0 : ¬ (1 : Int32) = 0 := by decide
  have ne : ∀ k : Nat, k < 128 → ((nI (q i) = nI k) = (q i = k)) := fun k hk => propext (nI_eq (by omega) (by omega))
  have n32 : (nI (q i) = (32 : Int32)) = (q i = 32) := ne 32 (by omega)
  have n41 : (nI (q i) = (41 : Int32)) = (q i = 41) := ne 41 (by omega)
  have n40 : (nI (q i) = (40 : Int32)) = (q i = 40) := ne 40 (by omega)
  have n45 : (nI (q i) = (45 : Int32)) = (q i = 45) := ne 45 (by omega)
  have c : ¬ q i = 32 := fun z => by rw [z] at cd; exact absurd cd (by decide)
  have e32 := eq_false c
  have di := fun h => m_in (X := X) (h := h) (v := nI (q i)) (a := 48) (b := 57)
  have dw := wi_dg q128
  rw [if_pos cd] at dw
  have em := m_emits (X := X) (B := B) (Z := Z) (st := st) (wj := wj) (ww := ww) (ns := ns) hs (a := 0) (b := dvl n q 6 i 0) (wa := nI nw)
  have dl := rd_dl (X := X) (B := B) (Z := Z) (st := st) (wj := wj) (ww := ww) (ns := ns) (nw := nw) (a1 := a1) (a7 := .int (nI (q i))) (f := i) h56 (by omega) T' (op := op) (wh := 0) 6 i 0 rfl (Nat.le_refl i)
  rw [s194_35]
  by_cases k : dgb (sgn n q (i + dct n q 6 i)) = true
  · rw [if_pos k] at dl ⊢
    simp only [s194_0, s194_3, s194_5, s194_6, s194_7, s194_8, s194_9, s194_10, s194_13, s194_14, s194_15, s194_16, s194_17, s194_18, s194_21, s194_22, s194_23, s194_26, s194_27, s194_29, s194_30, s194_32, s194_33, s194_37, s194_38, s194_41, s194_42, s194_45, s194_46, s194_47, s194_48, s194_50, s194_51, s194_52, s194_54, s194_56, s194_58, s194_61, s194_64, s194_67, s194_69, s194_72, s194_74, s194_76, s194_79, s194_81, s194_84, s194_85, s194_86, s194_89, s194_90, s194_91, s194_94, s194_95, s194_96, s194_99, s194_102, s194_103, s194_104, s194_107, s194_110, s194_112, s194_115, s194_116, s194_119, s194_120, s194_122, s194_125, s194_128, s194_131, s194_132, s194_134, s194_137, s194_140, s194_141, s194_143, s194_146, s194_148, s194_150, s194_151, s194_152, s194_153, s194_154, s194_157, s194_160, s194_162, s194_164, s194_166, s194_169, s194_172, s194_174, s194_176, s194_177, s194_181, s194_182, s194_185, s194_186, s194_189, s194_190, s194_191, s194_192, s194_194, s194_195, s194_196, s194_198, s194_200, s194_203, s194_206, s194_208, s194_210, s194_211, s194_213, s194_216, s194_218, s194_220, s194_221, s194_222, s194_223, s194_224, s194_226, s194_228, s194_229, s194_230, s194_233, s194_234, s194_235, s194_236, s194_238, s194_239, s194_240, s194_241, s194_243, s194_244, s194_246, s194_249, s194_253, s194_254, s194_256, s194_259, s194_260, s194_261, s194_264, s194_265, s194_267, s194_270, s194_272, s194_275, s194_276, s194_279, s194_280, s194_281, s194_283, s194_286, s194_289, s194_290, s194_291, s194_294, s194_295, s194_297, s194_300, s194_303, s194_305, s194_307, s194_310, s194_312, s194_314, s194_317, s194_319, s194_321, s194_322, s194_323, s194_324, s194_325, s194_328, s194_329, s194_331, s194_334, s194_337, s194_340, s194_342, s194_344, s194_347, s194_348, s194_349, s194_352, s194_355, s194_358, s194_360, s194_362, s194_363, s194_364, s194_365, s194_366, s194_369, s194_370, s194_371, s194_374, s194_376, s194_379, s194_381, s194_384, s194_385, s194_388, s194_390, s194_391, s194_392, s194_393, s194_394, okF, okA, mcC_o, mcF_o, mcT_i, mcT_l, mcT_z, mcT_q, mcN_i, mcN_l, mcN_z, mcN_q, mcI_i, mcI_z, mcL_l, mcQ_q, hg_hp, hp_hp, List.getD_cons_zero, List.getD_cons_succ, List.set_cons_zero, List.set_cons_succ, List.length_cons, List.length_nil, Nat.reduceAdd, Nat.reduceLT, Nat.reduceEqDiff, Nat.lt_add_one, decide_true, decide_false, Bool.and_true, Bool.true_and, Bool.and_false, Bool.false_and, Bool.false_eq_true, if_true, if_false, ↓reduceIte, Option.bind_some, Option.bind_none, kont_v, kont_n, RM_55, RM_56, RM_72, RM_73, RM_74, RMp_55, RMp_72, RMp_73, RMp_74, MO_len, MO_0, MO_19, MO_20, MO_21, MO_22, MO_23, MOs_19, MOs_22, h56, l, p0, p2, r1, c1, e1, p1, n32, e32, di, dw, one0, dl]
  · rw [if_neg k] at dl ⊢
    simp only [s194_0, s194_3, s194_5, s194_6, s194_7, s194_8, s194_9, s194_10, s194_13, s194_14, s194_15, s194_16, s194_17, s194_18, s194_21, s194_22, s194_23, s194_26, s194_27, s194_29, s194_30, s194_32, s194_33, s194_37, s194_38, s194_41, s194_42, s194_45, s194_46, s194_47, s194_48, s194_50, s194_51, s194_52, s194_54, s194_56, s194_58, s194_61, s194_64, s194_67, s194_69, s194_72, s194_74, s194_76, s194_79, s194_81, s194_84, s194_85, s194_86, s194_89, s194_90, s194_91, s194_94, s194_95, s194_96, s194_99, s194_102, s194_103, s194_104, s194_107, s194_110, s194_112, s194_115, s194_116, s194_119, s194_120, s194_122, s194_125, s194_128, s194_131, s194_132, s194_134, s194_137, s194_140, s194_141, s194_143, s194_146, s194_148, s194_150, s194_151, s194_152, s194_153, s194_154, s194_157, s194_160, s194_162, s194_164, s194_166, s194_169, s194_172, s194_174, s194_176, s194_177, s194_181, s194_182, s194_185, s194_186, s194_189, s194_190, s194_191, s194_192, s194_194, s194_195, s194_196, s194_198, s194_200, s194_203, s194_206, s194_208, s194_210, s194_211, s194_213, s194_216, s194_218, s194_220, s194_221, s194_222, s194_223, s194_224, s194_226, s194_228, s194_229, s194_230, s194_233, s194_234, s194_235, s194_236, s194_238, s194_239, s194_240, s194_241, s194_243, s194_244, s194_246, s194_249, s194_252, s194_253, s194_254, s194_256, s194_259, s194_260, s194_261, s194_264, s194_265, s194_267, s194_270, s194_272, s194_275, s194_276, s194_279, s194_280, s194_281, s194_283, s194_286, s194_289, s194_290, s194_291, s194_294, s194_295, s194_297, s194_300, s194_303, s194_305, s194_307, s194_310, s194_312, s194_314, s194_317, s194_319, s194_321, s194_322, s194_323, s194_324, s194_325, s194_328, s194_329, s194_331, s194_334, s194_337, s194_340, s194_342, s194_344, s194_347, s194_348, s194_349, s194_352, s194_355, s194_358, s194_360, s194_362, s194_363, s194_364, s194_365, s194_366, s194_369, s194_370, s194_371, s194_374, s194_376, s194_379, s194_381, s194_384, s194_385, s194_388, s194_390, s194_391, s194_392, s194_393, s194_394, okF, okA, mcC_o, mcF_o, mcT_i, mcT_l, mcT_z, mcT_q, mcN_i, mcN_l, mcN_z, mcN_q, mcI_i, mcI_z, mcL_l, mcQ_q, hg_hp, hp_hp, List.getD_cons_zero, List.getD_cons_succ, List.set_cons_zero, List.set_cons_succ, List.length_cons, List.length_nil, Nat.reduceAdd, Nat.reduceLT, Nat.reduceEqDiff, Nat.lt_add_one, decide_true, decide_false, Bool.and_true, Bool.true_and, Bool.and_false, Bool.false_and, Bool.false_eq_true, if_true, if_false, ↓reduceIte, Option.bind_some, Option.bind_none, kont_v, kont_n, RM_55, RM_56, RM_72, RM_73, RM_74, RMp_55, RMp_72, RMp_73, RMp_74, MO_len, MO_0, MO_19, MO_20, MO_21, MO_22, MO_23, MOs_19, MOs_22, h56, l, p0, p2, r1, c1, e1, p1, n32, e32, di, dw, one0, dl, em, s3]
theorem rd_end (hn : n ≤ 50) {d : Nat} {wh : Int32} (hd : d < 50) (hw : wh = 0 ∨ wh = 1) {H1 : MH} (s1 : (ev X 195 0 [.ref 55, .int 1] [] (RMH B Z (nI ns) (nI nw) st wj ww)) = some (none, (H1))) : ev X 194 35 [.ref 55, a1, .int (nI (646 + 51 * x)), .int (nI n), .int (nI d), .int wh, .int (nI n), a7, a8, a9] [] (RMH B Z (nI ns) (nI nw) st wj ww) = some (some (.int (if wh = 1 ∧ d = 0 then -1 else 10 * nI n + 1)), (H1)) := by
  have l := nI_nlt (Nat.le_refl n) (by omega)
  have one0 : ¬ (1 : Int32) = 0 := by decide
  have zz : ¬ (0 : Int32) = 1 := by decide
  rcases hw with rfl | rfl
  · rw [if_neg (fun z => zz z.1), s194_35]
    simp only [s194_0, s194_3, s194_5, s194_6, s194_7, s194_8, s194_9, s194_10, s194_13, s194_14, s194_15, s194_16, s194_17, s194_18, s194_21, s194_22, s194_23, s194_26, s194_27, s194_29, s194_30, s194_32, s194_33, s194_37, s194_38, s194_41, s194_42, s194_45, s194_46, s194_47, s194_48, s194_50, s194_51, s194_52, s194_54, s194_56, s194_58, s194_61, s194_64, s194_67, s194_69, s194_72, s194_74, s194_76, s194_79, s194_81, s194_84, s194_85, s194_86, s194_89, s194_90, s194_91, s194_94, s194_95, s194_96, s194_99, s194_102, s194_103, s194_104, s194_107, s194_110, s194_112, s194_115, s194_116, s194_119, s194_120, s194_122, s194_125, s194_128, s194_131, s194_132, s194_134, s194_137, s194_140, s194_141, s194_143, s194_146, s194_148, s194_150, s194_151, s194_152, s194_153, s194_154, s194_157, s194_160, s194_162, s194_164, s194_166, s194_169, s194_172, s194_174, s194_176, s194_177, s194_181, s194_182, s194_185, s194_186, s194_189, s194_190, s194_191, s194_192, s194_194, s194_195, s194_196, s194_198, s194_200, s194_203, s194_206, s194_208, s194_210, s194_211, s194_213, s194_216, s194_218, s194_220, s194_221, s194_222, s194_223, s194_224, s194_226, s194_228, s194_229, s194_230, s194_233, s194_234, s194_235, s194_236, s194_238, s194_239, s194_240, s194_241, s194_243, s194_244, s194_246, s194_249, s194_252, s194_253, s194_254, s194_256, s194_259, s194_260, s194_261, s194_264, s194_265, s194_267, s194_270, s194_272, s194_275, s194_276, s194_279, s194_280, s194_281, s194_283, s194_286, s194_289, s194_290, s194_291, s194_294, s194_295, s194_297, s194_300, s194_303, s194_305, s194_307, s194_310, s194_312, s194_314, s194_317, s194_319, s194_321, s194_322, s194_323, s194_324, s194_325, s194_328, s194_329, s194_331, s194_334, s194_337, s194_340, s194_342, s194_344, s194_347, s194_348, s194_349, s194_352, s194_355, s194_358, s194_360, s194_362, s194_363, s194_364, s194_365, s194_366, s194_369, s194_370, s194_371, s194_374, s194_376, s194_379, s194_381, s194_384, s194_385, s194_388, s194_390, s194_391, s194_392, s194_393, s194_394, okF, okA, mcC_o, mcF_o, mcT_i, mcT_l, mcT_z, mcT_q, mcN_i, mcN_l, mcN_z, mcN_q, mcI_i, mcI_z, mcL_l, mcQ_q, hg_hp, hp_hp, List.getD_cons_zero, List.getD_cons_succ, List.set_cons_zero, List.set_cons_succ, List.length_cons, List.length_nil, Nat.reduceAdd, Nat.reduceLT, Nat.reduceEqDiff, Nat.lt_add_one, decide_true, decide_false, Bool.and_true, Bool.true_and, Bool.and_false, Bool.false_and, Bool.false_eq_true, if_true, if_false, ↓reduceIte, Option.bind_some, Option.bind_none, kont_v, kont_n, RM_55, l, s1, one0]
  · by_cases d0 : d = 0
    · have e : (nI d = (0 : Int32)) = True := eq_true (by rw [d0]; rfl)
      rw [if_pos ⟨rfl, d0⟩, s194_35]
      simp only [s194_0, s194_3, s194_5, s194_6, s194_7, s194_8, s194_9, s194_10, s194_13, s194_14, s194_15, s194_16, s194_17, s194_18, s194_21, s194_22, s194_23, s194_26, s194_27, s194_29, s194_30, s194_32, s194_33, s194_37, s194_38, s194_41, s194_42, s194_45, s194_46, s194_47, s194_48, s194_50, s194_51, s194_52, s194_54, s194_56, s194_58, s194_61, s194_64, s194_67, s194_69, s194_72, s194_74, s194_76, s194_79, s194_81, s194_84, s194_85, s194_86, s194_89, s194_90, s194_91, s194_94, s194_95, s194_96, s194_99, s194_102, s194_103, s194_104, s194_107, s194_110, s194_112, s194_115, s194_116, s194_119, s194_120, s194_122, s194_125, s194_128, s194_131, s194_132, s194_134, s194_137, s194_140, s194_141, s194_143, s194_146, s194_148, s194_150, s194_151, s194_152, s194_153, s194_154, s194_157, s194_160, s194_162, s194_164, s194_166, s194_169, s194_172, s194_174, s194_176, s194_177, s194_181, s194_182, s194_185, s194_186, s194_189, s194_190, s194_191, s194_192, s194_194, s194_195, s194_196, s194_198, s194_200, s194_203, s194_206, s194_208, s194_210, s194_211, s194_213, s194_216, s194_218, s194_220, s194_221, s194_222, s194_223, s194_224, s194_226, s194_228, s194_229, s194_230, s194_233, s194_234, s194_235, s194_236, s194_238, s194_239, s194_240, s194_241, s194_243, s194_244, s194_246, s194_249, s194_252, s194_253, s194_254, s194_256, s194_259, s194_260, s194_261, s194_264, s194_265, s194_267, s194_270, s194_272, s194_275, s194_276, s194_279, s194_280, s194_281, s194_283, s194_286, s194_289, s194_290, s194_291, s194_294, s194_295, s194_297, s194_300, s194_303, s194_305, s194_307, s194_310, s194_312, s194_314, s194_317, s194_319, s194_321, s194_322, s194_323, s194_324, s194_325, s194_328, s194_329, s194_331, s194_334, s194_337, s194_340, s194_342, s194_344, s194_347, s194_348, s194_349, s194_352, s194_355, s194_358, s194_360, s194_362, s194_363, s194_364, s194_365, s194_366, s194_369, s194_370, s194_371, s194_374, s194_376, s194_379, s194_381, s194_384, s194_385, s194_388, s194_390, s194_391, s194_392, s194_393, s194_394, okF, okA, mcC_o, mcF_o, mcT_i, mcT_l, mcT_z, mcT_q, mcN_i, mcN_l, mcN_z, mcN_q, mcI_i, mcI_z, mcL_l, mcQ_q, hg_hp, hp_hp, List.getD_cons_zero, List.getD_cons_succ, List.set_cons_zero, List.set_cons_succ, List.length_cons, List.length_nil, Nat.reduceAdd, Nat.reduceLT, Nat.reduceEqDiff, Nat.lt_add_one, decide_true, decide_false, Bool.and_true, Bool.true_and, Bool.and_false, Bool.false_and, Bool.false_eq_true, if_true, if_false, ↓reduceIte, Option.bind_some, Option.bind_none, kont_v, kont_n, RM_55, l, s1, one0, e]
    · have e : (nI d = (0 : Int32)) = False := eq_false (fun z => d0 ((nI_eq (b := 0) (by omega) (by omega)).mp z))
      rw [if_neg (fun z => d0 z.2), s194_35]
      simp only [s194_0, s194_3, s194_5, s194_6, s194_7, s194_8, s194_9, s194_10, s194_13, s194_14, s194_15, s194_16, s194_17, s194_18, s194_21, s194_22, s194_23, s194_26, s194_27, s194_29, s194_30, s194_32, s194_33, s194_37, s194_38, s194_41, s194_42, s194_45, s194_46, s194_47, s194_48, s194_50, s194_51, s194_52, s194_54, s194_56, s194_58, s194_61, s194_64, s194_67, s194_69, s194_72, s194_74, s194_76, s194_79, s194_81, s194_84, s194_85, s194_86, s194_89, s194_90, s194_91, s194_94, s194_95, s194_96, s194_99, s194_102, s194_103, s194_104, s194_107, s194_110, s194_112, s194_115, s194_116, s194_119, s194_120, s194_122, s194_125, s194_128, s194_131, s194_132, s194_134, s194_137, s194_140, s194_141, s194_143, s194_146, s194_148, s194_150, s194_151, s194_152, s194_153, s194_154, s194_157, s194_160, s194_162, s194_164, s194_166, s194_169, s194_172, s194_174, s194_176, s194_177, s194_181, s194_182, s194_185, s194_186, s194_189, s194_190, s194_191, s194_192, s194_194, s194_195, s194_196, s194_198, s194_200, s194_203, s194_206, s194_208, s194_210, s194_211, s194_213, s194_216, s194_218, s194_220, s194_221, s194_222, s194_223, s194_224, s194_226, s194_228, s194_229, s194_230, s194_233, s194_234, s194_235, s194_236, s194_238, s194_239, s194_240, s194_241, s194_243, s194_244, s194_246, s194_249, s194_252, s194_253, s194_254, s194_256, s194_259, s194_260, s194_261, s194_264, s194_265, s194_267, s194_270, s194_272, s194_275, s194_276, s194_279, s194_280, s194_281, s194_283, s194_286, s194_289, s194_290, s194_291, s194_294, s194_295, s194_297, s194_300, s194_303, s194_305, s194_307, s194_310, s194_312, s194_314, s194_317, s194_319, s194_321, s194_322, s194_323, s194_324, s194_325, s194_328, s194_329, s194_331, s194_334, s194_337, s194_340, s194_342, s194_344, s194_347, s194_348, s194_349, s194_352, s194_355, s194_358, s194_360, s194_362, s194_363, s194_364, s194_365, s194_366, s194_369, s194_370, s194_371, s194_374, s194_376, s194_379, s194_381, s194_384, s194_385, s194_388, s194_390, s194_391, s194_392, s194_393, s194_394, okF, okA, mcC_o, mcF_o, mcT_i, mcT_l, mcT_z, mcT_q, mcN_i, mcN_l, mcN_z, mcN_q, mcI_i, mcI_z, mcL_l, mcQ_q, hg_hp, hp_hp, List.getD_cons_zero, List.getD_cons_succ, List.set_cons_zero, List.set_cons_succ, List.length_cons, List.length_nil, Nat.reduceAdd, Nat.reduceLT, Nat.reduceEqDiff, Nat.lt_add_one, decide_true, decide_false, Bool.and_true, Bool.true_and, Bool.and_false, Bool.false_and, Bool.false_eq_true, if_true, if_false, ↓reduceIte, Option.bind_some, Option.bind_none, kont_v, kont_n, RM_55, l, s1, one0, e]
end RRD

-- FORMULA: what the class's levels do
/-- a level row: sums, products; subtracts, negates, joints -/
abbrev LVS : Type := (Nat → Int64) × (Nat → Int64) × (Nat → Int32) × (Nat → Int32) × (Nat → Int32)
def FMH (B : MH) (len dp ft wt : Int32) (vl : Int64) (sg lt : Nat → Int32) (x : LVS) : MH := hp (hp (hp (hp (hp (hp (hp (hp B 23 (oB 2 (FOO len dp ft wt vl))) 24 (iA 50 sg)) 25 (iA 7 lt)) 26 (lA 9 x.1)) 27 (lA 9 x.2.1)) 28 (zA 9 x.2.2.1)) 29 (zA 9 x.2.2.2.1)) 30 (iA 9 x.2.2.2.2)
section FMS
variable {B : MH} {len dp ft wt a b c d : Int32} {vl v : Int64} {sg lt f : Nat → Int32} {s p r : Nat → Int64} {u g j : Nat → Int32}
theorem FM_23 {x : LVS} : hg (FMH B len dp ft wt vl sg lt x) 23 = oB 2 (FOO len dp ft wt vl) := Eq.trans rfl rfl
theorem FM_24 {x : LVS} : hg (FMH B len dp ft wt vl sg lt x) 24 = iA 50 sg := Eq.trans rfl rfl
theorem FM_25 {x : LVS} : hg (FMH B len dp ft wt vl sg lt x) 25 = iA 7 lt := Eq.trans rfl rfl
theorem FM_26 : hg (FMH B len dp ft wt vl sg lt (s, p, u, g, j)) 26 = lA 9 s := Eq.trans rfl rfl
theorem FM_27 : hg (FMH B len dp ft wt vl sg lt (s, p, u, g, j)) 27 = lA 9 p := Eq.trans rfl rfl
theorem FM_28 : hg (FMH B len dp ft wt vl sg lt (s, p, u, g, j)) 28 = zA 9 u := Eq.trans rfl rfl
theorem FM_29 : hg (FMH B len dp ft wt vl sg lt (s, p, u, g, j)) 29 = zA 9 g := Eq.trans rfl rfl
theorem FM_30 : hg (FMH B len dp ft wt vl sg lt (s, p, u, g, j)) 30 = iA 9 j := Eq.trans rfl rfl
theorem FM_o {x : LVS} {k : Nat} (hk : k < 23 ∨ 30 < k) : hg (FMH B len dp ft wt vl sg lt x) k = hg B k := by
  unfold FMH
  rw [hg_hp, if_neg (by omega), hg_hp, if_neg (by omega), hg_hp, if_neg (by omega), hg_hp, if_neg (by omega), hg_hp, if_neg (by omega), hg_hp, if_neg (by omega), hg_hp, if_neg (by omega), hg_hp, if_neg (by omega)]
theorem FMp_23 {x : LVS} : hp (FMH B len dp ft wt vl sg lt x) 23 (oB 2 (FOO a b c d v)) = FMH B a b c d v sg lt x := by
  unfold FMH
  rw [hp_sw (by decide : (30 : Nat) ≠ 23), hp_sw (by decide : (29 : Nat) ≠ 23), hp_sw (by decide : (28 : Nat) ≠ 23), hp_sw (by decide : (27 : Nat) ≠ 23), hp_sw (by decide : (26 : Nat) ≠ 23), hp_sw (by decide : (25 : Nat) ≠ 23), hp_sw (by decide : (24 : Nat) ≠ 23), hp_hp]
theorem FMp_24 {x : LVS} : hp (FMH B len dp ft wt vl sg lt x) 24 (iA 50 f) = FMH B len dp ft wt vl f lt x := by
  unfold FMH
  rw [hp_sw (by decide : (30 : Nat) ≠ 24), hp_sw (by decide : (29 : Nat) ≠ 24), hp_sw (by decide : (28 : Nat) ≠ 24), hp_sw (by decide : (27 : Nat) ≠ 24), hp_sw (by decide : (26 : Nat) ≠ 24), hp_sw (by decide : (25 : Nat) ≠ 24), hp_hp]
theorem FMp_25 {x : LVS} : hp (FMH B len dp ft wt vl sg lt x) 25 (iA 7 f) = FMH B len dp ft wt vl sg f x := by
  unfold FMH
  rw [hp_sw (by decide : (30 : Nat) ≠ 25), hp_sw (by decide : (29 : Nat) ≠ 25), hp_sw (by decide : (28 : Nat) ≠ 25), hp_sw (by decide : (27 : Nat) ≠ 25), hp_sw (by decide : (26 : Nat) ≠ 25), hp_hp]
theorem FMp_26 : hp (FMH B len dp ft wt vl sg lt (s, p, u, g, j)) 26 (lA 9 r) = FMH B len dp ft wt vl sg lt (r, p, u, g, j) := by
  unfold FMH
  rw [hp_sw (by decide : (30 : Nat) ≠ 26), hp_sw (by decide : (29 : Nat) ≠ 26), hp_sw (by decide : (28 : Nat) ≠ 26), hp_sw (by decide : (27 : Nat) ≠ 26), hp_hp]
theorem FMp_27 : hp (FMH B len dp ft wt vl sg lt (s, p, u, g, j)) 27 (lA 9 r) = FMH B len dp ft wt vl sg lt (s, r, u, g, j) := by
  unfold FMH
  rw [hp_sw (by decide : (30 : Nat) ≠ 27), hp_sw (by decide : (29 : Nat) ≠ 27), hp_sw (by decide : (28 : Nat) ≠ 27), hp_hp]
theorem FMp_28 : hp (FMH B len dp ft wt vl sg lt (s, p, u, g, j)) 28 (zA 9 f) = FMH B len dp ft wt vl sg lt (s, p, f, g, j) := by
  unfold FMH
  rw [hp_sw (by decide : (30 : Nat) ≠ 28), hp_sw (by decide : (29 : Nat) ≠ 28), hp_hp]
theorem FMp_29 : hp (FMH B len dp ft wt vl sg lt (s, p, u, g, j)) 29 (zA 9 f) = FMH B len dp ft wt vl sg lt (s, p, u, f, j) := by
  unfold FMH
  rw [hp_sw (by decide : (30 : Nat) ≠ 29), hp_hp]
theorem FMp_30 : hp (FMH B len dp ft wt vl sg lt (s, p, u, g, j)) 30 (iA 9 f) = FMH B len dp ft wt vl sg lt (s, p, u, g, f) := by
  unfold FMH
  rw [hp_hp]
theorem FM_lg {D : LD} {x : LVS} (L : LG B 1 D) : LG (FMH B len dp ft wt vl sg lt x) 1 D := L.same (fun k h1 h2 => FM_o (by omega))
theorem FM_id {h : MH} (h23 : hg h 23 = oB 2 (FOO len dp ft wt vl)) (h24 : hg h 24 = iA 50 sg) (h25 : hg h 25 = iA 7 lt) (h26 : hg h 26 = lA 9 s) (h27 : hg h 27 = lA 9 p) (h28 : hg h 28 = zA 9 u) (h29 : hg h 29 = zA 9 g) (h30 : hg h 30 = iA 9 j) : FMH h len dp ft wt vl sg lt (s, p, u, g, j) = h := by
  unfold FMH
  rw [hp_self h23, hp_self h24, hp_self h25, hp_self h26, hp_self h27, hp_self h28, hp_self h29, hp_self h30]
end FMS
section FOS
variable {a b e w x : Int32} {v y : Int64}
theorem FOO_len : (FOO a b e w v).length = 13 := rfl
theorem FOO_0 : (FOO a b e w v).getD 0 .null = .ref 10 := rfl
theorem FOO_1 : (FOO a b e w v).getD 1 .null = .ref 24 := rfl
theorem FOO_2 : (FOO a b e w v).getD 2 .null = .ref 25 := rfl
theorem FOO_3 : (FOO a b e w v).getD 3 .null = .ref 26 := rfl
theorem FOO_4 : (FOO a b e w v).getD 4 .null = .ref 27 := rfl
theorem FOO_5 : (FOO a b e w v).getD 5 .null = .ref 28 := rfl
theorem FOO_6 : (FOO a b e w v).getD 6 .null = .ref 29 := rfl
theorem FOO_7 : (FOO a b e w v).getD 7 .null = .ref 30 := rfl
theorem FOO_8 : (FOO a b e w v).getD 8 .null = .int a := rfl
theorem FOO_9 : (FOO a b e w v).getD 9 .null = .int b := rfl
theorem FOO_10 : (FOO a b e w v).getD 10 .null = .int e := rfl
theorem FOO_11 : (FOO a b e w v).getD 11 .null = .int w := rfl
theorem FOO_12 : (FOO a b e w v).getD 12 .null = .long v := rfl
theorem FOOs_8 : (FOO a b e w v).set 8 (.int x) = FOO x b e w v := rfl
theorem FOOs_9 : (FOO a b e w v).set 9 (.int x) = FOO a x e w v := rfl
theorem FOOs_10 : (FOO a b e w v).set 10 (.int x) = FOO a b x w v := rfl
theorem FOOs_11 : (FOO a b e w v).set 11 (.int x) = FOO a b e x v := rfl
theorem FOOs_12 : (FOO a b e w v).set 12 (.long y) = FOO a b e w y := rfl
end FOS
/-- a unit is closed, a term is closed, a level is opened -/
def uOf (x : LVS) (d : Nat) (v : Int64) : Int64 := if x.2.2.2.1 d = 0 then v else -v
def jnd (j : Int32) (p u : Int64) : Int64 := if j = 42 then p * u else if j = 47 then (if u = 0 then 0 else p / u) else u
def cuU (x : LVS) (d : Nat) (v : Int64) : LVS := (x.1, vp_updL x.2.1 d (jnd (x.2.2.2.2 d) (x.2.1 d) (uOf x d v)), x.2.2.1, upd x.2.2.2.1 d 0, x.2.2.2.2)
def ctT (x : LVS) (d : Nat) : LVS := (vp_updL x.1 d (x.1 d + (if x.2.2.1 d = 0 then x.2.1 d else -x.2.1 d)), x.2.1, x.2.2.1, x.2.2.2.1, x.2.2.2.2)
def olL (x : LVS) (d : Nat) : LVS := (vp_updL x.1 d 0, vp_updL x.2.1 d 0, upd x.2.2.1 d 0, upd x.2.2.2.1 d 0, upd x.2.2.2.2 d 0)
theorem vnar0 : vp_nar .boolean 0 = 0 := by decide
theorem vnar1 : vp_nar .boolean 1 = 1 := by decide
theorem cmp_0 {x : Int64} (h : x = 0) : lg_cmp x 0 = 0 := by subst h; decide
theorem cmp_n {x : Int64} (h : ¬ x = 0) : ¬ lg_cmp x 0 = 0 := by
  unfold lg_cmp
  rw [if_neg h]
  split <;> decide
section FOC
variable {X : MX} {B : MH} {len ft wt : Int32} {vl : Int64} {sg lt : Nat → Int32} {x : LVS} {d : Nat}
theorem c_closeUnit (hd : d < 9) {v : Int64} : (ev X 32 0 [.ref 23, .long v, .float 0, .float 0, .float 0] [] (FMH B len (nI d) ft wt vl sg lt x)) = some (none, (FMH B len (nI d) ft 0 vl sg lt (cuU x d v))) := by
  obtain ⟨s, p, b, g, j⟩ := x
  have r1 : inR (nI d) 9 = true := inR_n hd (by decide)
  have c1 : (nI d).toNatClampNeg = d := nI_clamp (by omega)
  unfold cuU uOf jnd
  dsimp only
  by_cases g0 : g d = 0
  · have g0' := eq_true g0
    rw [if_pos g0]
    by_cases j1 : j d = 42
    · have j1' := eq_true j1
      rw [if_pos j1]
      simp only [s32_0, s32_1, s32_4, s32_5, s32_8, s32_9, s32_12, s32_13, s32_14, s32_17, s32_18, s32_19, s32_20, s32_23, s32_24, s32_27, s32_28, s32_29, s32_30, s32_33, s32_34, s32_37, s32_38, s32_40, s32_43, s32_44, s32_47, s32_48, s32_51, s32_52, s32_53, s32_54, s32_55, s32_56, s32_59, s32_60, s32_63, s32_64, s32_67, s32_68, s32_70, s32_73, s32_74, s32_77, s32_78, s32_81, s32_82, s32_83, s32_84, s32_87, s32_88, s32_91, s32_92, s32_95, s32_96, s32_99, s32_100, s32_101, s32_102, s32_103, s32_106, s32_107, s32_110, s32_111, s32_114, s32_115, s32_116, s32_117, s32_118, s32_121, okF, okA, mcC_o, mcF_o, mcT_i, mcT_l, mcT_z, mcT_q, mcN_i, mcN_l, mcN_z, mcN_q, mcI_i, mcI_z, mcL_l, mcQ_q, hg_hp, hp_hp, List.getD_cons_zero, List.getD_cons_succ, List.set_cons_zero, List.set_cons_succ, List.length_cons, List.length_nil, Nat.reduceAdd, Nat.reduceLT, Nat.reduceEqDiff, Nat.lt_add_one, decide_true, decide_false, Bool.and_true, Bool.true_and, Bool.and_false, Bool.false_and, Bool.false_eq_true, if_true, if_false, ↓reduceIte, Option.bind_some, Option.bind_none, kont_v, kont_n, FM_23, FM_24, FM_25, FM_26, FM_27, FM_28, FM_29, FM_30, FMp_23, FMp_24, FMp_25, FMp_26, FMp_27, FMp_28, FMp_29, FMp_30, FOO_len, FOO_0, FOO_1, FOO_2, FOO_3, FOO_4, FOO_5, FOO_6, FOO_7, FOO_8, FOO_9, FOO_10, FOO_11, FOO_12, FOOs_8, FOOs_9, FOOs_10, FOOs_11, FOOs_12, true_or, or_true, r1, c1, vnar0, updL_eq, g0', j1']
    · have j1' := eq_false j1
      rw [if_neg j1]
      by_cases j2 : j d = 47
      · have j2' := eq_true j2
        rw [if_pos j2]
        by_cases u0 : v = 0
        · have u0' := eq_true (cmp_0 u0)
          rw [if_pos u0]
          simp only [s32_0, s32_1, s32_4, s32_5, s32_8, s32_9, s32_12, s32_13, s32_14, s32_17, s32_18, s32_19, s32_20, s32_23, s32_24, s32_27, s32_28, s32_29, s32_30, s32_33, s32_34, s32_37, s32_38, s32_40, s32_43, s32_44, s32_47, s32_48, s32_51, s32_52, s32_53, s32_54, s32_55, s32_56, s32_59, s32_60, s32_63, s32_64, s32_67, s32_68, s32_70, s32_73, s32_74, s32_77, s32_78, s32_81, s32_82, s32_83, s32_84, s32_87, s32_88, s32_91, s32_92, s32_95, s32_96, s32_99, s32_100, s32_101, s32_102, s32_103, s32_106, s32_107, s32_110, s32_111, s32_114, s32_115, s32_116, s32_117, s32_118, s32_121, okF, okA, mcC_o, mcF_o, mcT_i, mcT_l, mcT_z, mcT_q, mcN_i, mcN_l, mcN_z, mcN_q, mcI_i, mcI_z, mcL_l, mcQ_q, hg_hp, hp_hp, List.getD_cons_zero, List.getD_cons_succ, List.set_cons_zero, List.set_cons_succ, List.length_cons, List.length_nil, Nat.reduceAdd, Nat.reduceLT, Nat.reduceEqDiff, Nat.lt_add_one, decide_true, decide_false, Bool.and_true, Bool.true_and, Bool.and_false, Bool.false_and, Bool.false_eq_true, if_true, if_false, ↓reduceIte, Option.bind_some, Option.bind_none, kont_v, kont_n, FM_23, FM_24, FM_25, FM_26, FM_27, FM_28, FM_29, FM_30, FMp_23, FMp_24, FMp_25, FMp_26, FMp_27, FMp_28, FMp_29, FMp_30, FOO_len, FOO_0, FOO_1, FOO_2, FOO_3, FOO_4, FOO_5, FOO_6, FOO_7, FOO_8, FOO_9, FOO_10, FOO_11, FOO_12, FOOs_8, FOOs_9, FOOs_10, FOOs_11, FOOs_12, true_or, or_true, r1, c1, vnar0, updL_eq, g0', j1', j2', u0']
        · have u0' := eq_false (cmp_n u0)
          have u1 := eq_false u0
          rw [if_neg u0]
          simp only [s32_0, s32_1, s32_4, s32_5, s32_8, s32_9, s32_12, s32_13, s32_14, s32_17, s32_18, s32_19, s32_20, s32_23, s32_24, s32_27, s32_28, s32_29, s32_30, s32_33, s32_34, s32_37, s32_38, s32_40, s32_43, s32_44, s32_47, s32_48, s32_51, s32_52, s32_53, s32_54, s32_55, s32_56, s32_59, s32_60, s32_63, s32_64, s32_67, s32_68, s32_70, s32_73, s32_74, s32_77, s32_78, s32_81, s32_82, s32_83, s32_84, s32_87, s32_88, s32_91, s32_92, s32_95, s32_96, s32_99, s32_100, s32_101, s32_102, s32_103, s32_106, s32_107, s32_110, s32_111, s32_114, s32_115, s32_116, s32_117, s32_118, s32_121, okF, okA, mcC_o, mcF_o, mcT_i, mcT_l, mcT_z, mcT_q, mcN_i, mcN_l, mcN_z, mcN_q, mcI_i, mcI_z, mcL_l, mcQ_q, hg_hp, hp_hp, List.getD_cons_zero, List.getD_cons_succ, List.set_cons_zero, List.set_cons_succ, List.length_cons, List.length_nil, Nat.reduceAdd, Nat.reduceLT, Nat.reduceEqDiff, Nat.lt_add_one, decide_true, decide_false, Bool.and_true, Bool.true_and, Bool.and_false, Bool.false_and, Bool.false_eq_true, if_true, if_false, ↓reduceIte, Option.bind_some, Option.bind_none, kont_v, kont_n, FM_23, FM_24, FM_25, FM_26, FM_27, FM_28, FM_29, FM_30, FMp_23, FMp_24, FMp_25, FMp_26, FMp_27, FMp_28, FMp_29, FMp_30, FOO_len, FOO_0, FOO_1, FOO_2, FOO_3, FOO_4, FOO_5, FOO_6, FOO_7, FOO_8, FOO_9, FOO_10, FOO_11, FOO_12, FOOs_8, FOOs_9, FOOs_10, FOOs_11, FOOs_12, true_or, or_true, r1, c1, vnar0, updL_eq, g0', j1', j2', u0', u1]
      · have j2' := eq_false j2
        rw [if_neg j2]
        simp only [s32_0, s32_1, s32_4, s32_5, s32_8, s32_9, s32_12, s32_13, s32_14, s32_17, s32_18, s32_19, s32_20, s32_23, s32_24, s32_27, s32_28, s32_29, s32_30, s32_33, s32_34, s32_37, s32_38, s32_40, s32_43, s32_44, s32_47, s32_48, s32_51, s32_52, s32_53, s32_54, s32_55, s32_56, s32_59, s32_60, s32_63, s32_64, s32_67, s32_68, s32_70, s32_73, s32_74, s32_77, s32_78, s32_81, s32_82, s32_83, s32_84, s32_87, s32_88, s32_91, s32_92, s32_95, s32_96, s32_99, s32_100, s32_101, s32_102, s32_103, s32_106, s32_107, s32_110, s32_111, s32_114, s32_115, s32_116, s32_117, s32_118, s32_121, okF, okA, mcC_o, mcF_o, mcT_i, mcT_l, mcT_z, mcT_q, mcN_i, mcN_l, mcN_z, mcN_q, mcI_i, mcI_z, mcL_l, mcQ_q, hg_hp, hp_hp, List.getD_cons_zero, List.getD_cons_succ, List.set_cons_zero, List.set_cons_succ, List.length_cons, List.length_nil, Nat.reduceAdd, Nat.reduceLT, Nat.reduceEqDiff, Nat.lt_add_one, decide_true, decide_false, Bool.and_true, Bool.true_and, Bool.and_false, Bool.false_and, Bool.false_eq_true, if_true, if_false, ↓reduceIte, Option.bind_some, Option.bind_none, kont_v, kont_n, FM_23, FM_24, FM_25, FM_26, FM_27, FM_28, FM_29, FM_30, FMp_23, FMp_24, FMp_25, FMp_26, FMp_27, FMp_28, FMp_29, FMp_30, FOO_len, FOO_0, FOO_1, FOO_2, FOO_3, FOO_4, FOO_5, FOO_6, FOO_7, FOO_8, FOO_9, FOO_10, FOO_11, FOO_12, FOOs_8, FOOs_9, FOOs_10, FOOs_11, FOOs_12, true_or, or_true, r1, c1, vnar0, updL_eq, g0', j1', j2']
  · have g0' := eq_false g0
    rw [if_neg g0]
    by_cases j1 : j d = 42
    · have j1' := eq_true j1
      rw [if_pos j1]
      simp only [s32_0, s32_1, s32_4, s32_5, s32_8, s32_9, s32_12, s32_13, s32_14, s32_17, s32_18, s32_19, s32_20, s32_23, s32_24, s32_27, s32_28, s32_29, s32_30, s32_33, s32_34, s32_37, s32_38, s32_40, s32_43, s32_44, s32_47, s32_48, s32_51, s32_52, s32_53, s32_54, s32_55, s32_56, s32_59, s32_60, s32_63, s32_64, s32_67, s32_68, s32_70, s32_73, s32_74, s32_77, s32_78, s32_81, s32_82, s32_83, s32_84, s32_87, s32_88, s32_91, s32_92, s32_95, s32_96, s32_99, s32_100, s32_101, s32_102, s32_103, s32_106, s32_107, s32_110, s32_111, s32_114, s32_115, s32_116, s32_117, s32_118, s32_121, okF, okA, mcC_o, mcF_o, mcT_i, mcT_l, mcT_z, mcT_q, mcN_i, mcN_l, mcN_z, mcN_q, mcI_i, mcI_z, mcL_l, mcQ_q, hg_hp, hp_hp, List.getD_cons_zero, List.getD_cons_succ, List.set_cons_zero, List.set_cons_succ, List.length_cons, List.length_nil, Nat.reduceAdd, Nat.reduceLT, Nat.reduceEqDiff, Nat.lt_add_one, decide_true, decide_false, Bool.and_true, Bool.true_and, Bool.and_false, Bool.false_and, Bool.false_eq_true, if_true, if_false, ↓reduceIte, Option.bind_some, Option.bind_none, kont_v, kont_n, FM_23, FM_24, FM_25, FM_26, FM_27, FM_28, FM_29, FM_30, FMp_23, FMp_24, FMp_25, FMp_26, FMp_27, FMp_28, FMp_29, FMp_30, FOO_len, FOO_0, FOO_1, FOO_2, FOO_3, FOO_4, FOO_5, FOO_6, FOO_7, FOO_8, FOO_9, FOO_10, FOO_11, FOO_12, FOOs_8, FOOs_9, FOOs_10, FOOs_11, FOOs_12, true_or, or_true, r1, c1, vnar0, updL_eq, g0', j1']
    · have j1' := eq_false j1
      rw [if_neg j1]
      by_cases j2 : j d = 47
      · have j2' := eq_true j2
        rw [if_pos j2]
        by_cases u0 : -v = 0
        · have u0' := eq_true (cmp_0 u0)
          rw [if_pos u0]
          simp only [s32_0, s32_1, s32_4, s32_5, s32_8, s32_9, s32_12, s32_13, s32_14, s32_17, s32_18, s32_19, s32_20, s32_23, s32_24, s32_27, s32_28, s32_29, s32_30, s32_33, s32_34, s32_37, s32_38, s32_40, s32_43, s32_44, s32_47, s32_48, s32_51, s32_52, s32_53, s32_54, s32_55, s32_56, s32_59, s32_60, s32_63, s32_64, s32_67, s32_68, s32_70, s32_73, s32_74, s32_77, s32_78, s32_81, s32_82, s32_83, s32_84, s32_87, s32_88, s32_91, s32_92, s32_95, s32_96, s32_99, s32_100, s32_101, s32_102, s32_103, s32_106, s32_107, s32_110, s32_111, s32_114, s32_115, s32_116, s32_117, s32_118, s32_121, okF, okA, mcC_o, mcF_o, mcT_i, mcT_l, mcT_z, mcT_q, mcN_i, mcN_l, mcN_z, mcN_q, mcI_i, mcI_z, mcL_l, mcQ_q, hg_hp, hp_hp, List.getD_cons_zero, List.getD_cons_succ, List.set_cons_zero, List.set_cons_succ, List.length_cons, List.length_nil, Nat.reduceAdd, Nat.reduceLT, Nat.reduceEqDiff, Nat.lt_add_one, decide_true, decide_false, Bool.and_true, Bool.true_and, Bool.and_false, Bool.false_and, Bool.false_eq_true, if_true, if_false, ↓reduceIte, Option.bind_some, Option.bind_none, kont_v, kont_n, FM_23, FM_24, FM_25, FM_26, FM_27, FM_28, FM_29, FM_30, FMp_23, FMp_24, FMp_25, FMp_26, FMp_27, FMp_28, FMp_29, FMp_30, FOO_len, FOO_0, FOO_1, FOO_2, FOO_3, FOO_4, FOO_5, FOO_6, FOO_7, FOO_8, FOO_9, FOO_10, FOO_11, FOO_12, FOOs_8, FOOs_9, FOOs_10, FOOs_11, FOOs_12, true_or, or_true, r1, c1, vnar0, updL_eq, g0', j1', j2', u0']
        · have u0' := eq_false (cmp_n u0)
          have u1 := eq_false u0
          rw [if_neg u0]
          simp only [s32_0, s32_1, s32_4, s32_5, s32_8, s32_9, s32_12, s32_13, s32_14, s32_17, s32_18, s32_19, s32_20, s32_23, s32_24, s32_27, s32_28, s32_29, s32_30, s32_33, s32_34, s32_37, s32_38, s32_40, s32_43, s32_44, s32_47, s32_48, s32_51, s32_52, s32_53, s32_54, s32_55, s32_56, s32_59, s32_60, s32_63, s32_64, s32_67, s32_68, s32_70, s32_73, s32_74, s32_77, s32_78, s32_81, s32_82, s32_83, s32_84, s32_87, s32_88, s32_91, s32_92, s32_95, s32_96, s32_99, s32_100, s32_101, s32_102, s32_103, s32_106, s32_107, s32_110, s32_111, s32_114, s32_115, s32_116, s32_117, s32_118, s32_121, okF, okA, mcC_o, mcF_o, mcT_i, mcT_l, mcT_z, mcT_q, mcN_i, mcN_l, mcN_z, mcN_q, mcI_i, mcI_z, mcL_l, mcQ_q, hg_hp, hp_hp, List.getD_cons_zero, List.getD_cons_succ, List.set_cons_zero, List.set_cons_succ, List.length_cons, List.length_nil, Nat.reduceAdd, Nat.reduceLT, Nat.reduceEqDiff, Nat.lt_add_one, decide_true, decide_false, Bool.and_true, Bool.true_and, Bool.and_false, Bool.false_and, Bool.false_eq_true, if_true, if_false, ↓reduceIte, Option.bind_some, Option.bind_none, kont_v, kont_n, FM_23, FM_24, FM_25, FM_26, FM_27, FM_28, FM_29, FM_30, FMp_23, FMp_24, FMp_25, FMp_26, FMp_27, FMp_28, FMp_29, FMp_30, FOO_len, FOO_0, FOO_1, FOO_2, FOO_3, FOO_4, FOO_5, FOO_6, FOO_7, FOO_8, FOO_9, FOO_10, FOO_11, FOO_12, FOOs_8, FOOs_9, FOOs_10, FOOs_11, FOOs_12, true_or, or_true, r1, c1, vnar0, updL_eq, g0', j1', j2', u0', u1]
      · have j2' := eq_false j2
        rw [if_neg j2]
        simp only [s32_0, s32_1, s32_4, s32_5, s32_8, s32_9, s32_12, s32_13, s32_14, s32_17, s32_18, s32_19, s32_20, s32_23, s32_24, s32_27, s32_28, s32_29, s32_30, s32_33, s32_34, s32_37, s32_38, s32_40, s32_43, s32_44, s32_47, s32_48, s32_51, s32_52, s32_53, s32_54, s32_55, s32_56, s32_59, s32_60, s32_63, s32_64, s32_67, s32_68, s32_70, s32_73, s32_74, s32_77, s32_78, s32_81, s32_82, s32_83, s32_84, s32_87, s32_88, s32_91, s32_92, s32_95, s32_96, s32_99, s32_100, s32_101, s32_102, s32_103, s32_106, s32_107, s32_110, s32_111, s32_114, s32_115, s32_116, s32_117, s32_118, s32_121, okF, okA, mcC_o, mcF_o, mcT_i, mcT_l, mcT_z, mcT_q, mcN_i, mcN_l, mcN_z, mcN_q, mcI_i, mcI_z, mcL_l, mcQ_q, hg_hp, hp_hp, List.getD_cons_zero, List.getD_cons_succ, List.set_cons_zero, List.set_cons_succ, List.length_cons, List.length_nil, Nat.reduceAdd, Nat.reduceLT, Nat.reduceEqDiff, Nat.lt_add_one, decide_true, decide_false, Bool.and_true, Bool.true_and, Bool.and_false, Bool.false_and, Bool.false_eq_true, if_true, if_false, ↓reduceIte, Option.bind_some, Option.bind_none, kont_v, kont_n, FM_23, FM_24, FM_25, FM_26, FM_27, FM_28, FM_29, FM_30, FMp_23, FMp_24, FMp_25, FMp_26, FMp_27, FMp_28, FMp_29, FMp_30, FOO_len, FOO_0, FOO_1, FOO_2, FOO_3, FOO_4, FOO_5, FOO_6, FOO_7, FOO_8, FOO_9, FOO_10, FOO_11, FOO_12, FOOs_8, FOOs_9, FOOs_10, FOOs_11, FOOs_12, true_or, or_true, r1, c1, vnar0, updL_eq, g0', j1', j2']
theorem c_closeTerm (hd : d < 9) : (ev X 35 0 [.ref 23] [] (FMH B len (nI d) ft wt vl sg lt x)) = some (none, (FMH B len (nI d) ft wt vl sg lt (ctT x d))) := by
  obtain ⟨s, p, b, g, j⟩ := x
  have r1 : inR (nI d) 9 = true := inR_n hd (by decide)
  have c1 : (nI d).toNatClampNeg = d := nI_clamp (by omega)
  unfold ctT
  dsimp only
  by_cases g0 : b d = 0
  · have g0' := eq_true g0
    rw [if_pos g0]
    simp only [s35_0, s35_1, s35_4, s35_5, s35_8, s35_9, s35_10, s35_11, s35_14, s35_15, s35_18, s35_19, s35_22, s35_23, s35_26, s35_27, s35_30, s35_31, s35_32, s35_35, s35_36, s35_39, s35_40, s35_43, s35_44, s35_45, s35_46, okF, okA, mcC_o, mcF_o, mcT_i, mcT_l, mcT_z, mcT_q, mcN_i, mcN_l, mcN_z, mcN_q, mcI_i, mcI_z, mcL_l, mcQ_q, hg_hp, hp_hp, List.getD_cons_zero, List.getD_cons_succ, List.set_cons_zero, List.set_cons_succ, List.length_cons, List.length_nil, Nat.reduceAdd, Nat.reduceLT, Nat.reduceEqDiff, Nat.lt_add_one, decide_true, decide_false, Bool.and_true, Bool.true_and, Bool.and_false, Bool.false_and, Bool.false_eq_true, if_true, if_false, ↓reduceIte, Option.bind_some, Option.bind_none, kont_v, kont_n, FM_23, FM_24, FM_25, FM_26, FM_27, FM_28, FM_29, FM_30, FMp_23, FMp_24, FMp_25, FMp_26, FMp_27, FMp_28, FMp_29, FMp_30, FOO_len, FOO_0, FOO_1, FOO_2, FOO_3, FOO_4, FOO_5, FOO_6, FOO_7, FOO_8, FOO_9, FOO_10, FOO_11, FOO_12, FOOs_8, FOOs_9, FOOs_10, FOOs_11, FOOs_12, true_or, or_true, r1, c1, g0']
  · have g0' := eq_false g0
    rw [if_neg g0]
    simp only [s35_0, s35_1, s35_4, s35_5, s35_8, s35_9, s35_10, s35_11, s35_14, s35_15, s35_18, s35_19, s35_22, s35_23, s35_26, s35_27, s35_30, s35_31, s35_32, s35_35, s35_36, s35_39, s35_40, s35_43, s35_44, s35_45, s35_46, okF, okA, mcC_o, mcF_o, mcT_i, mcT_l, mcT_z, mcT_q, mcN_i, mcN_l, mcN_z, mcN_q, mcI_i, mcI_z, mcL_l, mcQ_q, hg_hp, hp_hp, List.getD_cons_zero, List.getD_cons_succ, List.set_cons_zero, List.set_cons_succ, List.length_cons, List.length_nil, Nat.reduceAdd, Nat.reduceLT, Nat.reduceEqDiff, Nat.lt_add_one, decide_true, decide_false, Bool.and_true, Bool.true_and, Bool.and_false, Bool.false_and, Bool.false_eq_true, if_true, if_false, ↓reduceIte, Option.bind_some, Option.bind_none, kont_v, kont_n, FM_23, FM_24, FM_25, FM_26, FM_27, FM_28, FM_29, FM_30, FMp_23, FMp_24, FMp_25, FMp_26, FMp_27, FMp_28, FMp_29, FMp_30, FOO_len, FOO_0, FOO_1, FOO_2, FOO_3, FOO_4, FOO_5, FOO_6, FOO_7, FOO_8, FOO_9, FOO_10, FOO_11, FOO_12, FOOs_8, FOOs_9, FOOs_10, FOOs_11, FOOs_12, true_or, or_true, r1, c1, g0']
theorem c_openLevel (hd : d < 9) : (ev X 26 0 [.ref 23] [] (FMH B len (nI d) ft wt vl sg lt x)) = some (none, (FMH B len (nI d) ft 1 vl sg lt (olL x d))) := by
  obtain ⟨s, p, b, g, j⟩ := x
  have r1 : inR (nI d) 9 = true := inR_n hd (by decide)
  have c1 : (nI d).toNatClampNeg = d := nI_clamp (by omega)
  simp only [s26_0, s26_1, s26_4, s26_5, s26_8, s26_9, s26_10, s26_11, s26_14, s26_15, s26_18, s26_19, s26_20, s26_21, s26_24, s26_25, s26_28, s26_29, s26_30, s26_31, s26_34, s26_35, s26_38, s26_39, s26_40, s26_41, s26_44, s26_45, s26_48, s26_49, s26_50, s26_51, s26_52, s26_55, okF, okA, mcC_o, mcF_o, mcT_i, mcT_l, mcT_z, mcT_q, mcN_i, mcN_l, mcN_z, mcN_q, mcI_i, mcI_z, mcL_l, mcQ_q, hg_hp, hp_hp, List.getD_cons_zero, List.getD_cons_succ, List.set_cons_zero, List.set_cons_succ, List.length_cons, List.length_nil, Nat.reduceAdd, Nat.reduceLT, Nat.reduceEqDiff, Nat.lt_add_one, decide_true, decide_false, Bool.and_true, Bool.true_and, Bool.and_false, Bool.false_and, Bool.false_eq_true, if_true, if_false, ↓reduceIte, Option.bind_some, Option.bind_none, kont_v, kont_n, FM_23, FM_24, FM_25, FM_26, FM_27, FM_28, FM_29, FM_30, FMp_23, FMp_24, FMp_25, FMp_26, FMp_27, FMp_28, FMp_29, FMp_30, FOO_len, FOO_0, FOO_1, FOO_2, FOO_3, FOO_4, FOO_5, FOO_6, FOO_7, FOO_8, FOO_9, FOO_10, FOO_11, FOO_12, FOOs_8, FOOs_9, FOOs_10, FOOs_11, FOOs_12, true_or, or_true, r1, c1, vnar0]
  rfl
theorem c_tellFault {a b dp : Int32} : (ev X 31 0 [.ref 23, .int a, .int b] [] (FMH B len dp ft wt vl sg lt x)) = some (none, (FMH B len dp (10 * a + b) wt vl sg lt x)) := by
  simp only [s31_0, s31_1, s31_3, s31_4, s31_5, s31_6, s31_7, s31_10, okF, okA, mcC_o, mcF_o, mcT_i, mcT_l, mcT_z, mcT_q, mcN_i, mcN_l, mcN_z, mcN_q, mcI_i, mcI_z, mcL_l, mcQ_q, hg_hp, hp_hp, List.getD_cons_zero, List.getD_cons_succ, List.set_cons_zero, List.set_cons_succ, List.length_cons, List.length_nil, Nat.reduceAdd, Nat.reduceLT, Nat.reduceEqDiff, Nat.lt_add_one, decide_true, decide_false, Bool.and_true, Bool.true_and, Bool.and_false, Bool.false_and, Bool.false_eq_true, if_true, if_false, ↓reduceIte, Option.bind_some, Option.bind_none, kont_v, kont_n, FM_23, FM_24, FM_25, FM_26, FM_27, FM_28, FM_29, FM_30, FMp_23, FMp_24, FMp_25, FMp_26, FMp_27, FMp_28, FMp_29, FMp_30, FOO_len, FOO_0, FOO_1, FOO_2, FOO_3, FOO_4, FOO_5, FOO_6, FOO_7, FOO_8, FOO_9, FOO_10, FOO_11, FOO_12, FOOs_8, FOOs_9, FOOs_10, FOOs_11, FOOs_12, true_or, or_true]
/-- the sign at a place, 0 behind the text -/
def sgn (n : Nat) (q : Nat → Nat) (i : Nat) : Nat := if i < n then q i else 0
theorem c_signAt {n i : Nat} {dp : Int32} {q : Nat → Nat} (hn : n ≤ 50) (hi : i < 1000) (hq : ∀ i, i < n → sg i = nI (q i)) : (ev X 28 0 [.ref 23, .int (nI i)] [] (FMH B (nI n) dp ft wt vl sg lt x)) = some (some (.int (nI (sgn n q i))), (FMH B (nI n) dp ft wt vl sg lt x)) := by
  have l0 : ¬ nI i < 0 := nI_pos (by omega)
  unfold sgn
  by_cases l : i < n
  · have l' := nI_lt l (by omega)
    have l2 : nI i < Int32.ofNat 50 := nI_lt (b := 50) (by omega) (by decide)
    have r1 : inR (nI i) 50 = true := inR_n (by omega) (by decide)
    have c1 : (nI i).toNatClampNeg = i := nI_clamp (by omega)
    rw [if_pos l, ← hq i l]
    simp only [s28_0, s28_1, s28_4, s28_5, s28_6, s28_9, s28_12, s28_13, s28_14, s28_17, s28_18, s28_21, s28_22, s28_25, s28_26, s28_27, s28_30, s28_31, okF, okA, mcC_o, mcF_o, mcT_i, mcT_l, mcT_z, mcT_q, mcN_i, mcN_l, mcN_z, mcN_q, mcI_i, mcI_z, mcL_l, mcQ_q, hg_hp, hp_hp, List.getD_cons_zero, List.getD_cons_succ, List.set_cons_zero, List.set_cons_succ, List.length_cons, List.length_nil, Nat.reduceAdd, Nat.reduceLT, Nat.reduceEqDiff, Nat.lt_add_one, decide_true, decide_false, Bool.and_true, Bool.true_and, Bool.and_false, Bool.false_and, Bool.false_eq_true, if_true, if_false, ↓reduceIte, Option.bind_some, Option.bind_none, kont_v, kont_n, FM_23, FM_24, FM_25, FM_26, FM_27, FM_28, FM_29, FM_30, FMp_23, FMp_24, FMp_25, FMp_26, FMp_27, FMp_28, FMp_29, FMp_30, FOO_len, FOO_0, FOO_1, FOO_2, FOO_3, FOO_4, FOO_5, FOO_6, FOO_7, FOO_8, FOO_9, FOO_10, FOO_11, FOO_12, FOOs_8, FOOs_9, FOOs_10, FOOs_11, FOOs_12, true_or, or_true, Nat.zero_le, l0, l', l2, r1, c1]
  · have l' := nI_nlt (a := i) (b := n) (by omega) (by omega)
    rw [if_neg l]
    show _ = some (some (Value.int 0), _)
    simp only [s28_0, s28_1, s28_4, s28_5, s28_6, s28_9, s28_12, s28_13, s28_14, s28_17, s28_18, s28_21, s28_22, s28_25, s28_26, s28_27, s28_30, s28_31, okF, okA, mcC_o, mcF_o, mcT_i, mcT_l, mcT_z, mcT_q, mcN_i, mcN_l, mcN_z, mcN_q, mcI_i, mcI_z, mcL_l, mcQ_q, hg_hp, hp_hp, List.getD_cons_zero, List.getD_cons_succ, List.set_cons_zero, List.set_cons_succ, List.length_cons, List.length_nil, Nat.reduceAdd, Nat.reduceLT, Nat.reduceEqDiff, Nat.lt_add_one, decide_true, decide_false, Bool.and_true, Bool.true_and, Bool.and_false, Bool.false_and, Bool.false_eq_true, if_true, if_false, ↓reduceIte, Option.bind_some, Option.bind_none, kont_v, kont_n, FM_23, FM_24, FM_25, FM_26, FM_27, FM_28, FM_29, FM_30, FMp_23, FMp_24, FMp_25, FMp_26, FMp_27, FMp_28, FMp_29, FMp_30, FOO_len, FOO_0, FOO_1, FOO_2, FOO_3, FOO_4, FOO_5, FOO_6, FOO_7, FOO_8, FOO_9, FOO_10, FOO_11, FOO_12, FOOs_8, FOOs_9, FOOs_10, FOOs_11, FOOs_12, true_or, or_true, l0, l']
def dgb (c : Nat) : Bool := decide (48 ≤ c) && decide (c ≤ 57)
theorem c_isDigit {h : MH} {c : Nat} (hc : c < 1000) : (ev X 29 0 [.int (nI c)] [] (h)) = some (some (.int (if dgb c = true then 1 else 0)), (h)) := by
  have b1 : ((1 : Int32) &&& 1 = 1) = True := eq_true (by decide)
  have b0 : ((0 : Int32) &&& 1 = 0) = True := eq_true (by decide)
  unfold dgb
  by_cases l : c < 48
  · have l' : nI c < (48 : Int32) := nI_lt (b := 48) l (by decide)
    rw [decide_eq_false (show ¬ 48 ≤ c by omega), Bool.false_and, if_neg (by decide)]
    simp only [s29_0, s29_1, s29_3, s29_6, s29_7, s29_9, s29_12, s29_13, s29_16, s29_17, okF, okA, mcC_o, mcF_o, mcT_i, mcT_l, mcT_z, mcT_q, mcN_i, mcN_l, mcN_z, mcN_q, mcI_i, mcI_z, mcL_l, mcQ_q, hg_hp, hp_hp, List.getD_cons_zero, List.getD_cons_succ, List.set_cons_zero, List.set_cons_succ, List.length_cons, List.length_nil, Nat.reduceAdd, Nat.reduceLT, Nat.reduceEqDiff, Nat.lt_add_one, decide_true, decide_false, Bool.and_true, Bool.true_and, Bool.and_false, Bool.false_and, Bool.false_eq_true, if_true, if_false, ↓reduceIte, Option.bind_some, Option.bind_none, kont_v, kont_n, l', b0]
  · have l' : ¬ nI c < (48 : Int32) := nI_nlt (b := 48) (by omega) (by omega)
    rw [decide_eq_true (show 48 ≤ c by omega), Bool.true_and]
    by_cases l2 : 57 < c
    · have l2' : (57 : Int32) < nI c := nI_lt (a := 57) l2 (by omega)
      rw [decide_eq_false (show ¬ c ≤ 57 by omega), if_neg (by decide)]
      simp only [s29_0, s29_1, s29_3, s29_6, s29_7, s29_9, s29_12, s29_13, s29_16, s29_17, okF, okA, mcC_o, mcF_o, mcT_i, mcT_l, mcT_z, mcT_q, mcN_i, mcN_l, mcN_z, mcN_q, mcI_i, mcI_z, mcL_l, mcQ_q, hg_hp, hp_hp, List.getD_cons_zero, List.getD_cons_succ, List.set_cons_zero, List.set_cons_succ, List.length_cons, List.length_nil, Nat.reduceAdd, Nat.reduceLT, Nat.reduceEqDiff, Nat.lt_add_one, decide_true, decide_false, Bool.and_true, Bool.true_and, Bool.and_false, Bool.false_and, Bool.false_eq_true, if_true, if_false, ↓reduceIte, Option.bind_some, Option.bind_none, kont_v, kont_n, l', l2', b0]
    · have l2' : ¬ (57 : Int32) < nI c := nI_nlt (a := 57) (by omega) (by decide)
      rw [decide_eq_true (show c ≤ 57 by omega), if_pos rfl]
      simp only [s29_0, s29_1, s29_3, s29_6, s29_7, s29_9, s29_12, s29_13, s29_16, s29_17, okF, okA, mcC_o, mcF_o, mcT_i, mcT_l, mcT_z, mcT_q, mcN_i, mcN_l, mcN_z, mcN_q, mcI_i, mcI_z, mcL_l, mcQ_q, hg_hp, hp_hp, List.getD_cons_zero, List.getD_cons_succ, List.set_cons_zero, List.set_cons_succ, List.length_cons, List.length_nil, Nat.reduceAdd, Nat.reduceLT, Nat.reduceEqDiff, Nat.lt_add_one, decide_true, decide_false, Bool.and_true, Bool.true_and, Bool.and_false, Bool.false_and, Bool.false_eq_true, if_true, if_false, ↓reduceIte, Option.bind_some, Option.bind_none, kont_v, kont_n, l', l2', b1]
end FOC
/-- how many digits stand from i on, m at most; their number -/
def dct (n : Nat) (q : Nat → Nat) : Nat → Nat → Nat
  | 0, _ => 0
  | m + 1, i => if dgb (sgn n q i) = true then dct n q m (i + 1) + 1 else 0
def dvl (n : Nat) (q : Nat → Nat) : Nat → Nat → Int32 → Int32
  | 0, _, v => v
  | m + 1, i, v => if dgb (sgn n q i) = true then dvl n q m (i + 1) (10 * v + nI (sgn n q i) - 48) else v
section FOD
variable {X : MX} {B : MH} {ft wt dp : Int32} {vl : Int64} {sg lt : Nat → Int32} {x : LVS} {n : Nat} {q : Nat → Nat}
theorem sgn_lt (hq : ∀ i, i < n → sg i = nI (q i) ∧ q i < 128) (i : Nat) : sgn n q i < 128 := by
  unfold sgn
  split
  · exact (hq i (by assumption)).2
  · omega
theorem c_rd_lp (hn : n ≤ 50) (hq : ∀ i, i < n → sg i = nI (q i) ∧ q i < 128) {f : Nat} (hf : f < 100) : ∀ (m i : Nat) (v : Int32), i + m = f + 6 → ev X 30 4 [.ref 23, .int (nI f), .int v, .int (nI i)] [] (FMH B (nI n) dp ft wt vl sg lt x) = ev X 30 43 [.ref 23, .int (nI f), .int (dvl n q m i v), .int (nI (i + dct n q m i))] [] (FMH B (nI n) dp ft wt vl sg lt x) := by
  intro m
  have one0 : ¬ (1 : Int32) = 0 := by decide
  have p6 : nI f + 6 = nI (f + 6) := nI_add f 6
  induction m with
  | zero =>
    intro i v e
    have e : i = f + 6 := by omega
    have l := nI_nlt (Nat.le_refl (f + 6)) (by omega)
    subst e
    show _ = ev X 30 43 [.ref 23, .int (nI f), .int v, .int (nI (f + 6))] [] _
    rw [s30_4]
    simp only [s30_0, s30_1, s30_2, s30_3, s30_5, s30_6, s30_8, s30_9, s30_12, s30_13, s30_14, s30_17, s30_20, s30_23, s30_25, s30_26, s30_27, s30_28, s30_29, s30_32, s30_33, s30_35, s30_36, s30_37, s30_40, s30_44, s30_45, s30_48, s30_51, s30_54, s30_55, s30_56, s30_57, s30_60, s30_61, s30_62, s30_63, s30_66, s30_67, okF, okA, mcC_o, mcF_o, mcT_i, mcT_l, mcT_z, mcT_q, mcN_i, mcN_l, mcN_z, mcN_q, mcI_i, mcI_z, mcL_l, mcQ_q, hg_hp, hp_hp, List.getD_cons_zero, List.getD_cons_succ, List.set_cons_zero, List.set_cons_succ, List.length_cons, List.length_nil, Nat.reduceAdd, Nat.reduceLT, Nat.reduceEqDiff, Nat.lt_add_one, decide_true, decide_false, Bool.and_true, Bool.true_and, Bool.and_false, Bool.false_and, Bool.false_eq_true, if_true, if_false, ↓reduceIte, Option.bind_some, Option.bind_none, kont_v, kont_n, p6, l]
  | succ m ih =>
    intro i v e
    have l := nI_lt (show i < f + 6 by omega) (by omega)
    have p1 : nI i + 1 = nI (i + 1) := nI_add i 1
    have sa := c_signAt (X := X) (B := B) (ft := ft) (wt := wt) (vl := vl) (lt := lt) (x := x) (dp := dp) hn (show i < 1000 by omega) (fun i hi => (hq i hi).1)
    have sl := sgn_lt hq i
    have di := c_isDigit (X := X) (h := FMH B (nI n) dp ft wt vl sg lt x) (show sgn n q i < 1000 by omega)
    rw [dvl, dct, s30_4]
    by_cases c : dgb (sgn n q i) = true
    · rw [if_pos c] at di
      rw [if_pos c, if_pos c, show i + (dct n q m (i + 1) + 1) = i + 1 + dct n q m (i + 1) by omega, ← ih (i + 1) _ (by omega)]
      simp only [s30_0, s30_1, s30_2, s30_3, s30_5, s30_6, s30_8, s30_9, s30_12, s30_13, s30_14, s30_17, s30_20, s30_23, s30_25, s30_26, s30_27, s30_28, s30_29, s30_32, s30_33, s30_35, s30_36, s30_37, s30_40, s30_44, s30_45, s30_48, s30_51, s30_54, s30_55, s30_56, s30_57, s30_60, s30_61, s30_62, s30_63, s30_66, s30_67, okF, okA, mcC_o, mcF_o, mcT_i, mcT_l, mcT_z, mcT_q, mcN_i, mcN_l, mcN_z, mcN_q, mcI_i, mcI_z, mcL_l, mcQ_q, hg_hp, hp_hp, List.getD_cons_zero, List.getD_cons_succ, List.set_cons_zero, List.set_cons_succ, List.length_cons, List.length_nil, Nat.reduceAdd, Nat.reduceLT, Nat.reduceEqDiff, Nat.lt_add_one, decide_true, decide_false, Bool.and_true, Bool.true_and, Bool.and_false, Bool.false_and, Bool.false_eq_true, if_true, if_false, ↓reduceIte, Option.bind_some, Option.bind_none, kont_v, kont_n, p6, l, sa, di, one0, p1, mcC_o, FM_23]
    · rw [if_neg c] at di
      rw [if_neg c, if_neg c, Nat.add_zero]
      simp only [s30_0, s30_1, s30_2, s30_3, s30_5, s30_6, s30_8, s30_9, s30_12, s30_13, s30_14, s30_17, s30_20, s30_23, s30_25, s30_26, s30_27, s30_28, s30_29, s30_32, s30_33, s30_35, s30_36, s30_37, s30_40, s30_44, s30_45, s30_48, s30_51, s30_54, s30_55, s30_56, s30_57, s30_60, s30_61, s30_62, s30_63, s30_66, s30_67, okF, okA, mcC_o, mcF_o, mcT_i, mcT_l, mcT_z, mcT_q, mcN_i, mcN_l, mcN_z, mcN_q, mcI_i, mcI_z, mcL_l, mcQ_q, hg_hp, hp_hp, List.getD_cons_zero, List.getD_cons_succ, List.set_cons_zero, List.set_cons_succ, List.length_cons, List.length_nil, Nat.reduceAdd, Nat.reduceLT, Nat.reduceEqDiff, Nat.lt_add_one, decide_true, decide_false, Bool.and_true, Bool.true_and, Bool.and_false, Bool.false_and, Bool.false_eq_true, if_true, if_false, ↓reduceIte, Option.bind_some, Option.bind_none, kont_v, kont_n, p6, l, sa, di, mcC_o, FM_23]
theorem dct_le : ∀ (m i : Nat), dct n q m i ≤ m := by
  intro m
  induction m with
  | zero => intro i; exact Nat.le_refl 0
  | succ m ih =>
    intro i
    rw [dct]
    have := ih (i + 1)
    split <;> omega
theorem c_readDigits (hn : n ≤ 50) (hq : ∀ i, i < n → sg i = nI (q i) ∧ q i < 128) {f d : Nat} (hf : f < 100) (hd : d < 9) : (ev X 30 0 [.ref 23, .int (nI f), .float 0, .float 0] [] (FMH B (nI n) (nI d) ft wt vl sg lt x)) = some (some (.int (nI (f + dct n q 6 f))), (FMH B (nI n) (nI d) (if dgb (sgn n q (f + dct n q 6 f)) = true then 10 * nI f + 2 else ft) 0 vl sg lt (cuU x d (dvl n q 6 f 0).toInt64))) := by
  have one0 : ¬ (1 : Int32) = 0 := by decide
  have lp := c_rd_lp (X := X) (B := B) (dp := nI d) (ft := ft) (wt := wt) (vl := vl) (lt := lt) (x := x) hn hq hf 6 f 0 (by omega)
  have dl := dct_le (n := n) (q := q) 6 f
  have sa := c_signAt (X := X) (B := B) (ft := ft) (wt := wt) (vl := vl) (lt := lt) (x := x) (dp := nI d) hn (show f + dct n q 6 f < 1000 by omega) (fun i hi => (hq i hi).1)
  have sl := sgn_lt hq (f + dct n q 6 f)
  have di := c_isDigit (X := X) (h := FMH B (nI n) (nI d) ft wt vl sg lt x) (show sgn n q (f + dct n q 6 f) < 1000 by omega)
  have cu := fun ft => c_closeUnit (X := X) (B := B) (len := nI n) (ft := ft) (wt := wt) (vl := vl) (sg := sg) (lt := lt) (x := x) hd (v := (dvl n q 6 f 0).toInt64)
  by_cases c : dgb (sgn n q (f + dct n q 6 f)) = true
  · rw [if_pos c] at di ⊢
    simp only [s30_0, s30_1, s30_2, s30_3, s30_5, s30_6, s30_8, s30_9, s30_12, s30_13, s30_14, s30_17, s30_20, s30_23, s30_25, s30_26, s30_27, s30_28, s30_29, s30_32, s30_33, s30_35, s30_36, s30_37, s30_40, s30_43, s30_44, s30_45, s30_48, s30_51, s30_54, s30_55, s30_56, s30_57, s30_60, s30_61, s30_62, s30_63, s30_66, s30_67, okF, okA, mcC_o, mcF_o, mcT_i, mcT_l, mcT_z, mcT_q, mcN_i, mcN_l, mcN_z, mcN_q, mcI_i, mcI_z, mcL_l, mcQ_q, hg_hp, hp_hp, List.getD_cons_zero, List.getD_cons_succ, List.set_cons_zero, List.set_cons_succ, List.length_cons, List.length_nil, Nat.reduceAdd, Nat.reduceLT, Nat.reduceEqDiff, Nat.lt_add_one, decide_true, decide_false, Bool.and_true, Bool.true_and, Bool.and_false, Bool.false_and, Bool.false_eq_true, if_true, if_false, ↓reduceIte, Option.bind_some, Option.bind_none, kont_v, kont_n, lp, sa, di, one0, FM_23, c_tellFault, cu]
  · rw [if_neg c] at di ⊢
    simp only [s30_0, s30_1, s30_2, s30_3, s30_5, s30_6, s30_8, s30_9, s30_12, s30_13, s30_14, s30_17, s30_20, s30_23, s30_25, s30_26, s30_27, s30_28, s30_29, s30_32, s30_33, s30_35, s30_36, s30_37, s30_40, s30_43, s30_44, s30_45, s30_48, s30_51, s30_54, s30_55, s30_56, s30_57, s30_60, s30_61, s30_62, s30_63, s30_66, s30_67, okF, okA, mcC_o, mcF_o, mcT_i, mcT_l, mcT_z, mcT_q, mcN_i, mcN_l, mcN_z, mcN_q, mcI_i, mcI_z, mcL_l, mcQ_q, hg_hp, hp_hp, List.getD_cons_zero, List.getD_cons_succ, List.set_cons_zero, List.set_cons_succ, List.length_cons, List.length_nil, Nat.reduceAdd, Nat.reduceLT, Nat.reduceEqDiff, Nat.lt_add_one, decide_true, decide_false, Bool.and_true, Bool.true_and, Bool.and_false, Bool.false_and, Bool.false_eq_true, if_true, if_false, ↓reduceIte, Option.bind_some, Option.bind_none, kont_v, kont_n, lp, sa, di, FM_23, cu]
end FOD

-- FORMULA 7: what a text tells of a fencer
/-- the seven letters -/
def lts (q f1 : Nat → Int32) (a : Nat) (l : Nat) : Int32 := if l = 0 then vq0 q a else if l = 1 then vq1 q a else if l = 2 then q (a * 6 + 2) else if l = 3 then q (a * 6 + 1) else if l = 4 then f1 (a * 3 + 2) else if l = 5 then q (a * 6 + 4) else q (a * 6 + 5)
def nmF (q f1 : Nat → Int32) (a : Nat) (l : Int32) : Int64 := if l = 0 then (vq0 q a).toInt64 else if l = 1 then (vq1 q a).toInt64 else if l = 2 then (q (a * 6 + 2)).toInt64 else if l = 3 then (q (a * 6 + 1)).toInt64 else if l = 4 then (f1 (a * 3 + 2)).toInt64 else if l = 5 then (q (a * 6 + 4)).toInt64 else (q (a * 6 + 5)).toInt64
theorem nmF_lts {q f1 : Nat → Int32} {a : Nat} : ∀ l, l < 7 → nmF q f1 a (nI l) = (lts q f1 a l).toInt64 := by
  intro l hl
  rcases (by omega : l = 0 ∨ l = 1 ∨ l = 2 ∨ l = 3 ∨ l = 4 ∨ l = 5 ∨ l = 6) with rfl | rfl | rfl | rfl | rfl | rfl | rfl <;> rfl
def ltu (q f1 : Nat → Int32) (a : Nat) (lt : Nat → Int32) : Nat → Int32 := upd (upd (upd (upd (upd (upd (upd lt 0 (vq0 q a)) 1 (vq1 q a)) 2 (q (a * 6 + 2))) 3 (q (a * 6 + 1))) 4 (f1 (a * 3 + 2))) 5 (q (a * 6 + 4))) 6 (q (a * 6 + 5))
theorem ltu_lts {q f1 lt : Nat → Int32} {a : Nat} : ∀ l, l < 7 → ltu q f1 a lt l = lts q f1 a l := by
  intro l hl
  rcases (by omega : l = 0 ∨ l = 1 ∨ l = 2 ∨ l = 3 ∨ l = 4 ∨ l = 5 ∨ l = 6) with rfl | rfl | rfl | rfl | rfl | rfl | rfl <;> rfl
section TEL
variable {X : MX} {t : Nat} {h B H : MH} {D : LD} {S IM KP : Nat → Int32}
theorem c_setLetter {len dp ft wt v : Int32} {vl : Int64} {sg lt : Nat → Int32} {y : LVS} {k : Nat} {k' : Int32} (ek : k' = nI k) (hk : k < 7) : (ev X 36 0 [.ref 23, .int k', .int v] [] (FMH B len dp ft wt vl sg lt y)) = some (none, (FMH B len dp ft wt vl sg (upd lt k v) y)) := by
  subst ek
  have al : Int32.ofNat 7 - 1 = (6 : Int32) := by decide
  have w : wi (nI k) 0 6 = 1 := by
    have := wi_nn (a := k) (b := 0) (c := 6) (by omega) (by omega) (by omega)
    rw [if_pos (by omega)] at this
    exact this
  have one0 : ¬ (1 : Int32) = 0 := by decide
  have r1 : inR (nI k) 7 = true := inR_n hk (by decide)
  have c1 : (nI k).toNatClampNeg = k := nI_clamp (by omega)
  simp only [s36_0, s36_1, s36_2, s36_3, s36_6, s36_7, s36_8, s36_9, s36_12, s36_15, s36_16, s36_19, s36_20, s36_21, s36_22, okF, okA, mcC_o, mcF_o, mcT_i, mcT_l, mcT_z, mcT_q, mcN_i, mcN_l, mcN_z, mcN_q, mcI_i, mcI_z, mcL_l, mcQ_q, hg_hp, hp_hp, List.getD_cons_zero, List.getD_cons_succ, List.set_cons_zero, List.set_cons_succ, List.length_cons, List.length_nil, Nat.reduceAdd, Nat.reduceLT, Nat.reduceEqDiff, Nat.lt_add_one, decide_true, decide_false, Bool.and_true, Bool.true_and, Bool.and_false, Bool.false_and, Bool.false_eq_true, if_true, if_false, ↓reduceIte, Option.bind_some, Option.bind_none, kont_v, kont_n, FM_23, FM_24, FM_25, FM_26, FM_27, FM_28, FM_29, FM_30, FMp_23, FMp_24, FMp_25, FMp_26, FMp_27, FMp_28, FMp_29, FMp_30, FOO_len, FOO_0, FOO_1, FOO_2, FOO_3, FOO_4, FOO_5, FOO_6, FOO_7, FOO_8, FOO_9, FOO_10, FOO_11, FOO_12, FOOs_8, FOOs_9, FOOs_10, FOOs_11, FOOs_12, true_or, or_true, Nat.zero_le, al, c_within, w, one0, r1, c1]
theorem c_tellsOf (L : LG B 1 D) {mm : Int32} (h31 : hg B 31 = oB 6 [.ref 1, .ref 22, .ref 23, .ref 32, .ref 34, .ref 35, .ref 36, .int mm]) {A q : Nat → Int32} (T : TAB B 32 33 16 6 16 A) (hA : ∀ i, i < 96 → A i = q i) {a x : Nat} (ha : a < 16) {len dp ft wt : Int32} {vl : Int64} {sg lt : Nat → Int32} {y : LVS} {code : Int32} {len' dp' ft' wt' : Int32} {vl' : Int64} {sg' lt' : Nat → Int32} {y' : LVS} (er : (ev X 24 0 [.ref 23, .int (nI x), .float 0, .float 0] [] (FMH B len dp ft wt vl sg (ltu q (D.2.1 1) a lt) y)) = some (some (.int (code)), (FMH B len' dp' ft' wt' vl' sg' lt' y'))) : (ev X 69 0 [.ref 31, .int (nI x), .int (nI a)] [] (FMH B len dp ft wt vl sg lt y)) = some (some (.long (vl')), (FMH B len' dp' ft' wt' vl' sg' lt' y')) := by
  have o31 : ∀ lt, hg (FMH B len dp ft wt vl sg lt y) 31 = oB 6 [.ref 1, .ref 22, .ref 23, .ref 32, .ref 34, .ref 35, .ref 36, .int mm] := fun lt => (FM_o (by omega)).trans h31
  have oT : ∀ lt, TAB (FMH B len dp ft wt vl sg lt y) 32 33 16 6 16 A := fun lt => T.same (FM_o (by omega)) (FM_o (by omega))
  have oL := fun lt => FM_lg (len := len) (dp := dp) (ft := ft) (wt := wt) (vl := vl) (sg := sg) (lt := lt) (x := y) L
  have v := fun lt => c_val (X := X) (o31 lt) (oT lt) hA ha
  have v0 := fun lt => (v lt).1
  have v1 := fun lt => (v lt).2.1
  have v2 := fun lt => (v lt).2.2.1
  have v3 := fun lt => (v lt).2.2.2
  have g4 := fun lt => (lt1 (oL lt)).get' (X := X) (r := a) (q := 2) rfl (q' := 2) rfl ha (by decide)
  have g5 : ∀ lt, (ev X 103 0 [.ref 32, .int (nI a), .int 4, .float 0] [] (FMH B len dp ft wt vl sg lt y)) = some (some (.int (q (a * 6 + 4))), (FMH B len dp ft wt vl sg lt y)) := fun lt => by
    have := (oT lt).get' (X := X) (r := a) (q := 4) rfl (q' := 4) rfl ha (by decide)
    rw [hA _ (by omega)] at this
    exact this
  have g6 : ∀ lt, (ev X 103 0 [.ref 32, .int (nI a), .int 5, .float 0] [] (FMH B len dp ft wt vl sg lt y)) = some (some (.int (q (a * 6 + 5))), (FMH B len dp ft wt vl sg lt y)) := fun lt => by
    have := (oT lt).get' (X := X) (r := a) (q := 5) rfl (q' := 5) rfl ha (by decide)
    rw [hA _ (by omega)] at this
    exact this
  have w0 : ∀ lt v, _ := fun lt v => c_setLetter (X := X) (B := B) (len := len) (dp := dp) (ft := ft) (wt := wt) (vl := vl) (sg := sg) (y := y) (lt := lt) (v := v) (k := 0) (k' := 0) rfl (by omega)
  have w1 : ∀ lt v, _ := fun lt v => c_setLetter (X := X) (B := B) (len := len) (dp := dp) (ft := ft) (wt := wt) (vl := vl) (sg := sg) (y := y) (lt := lt) (v := v) (k := 1) (k' := 1) rfl (by omega)
  have w2 : ∀ lt v, _ := fun lt v => c_setLetter (X := X) (B := B) (len := len) (dp := dp) (ft := ft) (wt := wt) (vl := vl) (sg := sg) (y := y) (lt := lt) (v := v) (k := 2) (k' := 2) rfl (by omega)
  have w3 : ∀ lt v, _ := fun lt v => c_setLetter (X := X) (B := B) (len := len) (dp := dp) (ft := ft) (wt := wt) (vl := vl) (sg := sg) (y := y) (lt := lt) (v := v) (k := 3) (k' := 3) rfl (by omega)
  have w4 : ∀ lt v, _ := fun lt v => c_setLetter (X := X) (B := B) (len := len) (dp := dp) (ft := ft) (wt := wt) (vl := vl) (sg := sg) (y := y) (lt := lt) (v := v) (k := 4) (k' := 4) rfl (by omega)
  have w5 : ∀ lt v, _ := fun lt v => c_setLetter (X := X) (B := B) (len := len) (dp := dp) (ft := ft) (wt := wt) (vl := vl) (sg := sg) (y := y) (lt := lt) (v := v) (k := 5) (k' := 5) rfl (by omega)
  have w6 : ∀ lt v, _ := fun lt v => c_setLetter (X := X) (B := B) (len := len) (dp := dp) (ft := ft) (wt := wt) (vl := vl) (sg := sg) (y := y) (lt := lt) (v := v) (k := 6) (k' := 6) rfl (by omega)
  have l0 := fun lt => lgo (oL lt)
  have t1 := fun lt => (lt1 (oL lt)).1
  have t32 := fun lt => (oT lt).1
  have o31' : hg (FMH B len' dp' ft' wt' vl' sg' lt' y') 31 = oB 6 [.ref 1, .ref 22, .ref 23, .ref 32, .ref 34, .ref 35, .ref 36, .int mm] := (FM_o (by omega)).trans h31
  have cat : (Value.int code).category = 1 := rfl
  unfold ltu at er
  simp only [s69_0, s69_1, s69_4, s69_5, s69_6, s69_7, s69_8, s69_11, s69_14, s69_15, s69_18, s69_19, s69_20, s69_21, s69_22, s69_25, s69_28, s69_29, s69_32, s69_33, s69_34, s69_35, s69_36, s69_39, s69_42, s69_43, s69_46, s69_47, s69_48, s69_49, s69_50, s69_53, s69_56, s69_57, s69_60, s69_61, s69_62, s69_65, s69_68, s69_69, s69_70, s69_73, s69_76, s69_77, s69_80, s69_81, s69_82, s69_85, s69_86, s69_87, s69_90, s69_93, s69_94, s69_97, s69_99, s69_100, s69_103, s69_104, s69_105, s69_108, s69_111, s69_112, s69_115, s69_116, s69_119, s69_120, s69_121, s69_124, s69_127, okF, okA, mcC_o, mcF_o, mcT_i, mcT_l, mcT_z, mcT_q, mcN_i, mcN_l, mcN_z, mcN_q, mcI_i, mcI_z, mcL_l, mcQ_q, hg_hp, hp_hp, List.getD_cons_zero, List.getD_cons_succ, List.set_cons_zero, List.set_cons_succ, List.length_cons, List.length_nil, Nat.reduceAdd, Nat.reduceLT, Nat.reduceEqDiff, Nat.lt_add_one, decide_true, decide_false, Bool.and_true, Bool.true_and, Bool.and_false, Bool.false_and, Bool.false_eq_true, if_true, if_false, ↓reduceIte, Option.bind_some, Option.bind_none, kont_v, kont_n, FM_23, FOO_len, FOO_12, o31, o31', v0, v1, v2, v3, g4, g5, g6, w0, w1, w2, w3, w4, w5, w6, l0, t1, t32, er]
/-- what the reference names -/
theorem m_named {io wl pl sp wa se bc sv bq : Int32} (h0 : hg H 55 = oB 12 (MO io wl pl sp wa se bc sv bq)) (c56 : hg H 56 = iA 16450 S) {q A0 A1 A2 A3 A4 A5 : Nat → Int32} (c64 : hg H 64 = iA 16 A1) (c65 : hg H 65 = iA 16 A0) (c66 : hg H 66 = iA 16 A2) (c67 : hg H 67 = iA 16 A3) (c68 : hg H 68 = iA 16 A4) (c69 : hg H 69 = iA 16 A5) (k1 : ∀ f, f < 16 → A1 f = q (f * 6 + 1)) (k0 : ∀ f, f < 16 → A0 f = q (f * 6)) (k2 : ∀ f, f < 16 → A2 f = q (f * 6 + 2)) (k3 : ∀ f, f < 16 → A3 f = q (f * 6 + 3)) (k4 : ∀ f, f < 16 → A4 f = q (f * 6 + 4)) (k5 : ∀ f, f < 16 → A5 f = q (f * 6 + 5)) {f1 : Nat → Int32} (es : ∀ f, f < 16 → S (70 + 3 * f + 2) = f1 (f * 3 + 2)) {a : Nat} (ha : a < 16) {l : Int32} : (ev X 203 0 [.ref 55, .int (nI a), .int l] [] (H)) = some (some (.long (nmF q f1 a l)), (H)) := by
  have wn := m_winsOf (X := X) h0 c64 c65 k0 k1 ha
  have se := m_seedE (X := X) h0 c56 es ha
  have r1 : inR (nI a) 16 = true := inR_n ha (by decide)
  have c1 : (nI a).toNatClampNeg = a := nI_clamp (by omega)
  have a1 := k1 a ha
  have a2 := k2 a ha
  have a3 := k3 a ha
  have a4 := k4 a ha
  have a5 := k5 a ha
  unfold nmF
  by_cases z0 : l = 0
  · subst z0
    rw [if_pos rfl]
    simp only [s203_0, s203_1_0, s203_0, s203_40, s203_41, s203_42, s203_45, s203_46, s203_47, s203_48, s203_51, s203_52, s203_53, s203_54, s203_57, s203_58, s203_59, s203_60, s203_61, s203_62, s203_63, s203_66, s203_67, s203_68, s203_69, s203_70, s203_71, s203_74, s203_75, s203_76, s203_77, s203_78, s203_79, s203_80, s203_83, s203_84, s203_85, s203_86, s203_89, s203_90, s203_91, s203_92, s203_93, s203_94, s203_97, s203_98, s203_99, s203_100, okF, okA, mcC_o, mcF_o, mcT_i, mcT_l, mcT_z, mcT_q, mcN_i, mcN_l, mcN_z, mcN_q, mcI_i, mcI_z, mcL_l, mcQ_q, hg_hp, hp_hp, List.getD_cons_zero, List.getD_cons_succ, List.set_cons_zero, List.set_cons_succ, List.length_cons, List.length_nil, Nat.reduceAdd, Nat.reduceLT, Nat.reduceEqDiff, Nat.lt_add_one, decide_true, decide_false, Bool.and_true, Bool.true_and, Bool.and_false, Bool.false_and, Bool.false_eq_true, if_true, if_false, ↓reduceIte, Option.bind_some, Option.bind_none, kont_v, kont_n, h0, wn]
  rw [if_neg z0]
  by_cases z1 : l = 1
  · subst z1
    rw [if_pos rfl]
    simp only [s203_0, s203_1_1, s203_0, s203_40, s203_41, s203_42, s203_45, s203_46, s203_47, s203_48, s203_51, s203_52, s203_53, s203_54, s203_57, s203_58, s203_59, s203_60, s203_61, s203_62, s203_63, s203_66, s203_67, s203_68, s203_69, s203_70, s203_71, s203_74, s203_75, s203_76, s203_77, s203_78, s203_79, s203_80, s203_83, s203_84, s203_85, s203_86, s203_89, s203_90, s203_91, s203_92, s203_93, s203_94, s203_97, s203_98, s203_99, s203_100, okF, okA, mcC_o, mcF_o, mcT_i, mcT_l, mcT_z, mcT_q, mcN_i, mcN_l, mcN_z, mcN_q, mcI_i, mcI_z, mcL_l, mcQ_q, hg_hp, hp_hp, List.getD_cons_zero, List.getD_cons_succ, List.set_cons_zero, List.set_cons_succ, List.length_cons, List.length_nil, Nat.reduceAdd, Nat.reduceLT, Nat.reduceEqDiff, Nat.lt_add_one, decide_true, decide_false, Bool.and_true, Bool.true_and, Bool.and_false, Bool.false_and, Bool.false_eq_true, if_true, if_false, ↓reduceIte, Option.bind_some, Option.bind_none, kont_v, kont_n, h0, MO_len, MO_12, MO_13, c66, c67, r1, c1, a2, a3]
    rfl
  rw [if_neg z1]
  by_cases z2 : l = 2
  · subst z2
    rw [if_pos rfl]
    simp only [s203_0, s203_1_2, s203_0, s203_40, s203_41, s203_42, s203_45, s203_46, s203_47, s203_48, s203_51, s203_52, s203_53, s203_54, s203_57, s203_58, s203_59, s203_60, s203_61, s203_62, s203_63, s203_66, s203_67, s203_68, s203_69, s203_70, s203_71, s203_74, s203_75, s203_76, s203_77, s203_78, s203_79, s203_80, s203_83, s203_84, s203_85, s203_86, s203_89, s203_90, s203_91, s203_92, s203_93, s203_94, s203_97, s203_98, s203_99, s203_100, okF, okA, mcC_o, mcF_o, mcT_i, mcT_l, mcT_z, mcT_q, mcN_i, mcN_l, mcN_z, mcN_q, mcI_i, mcI_z, mcL_l, mcQ_q, hg_hp, hp_hp, List.getD_cons_zero, List.getD_cons_succ, List.set_cons_zero, List.set_cons_succ, List.length_cons, List.length_nil, Nat.reduceAdd, Nat.reduceLT, Nat.reduceEqDiff, Nat.lt_add_one, decide_true, decide_false, Bool.and_true, Bool.true_and, Bool.and_false, Bool.false_and, Bool.false_eq_true, if_true, if_false, ↓reduceIte, Option.bind_some, Option.bind_none, kont_v, kont_n, h0, MO_len, MO_12, c66, r1, c1, a2]
  rw [if_neg z2]
  by_cases z3 : l = 3
  · subst z3
    rw [if_pos rfl]
    simp only [s203_0, s203_1_3, s203_0, s203_40, s203_41, s203_42, s203_45, s203_46, s203_47, s203_48, s203_51, s203_52, s203_53, s203_54, s203_57, s203_58, s203_59, s203_60, s203_61, s203_62, s203_63, s203_66, s203_67, s203_68, s203_69, s203_70, s203_71, s203_74, s203_75, s203_76, s203_77, s203_78, s203_79, s203_80, s203_83, s203_84, s203_85, s203_86, s203_89, s203_90, s203_91, s203_92, s203_93, s203_94, s203_97, s203_98, s203_99, s203_100, okF, okA, mcC_o, mcF_o, mcT_i, mcT_l, mcT_z, mcT_q, mcN_i, mcN_l, mcN_z, mcN_q, mcI_i, mcI_z, mcL_l, mcQ_q, hg_hp, hp_hp, List.getD_cons_zero, List.getD_cons_succ, List.set_cons_zero, List.set_cons_succ, List.length_cons, List.length_nil, Nat.reduceAdd, Nat.reduceLT, Nat.reduceEqDiff, Nat.lt_add_one, decide_true, decide_false, Bool.and_true, Bool.true_and, Bool.and_false, Bool.false_and, Bool.false_eq_true, if_true, if_false, ↓reduceIte, Option.bind_some, Option.bind_none, kont_v, kont_n, h0, MO_len, MO_10, c64, r1, c1, a1]
  rw [if_neg z3]
  by_cases z4 : l = 4
  · subst z4
    rw [if_pos rfl]
    simp only [s203_0, s203_1_4, s203_0, s203_40, s203_41, s203_42, s203_45, s203_46, s203_47, s203_48, s203_51, s203_52, s203_53, s203_54, s203_57, s203_58, s203_59, s203_60, s203_61, s203_62, s203_63, s203_66, s203_67, s203_68, s203_69, s203_70, s203_71, s203_74, s203_75, s203_76, s203_77, s203_78, s203_79, s203_80, s203_83, s203_84, s203_85, s203_86, s203_89, s203_90, s203_91, s203_92, s203_93, s203_94, s203_97, s203_98, s203_99, s203_100, okF, okA, mcC_o, mcF_o, mcT_i, mcT_l, mcT_z, mcT_q, mcN_i, mcN_l, mcN_z, mcN_q, mcI_i, mcI_z, mcL_l, mcQ_q, hg_hp, hp_hp, List.getD_cons_zero, List.getD_cons_succ, List.set_cons_zero, List.set_cons_succ, List.length_cons, List.length_nil, Nat.reduceAdd, Nat.reduceLT, Nat.reduceEqDiff, Nat.lt_add_one, decide_true, decide_false, Bool.and_true, Bool.true_and, Bool.and_false, Bool.false_and, Bool.false_eq_true, if_true, if_false, ↓reduceIte, Option.bind_some, Option.bind_none, kont_v, kont_n, h0, se]
  rw [if_neg z4]
  by_cases z5 : l = 5
  · subst z5
    rw [if_pos rfl]
    simp only [s203_0, s203_1_5, s203_0, s203_40, s203_41, s203_42, s203_45, s203_46, s203_47, s203_48, s203_51, s203_52, s203_53, s203_54, s203_57, s203_58, s203_59, s203_60, s203_61, s203_62, s203_63, s203_66, s203_67, s203_68, s203_69, s203_70, s203_71, s203_74, s203_75, s203_76, s203_77, s203_78, s203_79, s203_80, s203_83, s203_84, s203_85, s203_86, s203_89, s203_90, s203_91, s203_92, s203_93, s203_94, s203_97, s203_98, s203_99, s203_100, okF, okA, mcC_o, mcF_o, mcT_i, mcT_l, mcT_z, mcT_q, mcN_i, mcN_l, mcN_z, mcN_q, mcI_i, mcI_z, mcL_l, mcQ_q, hg_hp, hp_hp, List.getD_cons_zero, List.getD_cons_succ, List.set_cons_zero, List.set_cons_succ, List.length_cons, List.length_nil, Nat.reduceAdd, Nat.reduceLT, Nat.reduceEqDiff, Nat.lt_add_one, decide_true, decide_false, Bool.and_true, Bool.true_and, Bool.and_false, Bool.false_and, Bool.false_eq_true, if_true, if_false, ↓reduceIte, Option.bind_some, Option.bind_none, kont_v, kont_n, h0, MO_len, MO_14, c68, r1, c1, a4]
  rw [if_neg z5]
  have hx : l.toInt < 0 ∨ 5 < l.toInt := by
    by_cases g : l.toInt < 0
    · exact Or.inl g
    · refine Or.inr (Classical.byContradiction (fun n => ?_))
      have nl : ¬ l < 0 := by rw [Int32.lt_iff_toInt_lt, z_toInt]; exact g
      obtain ⟨j, hj, rfl⟩ := nI_of nl
      rw [nI_toInt hj] at g n
      rcases (by omega : j = 0 ∨ j = 1 ∨ j = 2 ∨ j = 3 ∨ j = 4 ∨ j = 5) with rfl | rfl | rfl | rfl | rfl | rfl
      · exact z0 rfl
      · exact z1 rfl
      · exact z2 rfl
      · exact z3 rfl
      · exact z4 rfl
      · exact z5 rfl
  rw [s203_0, s203_1_d hx]
  simp only [s203_40, s203_41, s203_42, s203_45, s203_46, s203_47, s203_48, s203_51, s203_52, s203_53, s203_54, s203_57, s203_58, s203_59, s203_60, s203_61, s203_62, s203_63, s203_66, s203_67, s203_68, s203_69, s203_70, s203_71, s203_74, s203_75, s203_76, s203_77, s203_78, s203_79, s203_80, s203_83, s203_84, s203_85, s203_86, s203_89, s203_90, s203_91, s203_92, s203_93, s203_94, s203_97, s203_98, s203_99, s203_100, okF, okA, mcC_o, mcF_o, mcT_i, mcT_l, mcT_z, mcT_q, mcN_i, mcN_l, mcN_z, mcN_q, mcI_i, mcI_z, mcL_l, mcQ_q, hg_hp, hp_hp, List.getD_cons_zero, List.getD_cons_succ, List.set_cons_zero, List.set_cons_succ, List.length_cons, List.length_nil, Nat.reduceAdd, Nat.reduceLT, Nat.reduceEqDiff, Nat.lt_add_one, decide_true, decide_false, Bool.and_true, Bool.true_and, Bool.and_false, Bool.false_and, Bool.false_eq_true, if_true, if_false, ↓reduceIte, Option.bind_some, Option.bind_none, kont_v, kont_n, h0, MO_len, MO_15, c69, r1, c1, a5]
theorem m_te_lp {Z9 : List Value} {nm : Int32 → Int64} {st wj : Nat → Int32} {V0 : Nat → Int64} {ns a : Nat} {io wl pl wa se bc sv bq : Int32} (h0 : hg H 55 = oB 12 (MO io wl pl (nI ns) wa se bc sv bq)) (h72 : hg H 72 = iA 60 st) (h73 : hg H 73 = iA 60 wj) (hns : ns ≤ 60) (hv : VLD nm st wj V0 ns) (hnm : ∀ V l, (ev X 203 0 [.ref 55, .int (nI a), .int l] [] (hp H 75 (lA 60 V))) = some (some (.long (nm l)), (hp H 75 (lA 60 V)))) : ∀ (d k : Nat) (a4 a5 a6 a7 a8 : Value), k + d = ns → ev X 202 4 [.ref 55, .int (nI a), .int (nI (rpn nm st wj V0 k).1), .int (nI k), a4, a5, a6, a7, a8] [] (hp H 75 (lA 60 (rpn nm st wj V0 k).2)) = some (some (.long ((rpn nm st wj V0 ns).2 0)), (hp H 75 (lA 60 (rpn nm st wj V0 ns).2))) := by
  intro d
  induction d with
  | zero =>
    intro k a4 a5 a6 a7 a8 e
    have e : k = ns := by omega
    have l := nI_nlt (Nat.le_refl ns) (by omega)
    have r0 : inR 0 60 = true := by decide
    have c0 : (0 : Int32).toNatClampNeg = 0 := by decide
    subst e
    rw [s202_4]
    simp only [s202_0, s202_1, s202_2, s202_3, s202_5, s202_6, s202_9, s202_12, s202_13, s202_16, s202_17, s202_18, s202_20, s202_22, s202_25, s202_27, s202_28, s202_31, s202_32, s202_35, s202_36, s202_38, s202_41, s202_42, s202_45, s202_46, s202_47, s202_48, s202_51, s202_52, s202_53, s202_54, s202_57, s202_58, s202_59, s202_62, s202_63, s202_66, s202_69, s202_71, s202_72, s202_75, s202_76, s202_79, s202_80, s202_81, s202_82, s202_83, s202_86, s202_87, s202_88, s202_89, s202_90, s202_91, s202_92, s202_95, s202_98, s202_99, s202_102, s202_103, s202_104, s202_105, s202_106, s202_108, s202_109, s202_112, s202_113, s202_114, s202_116, s202_117, s202_120, s202_121, s202_122, s202_123, s202_125, s202_126, s202_129, s202_131, s202_133, s202_134, s202_137, s202_139, s202_140, s202_143, s202_145, s202_146, s202_147, s202_150, s202_151, s202_154, s202_156, s202_158, s202_159, s202_162, s202_164, s202_165, s202_168, s202_170, s202_172, s202_173, s202_176, s202_178, s202_180, s202_181, s202_182, s202_185, s202_188, s202_189, s202_192, s202_193, s202_194, okF, okA, mcC_o, mcF_o, mcT_i, mcT_l, mcT_z, mcT_q, mcN_i, mcN_l, mcN_z, mcN_q, mcI_i, mcI_z, mcL_l, mcQ_q, hg_hp, hp_hp, List.getD_cons_zero, List.getD_cons_succ, List.set_cons_zero, List.set_cons_succ, List.length_cons, List.length_nil, Nat.reduceAdd, Nat.reduceLT, Nat.reduceEqDiff, Nat.lt_add_one, decide_true, decide_false, Bool.and_true, Bool.true_and, Bool.and_false, Bool.false_and, Bool.false_eq_true, if_true, if_false, ↓reduceIte, Option.bind_some, Option.bind_none, kont_v, kont_n, h0, MO_len, MO_19, MO_24, l, r0, c0]
  | succ d ih =>
    intro k a4 a5 a6 a7 a8 e
    have l := nI_lt (show k < ns by omega) (by omega)
    have p1 : nI k + 1 = nI (k + 1) := nI_add k 1
    have r1 : inR (nI k) 60 = true := inR_n (by omega) (by decide)
    have c1 : (nI k).toNatClampNeg = k := nI_clamp (by omega)
    have ih := fun a4 a5 a6 a7 a8 => ih (k + 1) a4 a5 a6 a7 a8 (by omega)
    have vk := hv k (by omega)
    have le := rpn_le (nm := nm) (st := st) (wj := wj) (V0 := V0) k
    have rs : rpn nm st wj V0 (k + 1) = rstep (st k) (opv nm (st k) (wj k)) (rpn nm st wj V0 k) := rfl
    rw [rs] at ih
    generalize rpn nm st wj V0 k = s at vk ih le ⊢
    obtain ⟨nv, V⟩ := s
    generalize hst : st k = c at vk ih
    dsimp only at vk ih le ⊢
    rcases vk with ⟨v1, v2⟩ | ⟨v1, v2⟩ | ⟨v1, v2, v3⟩
    · have r2 : inR (nI nv) 60 = true := inR_n v2 (by decide)
      have c2 : (nI nv).toNatClampNeg = nv := nI_clamp (by omega)
      have p2 : nI nv + 1 = nI (nv + 1) := nI_add nv 1
      unfold rstep at ih
      rw [if_pos v1] at ih
      dsimp only at ih
      rcases v1 with rfl | rfl
      · unfold opv at ih
        rw [if_pos rfl] at ih
        have e0 : ((0 : Int32) = 0) = True := eq_true rfl
        rw [← ih (.int 0) a5 a6 a7 a8, s202_4]
        simp only [s202_0, s202_1, s202_2, s202_3, s202_5, s202_6, s202_9, s202_12, s202_13, s202_16, s202_17, s202_18, s202_20, s202_22, s202_25, s202_27, s202_28, s202_31, s202_32, s202_35, s202_36, s202_38, s202_41, s202_42, s202_45, s202_46, s202_47, s202_48, s202_51, s202_52, s202_53, s202_54, s202_57, s202_58, s202_59, s202_62, s202_63, s202_66, s202_69, s202_71, s202_72, s202_75, s202_76, s202_79, s202_80, s202_81, s202_82, s202_83, s202_86, s202_87, s202_88, s202_89, s202_90, s202_91, s202_92, s202_95, s202_98, s202_99, s202_102, s202_103, s202_104, s202_105, s202_106, s202_108, s202_109, s202_112, s202_113, s202_114, s202_116, s202_117, s202_120, s202_121, s202_122, s202_123, s202_125, s202_126, s202_129, s202_131, s202_133, s202_134, s202_137, s202_139, s202_140, s202_143, s202_145, s202_146, s202_147, s202_150, s202_151, s202_154, s202_156, s202_158, s202_159, s202_162, s202_164, s202_165, s202_168, s202_170, s202_172, s202_173, s202_176, s202_178, s202_180, s202_181, s202_182, s202_185, s202_188, s202_189, s202_192, s202_193, s202_194, okF, okA, mcC_o, mcF_o, mcT_i, mcT_l, mcT_z, mcT_q, mcN_i, mcN_l, mcN_z, mcN_q, mcI_i, mcI_z, mcL_l, mcQ_q, hg_hp, hp_hp, List.getD_cons_zero, List.getD_cons_succ, List.set_cons_zero, List.set_cons_succ, List.length_cons, List.length_nil, Nat.reduceAdd, Nat.reduceLT, Nat.reduceEqDiff, Nat.lt_add_one, decide_true, decide_false, Bool.and_true, Bool.true_and, Bool.and_false, Bool.false_and, Bool.false_eq_true, if_true, if_false, ↓reduceIte, Option.bind_some, Option.bind_none, kont_v, kont_n, h0, h72, h73, hst, MO_len, MO_19, MO_20, MO_21, MO_24, l, r1, c1, r2, c2, p1, p2, e0]
      · have n10 : ¬ (1 : Int32) = 0 := by decide
        unfold opv at ih
        rw [if_neg n10] at ih
        have e1 : ((1 : Int32) = 1) = True := eq_true rfl
        rw [← ih (.int 1) a5 a6 a7 a8, s202_4]
        simp only [s202_0, s202_1, s202_2, s202_3, s202_5, s202_6, s202_9, s202_12, s202_13, s202_16, s202_17, s202_18, s202_20, s202_22, s202_25, s202_27, s202_28, s202_31, s202_32, s202_35, s202_36, s202_38, s202_41, s202_42, s202_45, s202_46, s202_47, s202_48, s202_51, s202_52, s202_53, s202_54, s202_57, s202_58, s202_59, s202_62, s202_63, s202_66, s202_69, s202_71, s202_72, s202_75, s202_76, s202_79, s202_80, s202_81, s202_82, s202_83, s202_86, s202_87, s202_88, s202_89, s202_90, s202_91, s202_92, s202_95, s202_98, s202_99, s202_102, s202_103, s202_104, s202_105, s202_106, s202_108, s202_109, s202_112, s202_113, s202_114, s202_116, s202_117, s202_120, s202_121, s202_122, s202_123, s202_125, s202_126, s202_129, s202_131, s202_133, s202_134, s202_137, s202_139, s202_140, s202_143, s202_145, s202_146, s202_147, s202_150, s202_151, s202_154, s202_156, s202_158, s202_159, s202_162, s202_164, s202_165, s202_168, s202_170, s202_172, s202_173, s202_176, s202_178, s202_180, s202_181, s202_182, s202_185, s202_188, s202_189, s202_192, s202_193, s202_194, okF, okA, mcC_o, mcF_o, mcT_i, mcT_l, mcT_z, mcT_q, mcN_i, mcN_l, mcN_z, mcN_q, mcI_i, mcI_z, mcL_l, mcQ_q, hg_hp, hp_hp, List.getD_cons_zero, List.getD_cons_succ, List.set_cons_zero, List.set_cons_succ, List.length_cons, List.length_nil, Nat.reduceAdd, Nat.reduceLT, Nat.reduceEqDiff, Nat.lt_add_one, decide_true, decide_false, Bool.and_true, Bool.true_and, Bool.and_false, Bool.false_and, Bool.false_eq_true, if_true, if_false, ↓reduceIte, Option.bind_some, Option.bind_none, kont_v, kont_n, h0, h72, h73, hst, MO_len, MO_19, MO_20, MO_21, MO_24, l, r1, c1, r2, c2, p1, p2, n10, e1, hnm]
    · subst v1
      obtain ⟨m, rfl⟩ : ∃ m, nv = m + 1 := ⟨nv - 1, by omega⟩
      have rm : inR (nI m) 60 = true := inR_n (by omega) (by decide)
      have cm : (nI m).toNatClampNeg = m := nI_clamp (by omega)
      have pm : nI (m + 1) - 1 = nI m := nI_pred m
      have n20 : ¬ (2 : Int32) = 0 := by decide
      have n21 : ¬ (2 : Int32) = 1 := by decide
      have e2 : ((2 : Int32) = 2) = True := eq_true rfl
      unfold rstep at ih
      rw [if_neg (by decide), if_pos rfl] at ih
      dsimp only at ih
      rw [Nat.add_sub_cancel] at ih
      rw [← ih (.int 2) a5 a6 a7 a8, s202_4]
      simp only [s202_0, s202_1, s202_2, s202_3, s202_5, s202_6, s202_9, s202_12, s202_13, s202_16, s202_17, s202_18, s202_20, s202_22, s202_25, s202_27, s202_28, s202_31, s202_32, s202_35, s202_36, s202_38, s202_41, s202_42, s202_45, s202_46, s202_47, s202_48, s202_51, s202_52, s202_53, s202_54, s202_57, s202_58, s202_59, s202_62, s202_63, s202_66, s202_69, s202_71, s202_72, s202_75, s202_76, s202_79, s202_80, s202_81, s202_82, s202_83, s202_86, s202_87, s202_88, s202_89, s202_90, s202_91, s202_92, s202_95, s202_98, s202_99, s202_102, s202_103, s202_104, s202_105, s202_106, s202_108, s202_109, s202_112, s202_113, s202_114, s202_116, s202_117, s202_120, s202_121, s202_122, s202_123, s202_125, s202_126, s202_129, s202_131, s202_133, s202_134, s202_137, s202_139, s202_140, s202_143, s202_145, s202_146, s202_147, s202_150, s202_151, s202_154, s202_156, s202_158, s202_159, s202_162, s202_164, s202_165, s202_168, s202_170, s202_172, s202_173, s202_176, s202_178, s202_180, s202_181, s202_182, s202_185, s202_188, s202_189, s202_192, s202_193, s202_194, okF, okA, mcC_o, mcF_o, mcT_i, mcT_l, mcT_z, mcT_q, mcN_i, mcN_l, mcN_z, mcN_q, mcI_i, mcI_z, mcL_l, mcQ_q, hg_hp, hp_hp, List.getD_cons_zero, List.getD_cons_succ, List.set_cons_zero, List.set_cons_succ, List.length_cons, List.length_nil, Nat.reduceAdd, Nat.reduceLT, Nat.reduceEqDiff, Nat.lt_add_one, decide_true, decide_false, Bool.and_true, Bool.true_and, Bool.and_false, Bool.false_and, Bool.false_eq_true, if_true, if_false, ↓reduceIte, Option.bind_some, Option.bind_none, kont_v, kont_n, h0, h72, h73, hst, MO_len, MO_19, MO_20, MO_21, MO_24, l, r1, c1, rm, cm, p1, pm, n20, n21, e2]
    · obtain ⟨m, rfl⟩ : ∃ m, nv = m + 2 := ⟨nv - 2, by omega⟩
      have rm : inR (nI m) 60 = true := inR_n (by omega) (by decide)
      have cm : (nI m).toNatClampNeg = m := nI_clamp (by omega)
      have rm1 : inR (nI (m + 1)) 60 = true := inR_n (by omega) (by decide)
      have cm1 : (nI (m + 1)).toNatClampNeg = m + 1 := nI_clamp (by omega)
      have pm : nI (m + 1) - 1 = nI m := nI_pred m
      have pm2 : nI (m + 2) + -1 = nI (m + 1) := by rw [← Int32.sub_eq_add_neg]; exact nI_pred (m + 1)
      have n20 := eq_false (fun z => v1 (Or.inl z))
      have n21 := eq_false (fun z => v1 (Or.inr z))
      have n22 := eq_false v2
      unfold rstep at ih
      rw [if_neg v1, if_neg v2] at ih
      dsimp only at ih
      rw [show m + 2 - 1 = m + 1 by omega, show m + 2 - 2 = m by omega] at ih
      rw [← ih (.int c) (.long (V m)) (.float 0) (.long (V (m + 1))) (.float 0)]
      unfold bop
      by_cases d3 : c = 3
      · have d3' := eq_true d3
        rw [if_pos d3, s202_4]
        simp only [s202_0, s202_1, s202_2, s202_3, s202_5, s202_6, s202_9, s202_12, s202_13, s202_16, s202_17, s202_18, s202_20, s202_22, s202_25, s202_27, s202_28, s202_31, s202_32, s202_35, s202_36, s202_38, s202_41, s202_42, s202_45, s202_46, s202_47, s202_48, s202_51, s202_52, s202_53, s202_54, s202_57, s202_58, s202_59, s202_62, s202_63, s202_66, s202_69, s202_71, s202_72, s202_75, s202_76, s202_79, s202_80, s202_81, s202_82, s202_83, s202_86, s202_87, s202_88, s202_89, s202_90, s202_91, s202_92, s202_95, s202_98, s202_99, s202_102, s202_103, s202_104, s202_105, s202_106, s202_108, s202_109, s202_112, s202_113, s202_114, s202_116, s202_117, s202_120, s202_121, s202_122, s202_123, s202_125, s202_126, s202_129, s202_131, s202_133, s202_134, s202_137, s202_139, s202_140, s202_143, s202_145, s202_146, s202_147, s202_150, s202_151, s202_154, s202_156, s202_158, s202_159, s202_162, s202_164, s202_165, s202_168, s202_170, s202_172, s202_173, s202_176, s202_178, s202_180, s202_181, s202_182, s202_185, s202_188, s202_189, s202_192, s202_193, s202_194, okF, okA, mcC_o, mcF_o, mcT_i, mcT_l, mcT_z, mcT_q, mcN_i, mcN_l, mcN_z, mcN_q, mcI_i, mcI_z, mcL_l, mcQ_q, hg_hp, hp_hp, List.getD_cons_zero, List.getD_cons_succ, List.set_cons_zero, List.set_cons_succ, List.length_cons, List.length_nil, Nat.reduceAdd, Nat.reduceLT, Nat.reduceEqDiff, Nat.lt_add_one, decide_true, decide_false, Bool.and_true, Bool.true_and, Bool.and_false, Bool.false_and, Bool.false_eq_true, if_true, if_false, ↓reduceIte, Option.bind_some, Option.bind_none, kont_v, kont_n, h0, h72, h73, hst, MO_len, MO_19, MO_20, MO_21, MO_24, l, r1, c1, rm, cm, p1, pm, n20, n21, n22, rm1, cm1, pm2, d3']
      have d3' := eq_false d3
      rw [if_neg d3]
      by_cases d4 : c = 4
      · have d4' := eq_true d4
        rw [if_pos d4]
        by_cases b0 : V (m + 1) = 0
        · have b0' := eq_true (cmp_0 b0)
          rw [if_pos b0, s202_4]
          simp only [s202_0, s202_1, s202_2, s202_3, s202_5, s202_6, s202_9, s202_12, s202_13, s202_16, s202_17, s202_18, s202_20, s202_22, s202_25, s202_27, s202_28, s202_31, s202_32, s202_35, s202_36, s202_38, s202_41, s202_42, s202_45, s202_46, s202_47, s202_48, s202_51, s202_52, s202_53, s202_54, s202_57, s202_58, s202_59, s202_62, s202_63, s202_66, s202_69, s202_71, s202_72, s202_75, s202_76, s202_79, s202_80, s202_81, s202_82, s202_83, s202_86, s202_87, s202_88, s202_89, s202_90, s202_91, s202_92, s202_95, s202_98, s202_99, s202_102, s202_103, s202_104, s202_105, s202_106, s202_108, s202_109, s202_112, s202_113, s202_114, s202_116, s202_117, s202_120, s202_121, s202_122, s202_123, s202_125, s202_126, s202_129, s202_131, s202_133, s202_134, s202_137, s202_139, s202_140, s202_143, s202_145, s202_146, s202_147, s202_150, s202_151, s202_154, s202_156, s202_158, s202_159, s202_162, s202_164, s202_165, s202_168, s202_170, s202_172, s202_173, s202_176, s202_178, s202_180, s202_181, s202_182, s202_185, s202_188, s202_189, s202_192, s202_193, s202_194, okF, okA, mcC_o, mcF_o, mcT_i, mcT_l, mcT_z, mcT_q, mcN_i, mcN_l, mcN_z, mcN_q, mcI_i, mcI_z, mcL_l, mcQ_q, hg_hp, hp_hp, List.getD_cons_zero, List.getD_cons_succ, List.set_cons_zero, List.set_cons_succ, List.length_cons, List.length_nil, Nat.reduceAdd, Nat.reduceLT, Nat.reduceEqDiff, Nat.lt_add_one, decide_true, decide_false, Bool.and_true, Bool.true_and, Bool.and_false, Bool.false_and, Bool.false_eq_true, if_true, if_false, ↓reduceIte, Option.bind_some, Option.bind_none, kont_v, kont_n, h0, h72, h73, hst, MO_len, MO_19, MO_20, MO_21, MO_24, l, r1, c1, rm, cm, p1, pm, n20, n21, n22, rm1, cm1, pm2, d3', d4', b0']
        · have b0' := eq_false (cmp_n b0)
          have b1 := eq_false b0
          rw [if_neg b0, s202_4]
          simp only [s202_0, s202_1, s202_2, s202_3, s202_5, s202_6, s202_9, s202_12, s202_13, s202_16, s202_17, s202_18, s202_20, s202_22, s202_25, s202_27, s202_28, s202_31, s202_32, s202_35, s202_36, s202_38, s202_41, s202_42, s202_45, s202_46, s202_47, s202_48, s202_51, s202_52, s202_53, s202_54, s202_57, s202_58, s202_59, s202_62, s202_63, s202_66, s202_69, s202_71, s202_72, s202_75, s202_76, s202_79, s202_80, s202_81, s202_82, s202_83, s202_86, s202_87, s202_88, s202_89, s202_90, s202_91, s202_92, s202_95, s202_98, s202_99, s202_102, s202_103, s202_104, s202_105, s202_106, s202_108, s202_109, s202_112, s202_113, s202_114, s202_116, s202_117, s202_120, s202_121, s202_122, s202_123, s202_125, s202_126, s202_129, s202_131, s202_133, s202_134, s202_137, s202_139, s202_140, s202_143, s202_145, s202_146, s202_147, s202_150, s202_151, s202_154, s202_156, s202_158, s202_159, s202_162, s202_164, s202_165, s202_168, s202_170, s202_172, s202_173, s202_176, s202_178, s202_180, s202_181, s202_182, s202_185, s202_188, s202_189, s202_192, s202_193, s202_194, okF, okA, mcC_o, mcF_o, mcT_i, mcT_l, mcT_z, mcT_q, mcN_i, mcN_l, mcN_z, mcN_q, mcI_i, mcI_z, mcL_l, mcQ_q, hg_hp, hp_hp, List.getD_cons_zero, List.getD_cons_succ, List.set_cons_zero, List.set_cons_succ, List.length_cons, List.length_nil, Nat.reduceAdd, Nat.reduceLT, Nat.reduceEqDiff, Nat.lt_add_one, decide_true, decide_false, Bool.and_true, Bool.true_and, Bool.and_false, Bool.false_and, Bool.false_eq_true, if_true, if_false, ↓reduceIte, Option.bind_some, Option.bind_none, kont_v, kont_n, h0, h72, h73, hst, MO_len, MO_19, MO_20, MO_21, MO_24, l, r1, c1, rm, cm, p1, pm, n20, n21, n22, rm1, cm1, pm2, d3', d4', b0', b1]
      have d4' := eq_false d4
      rw [if_neg d4]
      by_cases d5 : c = 5
      · have d5' := eq_true d5
        rw [if_pos d5, s202_4]
        simp only [s202_0, s202_1, s202_2, s202_3, s202_5, s202_6, s202_9, s202_12, s202_13, s202_16, s202_17, s202_18, s202_20, s202_22, s202_25, s202_27, s202_28, s202_31, s202_32, s202_35, s202_36, s202_38, s202_41, s202_42, s202_45, s202_46, s202_47, s202_48, s202_51, s202_52, s202_53, s202_54, s202_57, s202_58, s202_59, s202_62, s202_63, s202_66, s202_69, s202_71, s202_72, s202_75, s202_76, s202_79, s202_80, s202_81, s202_82, s202_83, s202_86, s202_87, s202_88, s202_89, s202_90, s202_91, s202_92, s202_95, s202_98, s202_99, s202_102, s202_103, s202_104, s202_105, s202_106, s202_108, s202_109, s202_112, s202_113, s202_114, s202_116, s202_117, s202_120, s202_121, s202_122, s202_123, s202_125, s202_126, s202_129, s202_131, s202_133, s202_134, s202_137, s202_139, s202_140, s202_143, s202_145, s202_146, s202_147, s202_150, s202_151, s202_154, s202_156, s202_158, s202_159, s202_162, s202_164, s202_165, s202_168, s202_170, s202_172, s202_173, s202_176, s202_178, s202_180, s202_181, s202_182, s202_185, s202_188, s202_189, s202_192, s202_193, s202_194, okF, okA, mcC_o, mcF_o, mcT_i, mcT_l, mcT_z, mcT_q, mcN_i, mcN_l, mcN_z, mcN_q, mcI_i, mcI_z, mcL_l, mcQ_q, hg_hp, hp_hp, List.getD_cons_zero, List.getD_cons_succ, List.set_cons_zero, List.set_cons_succ, List.length_cons, List.length_nil, Nat.reduceAdd, Nat.reduceLT, Nat.reduceEqDiff, Nat.lt_add_one, decide_true, decide_false, Bool.and_true, Bool.true_and, Bool.and_false, Bool.false_and, Bool.false_eq_true, if_true, if_false, ↓reduceIte, Option.bind_some, Option.bind_none, kont_v, kont_n, h0, h72, h73, hst, MO_len, MO_19, MO_20, MO_21, MO_24, l, r1, c1, rm, cm, p1, pm, n20, n21, n22, rm1, cm1, pm2, d3', d4', d5']
      · have d5' := eq_false d5
        rw [if_neg d5, s202_4]
        simp only [s202_0, s202_1, s202_2, s202_3, s202_5, s202_6, s202_9, s202_12, s202_13, s202_16, s202_17, s202_18, s202_20, s202_22, s202_25, s202_27, s202_28, s202_31, s202_32, s202_35, s202_36, s202_38, s202_41, s202_42, s202_45, s202_46, s202_47, s202_48, s202_51, s202_52, s202_53, s202_54, s202_57, s202_58, s202_59, s202_62, s202_63, s202_66, s202_69, s202_71, s202_72, s202_75, s202_76, s202_79, s202_80, s202_81, s202_82, s202_83, s202_86, s202_87, s202_88, s202_89, s202_90, s202_91, s202_92, s202_95, s202_98, s202_99, s202_102, s202_103, s202_104, s202_105, s202_106, s202_108, s202_109, s202_112, s202_113, s202_114, s202_116, s202_117, s202_120, s202_121, s202_122, s202_123, s202_125, s202_126, s202_129, s202_131, s202_133, s202_134, s202_137, s202_139, s202_140, s202_143, s202_145, s202_146, s202_147, s202_150, s202_151, s202_154, s202_156, s202_158, s202_159, s202_162, s202_164, s202_165, s202_168, s202_170, s202_172, s202_173, s202_176, s202_178, s202_180, s202_181, s202_182, s202_185, s202_188, s202_189, s202_192, s202_193, s202_194, okF, okA, mcC_o, mcF_o, mcT_i, mcT_l, mcT_z, mcT_q, mcN_i, mcN_l, mcN_z, mcN_q, mcI_i, mcI_z, mcL_l, mcQ_q, hg_hp, hp_hp, List.getD_cons_zero, List.getD_cons_succ, List.set_cons_zero, List.set_cons_succ, List.length_cons, List.length_nil, Nat.reduceAdd, Nat.reduceLT, Nat.reduceEqDiff, Nat.lt_add_one, decide_true, decide_false, Bool.and_true, Bool.true_and, Bool.and_false, Bool.false_and, Bool.false_eq_true, if_true, if_false, ↓reduceIte, Option.bind_some, Option.bind_none, kont_v, kont_n, h0, h72, h73, hst, MO_len, MO_19, MO_20, MO_21, MO_24, l, r1, c1, rm, cm, p1, pm, n20, n21, n22, rm1, cm1, pm2, d3', d4', d5']
end TEL

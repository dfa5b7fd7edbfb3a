-- FORMULA 6: a text's beginning, fault
/-- the signs of a text of the league -/
def txn (D : LD) (x : Nat) : Nat := (D.2.1 4 (x * 51)).toNatClampNeg
def txq (D : LD) (x i : Nat) : Nat := (D.2.1 4 (x * 51 + (1 + i))).toNatClampNeg
theorem txt_ok {t : Nat} {D : LD} (N : RNG t D) {x : Nat} (hx : x < 4) : D.2.1 4 (x * 51) = nI (txn D x) ∧ txn D x ≤ 50 ∧ ∀ i, i < txn D x → D.2.1 4 (x * 51 + (1 + i)) = nI (txq D x i) ∧ txq D x i < 128 := by
  obtain ⟨m, q1, q2, q3⟩ := N.2.2.2.1 x hx
  have e : txn D x = m := by unfold txn; rw [q2, nI_clamp (by omega)]
  rw [e]
  refine ⟨q2, q1, fun i hi => ?_⟩
  obtain ⟨k, k1, k2⟩ := q3 i hi
  have e2 : txq D x i = k := by unfold txq; rw [k2, nI_clamp (by omega)]
  rw [e2]
  exact ⟨k2, k1⟩
theorem txt_T {t : Nat} {D : LD} {S : Nat → Int32} (N : RNG t D) (R : REL D S) {x : Nat} (hx : x < 4) : TXT S x (txn D x) (txq D x) ∧ S (646 + 51 * x) = nI (txn D x) := by
  obtain ⟨a, b, c⟩ := txt_ok N hx
  refine ⟨⟨hx, b, fun i hi => ?_⟩, ?_⟩
  · rw [R.s (i := 4) (c := x * 51 + (1 + i)) (by decide) (by decide) (by show x * 51 + (1 + i) < 204; omega) (by show _ = 646 + (x * 51 + (1 + i)); omega)]
    exact c i hi
  · rw [R.s (i := 4) (c := x * 51) (by decide) (by decide) (by show x * 51 < 204; omega) (by show _ = 646 + x * 51; omega)]
    exact a
/-- the first k signs laid -/
def sgl (q : Nat → Nat) (sg : Nat → Int32) (k : Nat) : Nat → Int32 := fun i => if i < k then nI (q i) else sg i
theorem sgl_s {q : Nat → Nat} {sg : Nat → Int32} {k : Nat} : upd (sgl q sg k) k (nI (q k)) = sgl q sg (k + 1) := by
  funext i
  by_cases e : i = k
  · rw [e, upd_eq]; unfold sgl; rw [if_pos (by omega)]
  · rw [upd_ne e]; unfold sgl
    by_cases z : i < k
    · rw [if_pos z, if_pos (by omega)]
    · rw [if_neg z, if_neg (by omega)]
theorem sgl_0 {q : Nat → Nat} {sg : Nat → Int32} : sgl q sg 0 = sg := by
  funext i
  unfold sgl
  rw [if_neg (by omega)]
theorem olL_z (y : LVS) (d : Nat) : (olL y d).1 d = 0 ∧ (olL y d).2.2.1 d = 0 ∧ (olL y d).2.2.2.1 d = 0 ∧ (olL y d).2.2.2.2 d = 0 := by
  unfold olL
  dsimp only
  exact ⟨updL_eq, upd_eq, upd_eq, upd_eq⟩
section STA
variable {X : MX} {t : Nat} {h B : MH} {D : LD} {S IM KP : Nat → Int32}
theorem c_ld_lp (L : LG B 1 D) (N : RNG t D) {x : Nat} (hx : x < 4) {dp ft wt : Int32} {vl : Int64} {sg lt : Nat → Int32} {y : LVS} : ∀ (d k : Nat), k + d = txn D x → ev X 25 20 [.ref 23, .int (nI x), .int (nI k)] [] (FMH B (nI (txn D x)) dp ft wt vl (sgl (txq D x) sg k) lt y) = some (none, (FMH B (nI (txn D x)) dp ft wt vl (sgl (txq D x) sg (txn D x)) lt y)) := by
  obtain ⟨a1, a2, a3⟩ := txt_ok N hx
  intro d
  induction d with
  | zero =>
    intro k e
    have e : k = txn D x := by omega
    have l := nI_nlt (Nat.le_refl (txn D x)) (by omega)
    rw [e, s25_20]
    simp only [s25_0, s25_1, s25_2, s25_5, s25_6, s25_7, s25_10, s25_12, s25_15, s25_18, s25_19, s25_21, s25_22, s25_25, s25_28, s25_29, s25_32, s25_33, s25_34, s25_37, s25_38, s25_39, s25_40, s25_41, s25_44, s25_45, s25_48, s25_51, okF, okA, mcC_o, mcF_o, mcT_i, mcT_l, mcT_z, mcT_q, mcN_i, mcN_l, mcN_z, mcN_q, mcI_i, mcI_z, mcL_l, mcQ_q, hg_hp, hp_hp, List.getD_cons_zero, List.getD_cons_succ, List.set_cons_zero, List.set_cons_succ, List.length_cons, List.length_nil, Nat.reduceAdd, Nat.reduceLT, Nat.reduceEqDiff, Nat.lt_add_one, decide_true, decide_false, Bool.and_true, Bool.true_and, Bool.and_false, Bool.false_and, Bool.false_eq_true, if_true, if_false, ↓reduceIte, Option.bind_some, Option.bind_none, kont_v, kont_n, FM_23, FM_24, FM_25, FM_26, FM_27, FM_28, FM_29, FM_30, FMp_23, FMp_24, FMp_25, FMp_26, FMp_27, FMp_28, FMp_29, FMp_30, FOO_len, FOO_0, FOO_1, FOO_2, FOO_3, FOO_4, FOO_5, FOO_6, FOO_7, FOO_8, FOO_9, FOO_10, FOO_11, FOO_12, FOOs_8, FOOs_9, FOOs_10, FOOs_11, FOOs_12, true_or, or_true, l]
  | succ d ih =>
    intro k e
    have l := nI_lt (show k < txn D x by omega) (by omega)
    have p1 : nI k + 1 = nI (k + 1) := nI_add k 1
    have p2 : 1 + nI k = nI (1 + k) := nI_add 1 k
    have r1 : inR (nI k) 50 = true := inR_n (by omega) (by decide)
    have c1 : (nI k).toNatClampNeg = k := nI_clamp (by omega)
    have Lf := FM_lg (len := nI (txn D x)) (dp := dp) (ft := ft) (wt := wt) (vl := vl) (sg := sgl (txq D x) sg k) (lt := lt) (x := y) L
    have g := (lt4 Lf).get (X := X) (r := x) (q := 1 + k) hx (by omega)
    rw [(a3 k (by omega)).1] at g
    rw [← ih (k + 1) (by omega), ← sgl_s, s25_20]
    simp only [s25_0, s25_1, s25_2, s25_5, s25_6, s25_7, s25_10, s25_12, s25_15, s25_18, s25_19, s25_21, s25_22, s25_25, s25_28, s25_29, s25_32, s25_33, s25_34, s25_37, s25_38, s25_39, s25_40, s25_41, s25_44, s25_45, s25_48, s25_51, okF, okA, mcC_o, mcF_o, mcT_i, mcT_l, mcT_z, mcT_q, mcN_i, mcN_l, mcN_z, mcN_q, mcI_i, mcI_z, mcL_l, mcQ_q, hg_hp, hp_hp, List.getD_cons_zero, List.getD_cons_succ, List.set_cons_zero, List.set_cons_succ, List.length_cons, List.length_nil, Nat.reduceAdd, Nat.reduceLT, Nat.reduceEqDiff, Nat.lt_add_one, decide_true, decide_false, Bool.and_true, Bool.true_and, Bool.and_false, Bool.false_and, Bool.false_eq_true, if_true, if_false, ↓reduceIte, Option.bind_some, Option.bind_none, kont_v, kont_n, FM_23, FM_24, FM_25, FM_26, FM_27, FM_28, FM_29, FM_30, FMp_23, FMp_24, FMp_25, FMp_26, FMp_27, FMp_28, FMp_29, FMp_30, FOO_len, FOO_0, FOO_1, FOO_2, FOO_3, FOO_4, FOO_5, FOO_6, FOO_7, FOO_8, FOO_9, FOO_10, FOO_11, FOO_12, FOOs_8, FOOs_9, FOOs_10, FOOs_11, FOOs_12, true_or, or_true, l, p1, p2, r1, c1, (lt4 Lf).1, g]
theorem c_read_start (L : LG B 1 D) (N : RNG t D) {x : Nat} (hx : x < 4) {len dp ft wt : Int32} {vl : Int64} {sg lt : Nat → Int32} {y : LVS} : (ev X 24 0 [.ref 23, .int (nI x), .float 0, .float 0] [] (FMH B len dp ft wt vl sg lt y)) = ev X 24 28 [.ref 23, .int (nI x), .int (nI 0), .int (nI 0)] [] (FMH B (nI (txn D x)) (nI 0) (-1) 1 0 (sgl (txq D x) sg (txn D x)) lt (olL y 0)) := by
  obtain ⟨a1, a2, a3⟩ := txt_ok N hx
  have lp := fun dp ft wt => c_ld_lp (X := X) (B := B) (dp := dp) (ft := ft) (wt := wt) (vl := vl) (sg := sg) (lt := lt) (y := y) L N hx (txn D x) 0 (by omega)
  have Lf := FM_lg (len := len) (dp := dp) (ft := ft) (wt := wt) (vl := vl) (sg := sg) (lt := lt) (x := y) L
  have g : (ev X 103 0 [.ref 10, .int (nI x), .int 0, .float 0] [] (FMH B len dp ft wt vl sg lt y)) = some (some (.int (nI (txn D x))), (FMH B len dp ft wt vl sg lt y)) := by
    have := (lt4 Lf).get' (X := X) (r := x) (q := 0) rfl (q' := 0) rfl hx (by decide)
    rw [Nat.add_zero, a1] at this
    exact this
  have mn : (if (50 : Int32) < nI (txn D x) then 50 else nI (txn D x)) = nI (txn D x) := if_neg (nI_nlt (a := 50) a2 (by decide))
  rw [sgl_0] at lp
  have lp := lp dp ft wt
  rw [nI_0] at lp
  have ol := c_openLevel (X := X) (B := B) (len := nI (txn D x)) (ft := -1) (wt := wt) (vl := 0) (sg := sgl (txq D x) sg (txn D x)) (lt := lt) (x := y) (d := 0) (by omega)
  rw [nI_0] at ol
  rw [nI_0]
  simp only [s24_0, s24_1, s24_2, s24_5, s24_6, s24_7, s24_10, s24_11, s24_12, s24_15, s24_16, s24_17, s24_20, s24_21, s24_24, s24_25, s24_26, s24_27, s24_29, s24_31, s24_34, s24_35, s24_36, s24_39, s24_42, s24_43, s24_46, s24_47, s24_50, s24_51, s24_52, s24_55, s24_56, s24_59, s24_62, s24_63, s24_66, s24_67, s24_70, s24_71, s24_74, s24_77, s24_78, s24_81, s24_84, s24_85, s24_87, s24_88, s24_91, s24_92, s24_93, s24_94, s24_97, s24_98, s24_101, s24_102, s24_105, s24_106, s24_109, s24_110, s24_111, s24_114, s24_115, s24_116, s24_119, s24_120, s24_123, s25_0, s25_1, s25_2, s25_5, s25_6, s25_7, s25_10, s25_12, s25_15, s25_18, s25_19, s25_21, s25_22, s25_25, s25_28, s25_29, s25_32, s25_33, s25_34, s25_37, s25_38, s25_39, s25_40, s25_41, s25_44, s25_45, s25_48, s25_51, okF, okA, mcC_o, mcF_o, mcT_i, mcT_l, mcT_z, mcT_q, mcN_i, mcN_l, mcN_z, mcN_q, mcI_i, mcI_z, mcL_l, mcQ_q, hg_hp, hp_hp, List.getD_cons_zero, List.getD_cons_succ, List.set_cons_zero, List.set_cons_succ, List.length_cons, List.length_nil, Nat.reduceAdd, Nat.reduceLT, Nat.reduceEqDiff, Nat.lt_add_one, decide_true, decide_false, Bool.and_true, Bool.true_and, Bool.and_false, Bool.false_and, Bool.false_eq_true, if_true, if_false, ↓reduceIte, Option.bind_some, Option.bind_none, kont_v, kont_n, FM_23, FM_24, FM_25, FM_26, FM_27, FM_28, FM_29, FM_30, FMp_23, FMp_24, FMp_25, FMp_26, FMp_27, FMp_28, FMp_29, FMp_30, FOO_len, FOO_0, FOO_1, FOO_2, FOO_3, FOO_4, FOO_5, FOO_6, FOO_7, FOO_8, FOO_9, FOO_10, FOO_11, FOO_12, FOOs_8, FOOs_9, FOOs_10, FOOs_11, FOOs_12, true_or, or_true, (lt4 Lf).1, g, mn, lp, ol]
theorem m_read_start {Z : Nat → Int32} {sp wa : Int32} {st wj W : Nat → Int32} (h56 : hg B 56 = iA 16450 S) {x n : Nat} (hx : x < 4) (hn : S (646 + 51 * x) = nI n) : (ev X 194 0 [.ref 55, .int (nI x), .float 0, .float 0, .float 0, .float 0, .float 0, .float 0, .float 0, .float 0] [] (RMH B Z sp wa st wj W)) = ev X 194 35 [.ref 55, .int (nI x), .int (nI (646 + 51 * x)), .int (nI n), .int (nI 0), .int 0, .int (nI 0), .float 0, .float 0, .float 0] [] (RMH B Z (nI 0) (nI 0) st wj W) := by
  have p0 : (646 : Int32) + 51 * nI x = nI (646 + 51 * x) := by rw [show (51 : Int32) = nI 51 from rfl, nI_mul, show (646 : Int32) = nI 646 from rfl, nI_add]
  have r1 : inR (nI (646 + 51 * x)) 16450 = true := inR_n (by omega) (by decide)
  have c1 : (nI (646 + 51 * x)).toNatClampNeg = 646 + 51 * x := nI_clamp (by omega)
  rw [nI_0]
  simp only [s194_0, s194_3, s194_5, s194_6, s194_7, s194_8, s194_9, s194_10, s194_13, s194_14, s194_15, s194_16, s194_17, s194_18, s194_21, s194_22, s194_23, s194_26, s194_27, s194_29, s194_30, s194_32, s194_33, s194_37, s194_38, s194_41, s194_42, s194_45, s194_46, s194_47, s194_48, s194_50, s194_51, s194_52, s194_54, s194_56, s194_58, s194_61, s194_64, s194_67, s194_69, s194_72, s194_74, s194_76, s194_79, s194_81, s194_84, s194_85, s194_86, s194_89, s194_90, s194_91, s194_94, s194_95, s194_96, s194_99, s194_102, s194_103, s194_104, s194_107, s194_110, s194_112, s194_115, s194_116, s194_119, s194_120, s194_122, s194_125, s194_128, s194_131, s194_132, s194_134, s194_137, s194_140, s194_141, s194_143, s194_146, s194_148, s194_150, s194_151, s194_152, s194_153, s194_154, s194_157, s194_160, s194_162, s194_164, s194_166, s194_169, s194_172, s194_174, s194_176, s194_177, s194_181, s194_182, s194_185, s194_186, s194_189, s194_190, s194_191, s194_192, s194_194, s194_195, s194_196, s194_198, s194_200, s194_203, s194_206, s194_208, s194_210, s194_211, s194_213, s194_216, s194_218, s194_220, s194_221, s194_222, s194_223, s194_224, s194_226, s194_228, s194_229, s194_230, s194_233, s194_234, s194_235, s194_236, s194_238, s194_239, s194_240, s194_241, s194_243, s194_244, s194_246, s194_249, s194_252, s194_253, s194_254, s194_256, s194_259, s194_260, s194_261, s194_264, s194_265, s194_267, s194_270, s194_272, s194_275, s194_276, s194_279, s194_280, s194_281, s194_283, s194_286, s194_289, s194_290, s194_291, s194_294, s194_295, s194_297, s194_300, s194_303, s194_305, s194_307, s194_310, s194_312, s194_314, s194_317, s194_319, s194_321, s194_322, s194_323, s194_324, s194_325, s194_328, s194_329, s194_331, s194_334, s194_337, s194_340, s194_342, s194_344, s194_347, s194_348, s194_349, s194_352, s194_355, s194_358, s194_360, s194_362, s194_363, s194_364, s194_365, s194_366, s194_369, s194_370, s194_371, s194_374, s194_376, s194_379, s194_381, s194_384, s194_385, s194_388, s194_390, s194_391, s194_392, s194_393, s194_394, okF, okA, mcC_o, mcF_o, mcT_i, mcT_l, mcT_z, mcT_q, mcN_i, mcN_l, mcN_z, mcN_q, mcI_i, mcI_z, mcL_l, mcQ_q, hg_hp, hp_hp, List.getD_cons_zero, List.getD_cons_succ, List.set_cons_zero, List.set_cons_succ, List.length_cons, List.length_nil, Nat.reduceAdd, Nat.reduceLT, Nat.reduceEqDiff, Nat.lt_add_one, decide_true, decide_false, Bool.and_true, Bool.true_and, Bool.and_false, Bool.false_and, Bool.false_eq_true, if_true, if_false, ↓reduceIte, Option.bind_some, Option.bind_none, kont_v, kont_n, RM_55, RM_56, RM_72, RM_73, RM_74, RMp_55, RMp_72, RMp_73, RMp_74, MO_len, MO_0, MO_19, MO_20, MO_21, MO_22, MO_23, MOs_19, MOs_22, h56, p0, r1, c1, hn]
/-- the letters of the class, as the reference names them -/
def nmL (lt : Nat → Int32) (a : Int32) : Int64 := (lt a.toNatClampNeg).toInt64
theorem FOOex (F : FIX h) : ∃ (len dp ft wt : Int32) (vl : Int64) (sg lt : Nat → Int32) (y : LVS), FMH h len dp ft wt vl sg lt y = h ∧ hg h 25 = iA 7 lt := by
  obtain ⟨a, b, e, w, v, h23⟩ := F.c23
  obtain ⟨f24, h24⟩ := F.c24
  obtain ⟨f25, h25⟩ := F.c25
  obtain ⟨f26, h26⟩ := F.c26
  obtain ⟨f27, h27⟩ := F.c27
  obtain ⟨f28, h28⟩ := F.c28
  obtain ⟨f29, h29⟩ := F.c29
  obtain ⟨f30, h30⟩ := F.c30
  exact ⟨a, b, e, w, v, f24, f25, (f26, f27, f28, f29, f30), FM_id h23 h24 h25 h26 h27 h28 h29 h30, h25⟩
theorem RMex (F : FIX h) : ∃ (Z : Nat → Int32) (sp wa : Int32) (st wj W : Nat → Int32), RMH h Z sp wa st wj W = h := by
  obtain ⟨io, wl, pl, sp, wa, se, bc, sv, bq, h0⟩ := F.c55
  obtain ⟨f72, h72⟩ := F.c72
  obtain ⟨f73, h73⟩ := F.c73
  obtain ⟨f74, h74⟩ := F.c74
  let Z : Nat → Int32 := fun i => ([io, wl, pl, se, bc, sv, bq] : List Int32).getD i 0
  exact ⟨Z, sp, wa, f72, f73, f74, RM_id (Z := Z) h0 h72 h73 h74⟩
theorem FM_cok (F : FIX h) {len dp ft wt : Int32} {vl : Int64} {sg lt : Nat → Int32} {x : LVS} : COK h (FMH h len dp ft wt vl sg lt x) := (((((((((COK.refl F).put (k := 23) (by decide) ⟨_, _, _, _, _, rfl⟩).put (k := 24) (by decide) ⟨_, rfl⟩).put (k := 25) (by decide) ⟨_, rfl⟩).put (k := 26) (by decide) ⟨_, rfl⟩).put (k := 27) (by decide) ⟨_, rfl⟩).put (k := 28) (by decide) ⟨_, rfl⟩).put (k := 29) (by decide) ⟨_, rfl⟩).put (k := 30) (by decide) ⟨_, rfl⟩)
theorem RM_mok (F : FIX h) {Z : Nat → Int32} {sp wa : Int32} {st wj W : Nat → Int32} : MOK h (RMH h Z sp wa st wj W) := ((((MOK.refl F).put (k := 55) (by decide) ⟨_, _, _, _, _, _, _, _, _, rfl⟩).put (k := 72) (by decide) ⟨_, rfl⟩).put (k := 73) (by decide) ⟨_, rfl⟩).put (k := 74) (by decide) ⟨_, rfl⟩
theorem RM_md (M : MD h S IM KP) {Z : Nat → Int32} {sp wa : Int32} {st wj W : Nat → Int32} : MD (RMH h Z sp wa st wj W) S IM KP := M.same (fun k h1 h2 => RM_o (by omega) (by omega))
/-- a text, read by both: one code, and where it has none, one value -/
theorem both_read (L : LG B 1 D) (N : RNG t D) (R : REL D S) {h' : MH} (M' : hg h' 56 = iA 16450 S) {x : Nat} (hx : x < 4) {nm : Int32 → Int64} {V0 : Nat → Int64} {len dp ft wt : Int32} {vl : Int64} {sg lt : Nat → Int32} {y : LVS} (hnm : ∀ l, l < 7 → nm (nI l) = (lt l).toInt64) {Z : Nat → Int32} {sp wa : Int32} {st wj W : Nat → Int32} : ∃ (code dp' ft' wt' len' : Int32) (vl' : Int64) (sg' : Nat → Int32) (x' : LVS) (sp' wa' : Int32) (st' wj' W' : Nat → Int32), (ev X 24 0 [.ref 23, .int (nI x), .float 0, .float 0] [] (FMH B len dp ft wt vl sg lt y)) = some (some (.int (code)), (FMH B len' dp' ft' wt' vl' sg' lt x')) ∧ (ev X 194 0 [.ref 55, .int (nI x), .float 0, .float 0, .float 0, .float 0, .float 0, .float 0, .float 0, .float 0] [] (RMH h' Z sp wa st wj W)) = some (some (.int (code)), (RMH h' Z sp' wa' st' wj' W')) ∧ (code = -1 → ∃ ns', sp' = nI ns' ∧ ns' ≤ 60 ∧ (rpn nm st' wj' V0 ns').2 0 = vl' ∧ VLD nm st' wj' V0 ns') := by
  obtain ⟨a1, a2, a3⟩ := txt_ok N hx
  obtain ⟨T, sn⟩ := txt_T N R hx
  have cs := c_read_start (X := X) (B := B) (len := len) (dp := dp) (ft := ft) (wt := wt) (vl := vl) (sg := sg) (lt := lt) (y := y) L N hx
  have ms := m_read_start (X := X) (B := h') (Z := Z) (sp := sp) (wa := wa) (st := st) (wj := wj) (W := W) M' hx sn
  obtain ⟨code, dp', ft', wt', vl', x', sp', wa', st', wj', W', e1, e2, e3⟩ := both_run (X := X) (Bc := B) (Br := h') (Z := Z) (V0 := V0) (sg := sgl (txq D x) sg (txn D x)) (lt := lt) (a1 := .int (nI x)) (b1 := .int (nI x)) (nm := nm) M' a2 (fun i hi => by unfold sgl; rw [if_pos hi]; exact ⟨rfl, (a3 i hi).2⟩) T hnm (txn D x) 0 0 0 0 0 0 (olL y 0) st wj W V0 1 0 (.float 0) (.float 0) (.float 0) (by omega) (by omega) (by omega) (by omega) (by omega) ⟨rfl, fun i hi => absurd hi (Nat.not_lt_zero i), fun j hj => absurd hj (Nat.not_lt_zero j)⟩ (Or.inl ⟨rfl, rfl, ⟨0, 0, 0, Or.inl ⟨(olL_z y 0).1, (olL_z y 0).2.1, rfl, rfl⟩, Or.inl ⟨(olL_z y 0).2.2.2, rfl, rfl⟩, 0, rfl, fun j hj => absurd hj (Nat.not_lt_zero j), (olL_z y 0).2.2.1⟩⟩)
  rw [← cs] at e1
  rw [← ms] at e2
  exact ⟨code, dp', ft', wt', _, vl', _, x', sp', wa', st', wj', W', e1, e2, e3⟩
theorem S_fault (I : INVD t h D S IM KP) {a : Int32} : SAME X t h 130 [.ref 0, .int a] 193 [.ref 55, .int a] := by
  have I' := I
  obtain ⟨L, F, M, R, N, G⟩ := I
  have T := lt4 L
  have h4 : D.1 4 = 4 := R.2.2.1
  have th := fun r => T.hs (X := X) (r := r)
  rw [h4] at th
  have one0 : ¬ (1 : Int32) = 0 := by decide
  obtain ⟨a23, b23, c23, d23, v23, e23⟩ := F.c23
  rcases hs_case (n := 4) (by decide) a with w | ⟨w1, x, hx, rfl⟩
  · refine step_id I' (v := .int (-2)) ?_ (fun h' _ _ => ?_)
    · simp only [s130_0, s130_1, s130_4, s130_7, s130_8, s130_11, s130_14, s130_15, s130_18, s130_19, s130_22, s130_25, s130_27, okF, okA, mcC_o, mcF_o, mcT_i, mcT_l, mcT_z, mcT_q, mcN_i, mcN_l, mcN_z, mcN_q, mcI_i, mcI_z, mcL_l, mcQ_q, hg_hp, hp_hp, List.getD_cons_zero, List.getD_cons_succ, List.set_cons_zero, List.set_cons_succ, List.length_cons, List.length_nil, Nat.reduceAdd, Nat.reduceLT, Nat.reduceEqDiff, Nat.lt_add_one, decide_true, decide_false, Bool.and_true, Bool.true_and, Bool.and_false, Bool.false_and, Bool.false_eq_true, if_true, if_false, ↓reduceIte, Option.bind_some, Option.bind_none, kont_v, kont_n, F.c0, lgo L, T.1, th, w]
    · simp only [s193_0, s193_1, s193_4, s193_7, s193_8, s193_9, s193_12, s193_15, s193_17, okF, okA, mcC_o, mcF_o, mcT_i, mcT_l, mcT_z, mcT_q, mcN_i, mcN_l, mcN_z, mcN_q, mcI_i, mcI_z, mcL_l, mcQ_q, hg_hp, hp_hp, List.getD_cons_zero, List.getD_cons_succ, List.set_cons_zero, List.set_cons_succ, List.length_cons, List.length_nil, Nat.reduceAdd, Nat.reduceLT, Nat.reduceEqDiff, Nat.lt_add_one, decide_true, decide_false, Bool.and_true, Bool.true_and, Bool.and_false, Bool.false_and, Bool.false_eq_true, if_true, if_false, ↓reduceIte, Option.bind_some, Option.bind_none, kont_v, kont_n, m_isText, w]
  obtain ⟨len, dp, ft, wt, vl, sg, lt, y, id, -⟩ := FOOex F
  have F0 := F
  have key : ∀ h', FIX h' → MD h' S IM KP → ∃ (code : Int32) (H1 H2 : MH), (ev X 24 0 [.ref 23, .int (nI x), .float 0, .float 0] [] (h)) = some (some (.int (code)), (H1)) ∧ COK h H1 ∧ LG H1 1 D ∧ (ev X 194 0 [.ref 55, .int (nI x), .float 0, .float 0, .float 0, .float 0, .float 0, .float 0, .float 0, .float 0] [] (h')) = some (some (.int (code)), (H2)) ∧ MOK h' H2 ∧ MD H2 S IM KP := fun h' F' M' => by
    obtain ⟨Z, sp, wa, st, wj, W, id'⟩ := RMex F'
    obtain ⟨code, dp', ft', wt', len', vl', sg', x', sp', wa', st', wj', W', e1, e2, -⟩ := both_read (X := X) (B := h) L N R (h' := h') M'.1 (x := x) (by omega) (nm := nmL lt) (V0 := fun _ => 0) (len := len) (dp := dp) (ft := ft) (wt := wt) (vl := vl) (sg := sg) (lt := lt) (y := y) (fun l hl => by unfold nmL; rw [nI_clamp (by omega)]) (Z := Z) (sp := sp) (wa := wa) (st := st) (wj := wj) (W := W)
    rw [id] at e1
    rw [id'] at e2
    exact ⟨code, _, _, e1, FM_cok F, FM_lg L, e2, RM_mok F', RM_md M'⟩
  obtain ⟨code, H1, -, e1, K1, L1, -, -, -⟩ := key h F M
  refine step_ok I' (v := .int code) ⟨H1, ?_, K1, L1⟩ (fun h' F' M' => ?_) R (N.mono (by omega))
  · simp only [s130_0, s130_1, s130_4, s130_7, s130_8, s130_11, s130_14, s130_15, s130_18, s130_19, s130_22, s130_25, s130_27, okF, okA, mcC_o, mcF_o, mcT_i, mcT_l, mcT_z, mcT_q, mcN_i, mcN_l, mcN_z, mcN_q, mcI_i, mcI_z, mcL_l, mcQ_q, hg_hp, hp_hp, List.getD_cons_zero, List.getD_cons_succ, List.set_cons_zero, List.set_cons_succ, List.length_cons, List.length_nil, Nat.reduceAdd, Nat.reduceLT, Nat.reduceEqDiff, Nat.lt_add_one, decide_true, decide_false, Bool.and_true, Bool.true_and, Bool.and_false, Bool.false_and, Bool.false_eq_true, if_true, if_false, ↓reduceIte, Option.bind_some, Option.bind_none, kont_v, kont_n, F.c0, e23, lgo L, T.1, th, w1, one0, e1]
  · obtain ⟨code', H1', H2, e1', -, -, e2, K2, M2⟩ := key h' F' M'
    rw [e1] at e1'
    have ec : code = code' := by
      have := Option.some.inj e1'
      have := congrArg (fun p => p.1) this
      have := Option.some.inj this
      exact Value.int.inj this
    obtain ⟨io, wl, pl, sp, wa, se, bc, sv, bq, h0⟩ := F'.c55
    refine ⟨H2, ?_, K2, M2⟩
    rw [ec]
    simp only [s193_0, s193_1, s193_4, s193_7, s193_8, s193_9, s193_12, s193_15, s193_17, okF, okA, mcC_o, mcF_o, mcT_i, mcT_l, mcT_z, mcT_q, mcN_i, mcN_l, mcN_z, mcN_q, mcI_i, mcI_z, mcL_l, mcQ_q, hg_hp, hp_hp, List.getD_cons_zero, List.getD_cons_succ, List.set_cons_zero, List.set_cons_succ, List.length_cons, List.length_nil, Nat.reduceAdd, Nat.reduceLT, Nat.reduceEqDiff, Nat.lt_add_one, decide_true, decide_false, Bool.and_true, Bool.true_and, Bool.and_false, Bool.false_and, Bool.false_eq_true, if_true, if_false, ↓reduceIte, Option.bind_some, Option.bind_none, kont_v, kont_n, h0, m_isText, w1, one0, e2]
end STA

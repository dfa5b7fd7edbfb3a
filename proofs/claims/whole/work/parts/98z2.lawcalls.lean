-- LAW: one call of the script
theorem retv_i {j len : Nat} {ins : Instr} {st : List Value} {v : Value} (hm : mt_r (mq j) = some .int) (e : retv j ins len st = some (some v)) : ∃ x, v = .int x := by
  unfold retv at e
  split at e
  · rw [hm] at e; cases e
  · rw [hm] at e; cases e; exact ⟨_, rfl⟩
  · rw [hm] at e; cases e
  · cases e
theorem retv_l {j len : Nat} {ins : Instr} {st : List Value} {v : Value} (hm : mt_r (mq j) = some .long) (e : retv j ins len st = some (some v)) : ∃ x, v = .long x := by
  unfold retv at e
  split at e
  · rw [hm] at e; cases e
  · rw [hm] at e; cases e
  · rw [hm, if_pos rfl] at e; cases e; exact ⟨_, rfl⟩
  · cases e
theorem exec_retv (X : MX) : ∀ (n j pc : Nat) (loc st : List Value) (h : MH) (r : Option Value × MH), exec X n j pc loc st h = some r → ∃ (ins : Instr) (len : Nat) (st' : List Value), retv j ins len st' = some r.1 := by
  intro n
  induction n with
  | zero => intro j pc loc st h r e; cases e
  | succ n ih =>
    intro j pc loc st h r e
    unfold exec at e
    cases hd : decode (mt_b (mq j)) pc with
    | error x => rw [hd] at e; cases e
    | ok q =>
      obtain ⟨ins, len⟩ := q
      rw [hd] at e
      dsimp only at e
      by_cases hk : kd ins = 6
      · rw [if_pos hk] at e
        cases hr : retv j ins len st with
        | none => rw [hr] at e; cases e
        | some v =>
          rw [hr] at e
          have e : some (v, h) = some r := e
          exact ⟨ins, len, st, by rw [hr, ← Option.some.inj e]⟩
      · rw [if_neg hk] at e
        cases hc : callOf j ins len st h with
        | some q =>
          rw [hc] at e
          dsimp only at e
          by_cases ho : entOk q.1 q.2.1 = true
          · rw [if_pos ho] at e
            cases hx : exec X n q.1 0 (entryL q.1 q.2.1) [] h with
            | none => rw [hx] at e; cases e
            | some p => rw [hx] at e; exact ih _ _ _ _ _ _ e
          · rw [if_neg ho] at e; cases e
        | none =>
          rw [hc] at e
          dsimp only at e
          cases hs : sim X j pc ins len loc st h with
          | none => rw [hs] at e; cases e
          | some c => rw [hs] at e; exact ih _ _ _ _ _ _ e
theorem ret_i {X : MX} {j pc : Nat} {loc st : List Value} {h h' : MH} {v : Value} (hm : mt_r (mq j) = some .int) (e : ev X j pc loc st h = some (some v, h')) : ∃ x, v = .int x := by
  obtain ⟨n, hn⟩ := ev_iff.mp e
  obtain ⟨ins, len, st', hr⟩ := exec_retv X n j pc loc st h _ hn
  exact retv_i hm hr
theorem ret_l {X : MX} {j pc : Nat} {loc st : List Value} {h h' : MH} {v : Value} (hm : mt_r (mq j) = some .long) (e : ev X j pc loc st h = some (some v, h')) : ∃ x, v = .long x := by
  obtain ⟨n, hn⟩ := ev_iff.mp e
  obtain ⟨ins, len, st', hr⟩ := exec_retv X n j pc loc st h _ hn
  exact retv_l hm hr
theorem lgc_self (x : Int64) : lg_cmp x x = 0 := by
  unfold lg_cmp
  simp
def RIX (X : MX) (i : Nat) : Prop := inR (nI i) X.1 = true ∧ inR (nI i + 1) X.1 = true ∧ inR (nI i + 2) X.1 = true ∧ inR (nI i + 3) X.1 = true ∧ inR (nI i + 4) X.1 = true ∧ inR (nI i + 5) X.1 = true ∧ inR (nI i + 6) X.1 = true
section LWC
variable {X : MX} {t i : Nat} {h : MH}
theorem lw_0 (I : INV t h) (ht : t ≤ 1000) (r : RIX X i) : ∃ h2 : MH, ev X 263 204 [.retAddr 0, .ref 0, .ref 55, .int (nI i)] [] h = ev X 263 1541 [.retAddr 0, .ref 0, .ref 55, .int (nI i)] [] h2 ∧ INV (t + 1) h2 := by
  obtain ⟨D, S, IM, KP, I⟩ := I
  obtain ⟨r0, r1, r2, r3, r4, r5, r6⟩ := r
  have c0 := I.2.1.c0
  obtain ⟨v, h1, h2, e1, e2, F1, I2⟩ := (S_phrase (X := X) I : SAME X t h 109 [.ref 0, .float 0] 154 [.ref 55, .float 0])
  obtain ⟨x, rfl⟩ := ret_i mr_109 e1
  obtain ⟨io, wl, pl, sp, wa, se, bc, sv, bq, c55⟩ := F1.c55
  refine ⟨h2, ?_, I2⟩
  simp only [s263_204, s263_205, s263_208, s263_209, s263_212, s263_215, s263_216, okF, okA, mcC_o, mcF_o, mcT_i, mcT_l, mcT_z, mcT_q, mcN_i, mcN_l, mcN_z, mcN_q, mcI_i, mcI_z, mcL_l, mcQ_q, hg_hp, hp_hp, List.getD_cons_zero, List.getD_cons_succ, List.set_cons_zero, List.set_cons_succ, List.length_cons, List.length_nil, Nat.reduceAdd, Nat.reduceLT, Nat.reduceEqDiff, Nat.lt_add_one, decide_true, decide_false, Bool.and_true, Bool.true_and, Bool.and_false, Bool.false_and, Bool.false_eq_true, if_true, if_false, ↓reduceIte, Option.bind_some, Option.bind_none, kont_v, kont_n, r0, r1, r2, r3, r4, r5, r6, c0, c55, e1, e2, eq_self, lgc_self]
theorem lw_1 (I : INV t h) (ht : t ≤ 1000) (r : RIX X i) : ∃ h2 : MH, ev X 263 217 [.retAddr 0, .ref 0, .ref 55, .int (nI i)] [] h = ev X 263 1541 [.retAddr 0, .ref 0, .ref 55, .int (nI i)] [] h2 ∧ INV (t + 1) h2 := by
  obtain ⟨D, S, IM, KP, I⟩ := I
  obtain ⟨r0, r1, r2, r3, r4, r5, r6⟩ := r
  have c0 := I.2.1.c0
  obtain ⟨v, h1, h2, e1, e2, F1, I2⟩ := (S_act (X := X) I : SAME X t h 110 [.ref 0, .int (X.2 (nI i + 1).toNatClampNeg), .int (X.2 (nI i + 2).toNatClampNeg), .int (X.2 (nI i + 3).toNatClampNeg), .float 0] 155 [.ref 55, .int (X.2 (nI i + 1).toNatClampNeg), .int (X.2 (nI i + 2).toNatClampNeg), .int (X.2 (nI i + 3).toNatClampNeg), .float 0, .float 0])
  obtain ⟨x, rfl⟩ := ret_i mr_110 e1
  obtain ⟨io, wl, pl, sp, wa, se, bc, sv, bq, c55⟩ := F1.c55
  refine ⟨h2, ?_, I2⟩
  simp only [s263_217, s263_218, s263_219, s263_220, s263_221, s263_222, s263_223, s263_224, s263_225, s263_226, s263_227, s263_228, s263_229, s263_230, s263_231, s263_232, s263_233, s263_236, s263_237, s263_238, s263_239, s263_240, s263_241, s263_242, s263_243, s263_244, s263_245, s263_246, s263_247, s263_248, s263_249, s263_250, s263_251, s263_252, s263_255, s263_258, s263_259, okF, okA, mcC_o, mcF_o, mcT_i, mcT_l, mcT_z, mcT_q, mcN_i, mcN_l, mcN_z, mcN_q, mcI_i, mcI_z, mcL_l, mcQ_q, hg_hp, hp_hp, List.getD_cons_zero, List.getD_cons_succ, List.set_cons_zero, List.set_cons_succ, List.length_cons, List.length_nil, Nat.reduceAdd, Nat.reduceLT, Nat.reduceEqDiff, Nat.lt_add_one, decide_true, decide_false, Bool.and_true, Bool.true_and, Bool.and_false, Bool.false_and, Bool.false_eq_true, if_true, if_false, ↓reduceIte, Option.bind_some, Option.bind_none, kont_v, kont_n, r0, r1, r2, r3, r4, r5, r6, c0, c55, e1, e2, eq_self, lgc_self]
theorem lw_2 (I : INV t h) (ht : t ≤ 1000) (r : RIX X i) : ∃ h2 : MH, ev X 263 260 [.retAddr 0, .ref 0, .ref 55, .int (nI i)] [] h = ev X 263 1541 [.retAddr 0, .ref 0, .ref 55, .int (nI i)] [] h2 ∧ INV (t + 1) h2 := by
  obtain ⟨D, S, IM, KP, I⟩ := I
  obtain ⟨r0, r1, r2, r3, r4, r5, r6⟩ := r
  have c0 := I.2.1.c0
  obtain ⟨v, h1, h2, e1, e2, F1, I2⟩ := (S_line (X := X) I : SAME X t h 113 [.ref 0, .int (X.2 (nI i + 1).toNatClampNeg), .int (X.2 (nI i + 2).toNatClampNeg)] 158 [.ref 55, .int (X.2 (nI i + 1).toNatClampNeg), .int (X.2 (nI i + 2).toNatClampNeg)])
  obtain ⟨x, rfl⟩ := ret_i mr_113 e1
  obtain ⟨io, wl, pl, sp, wa, se, bc, sv, bq, c55⟩ := F1.c55
  refine ⟨h2, ?_, I2⟩
  simp only [s263_260, s263_261, s263_262, s263_263, s263_264, s263_265, s263_266, s263_267, s263_268, s263_269, s263_270, s263_271, s263_274, s263_275, s263_276, s263_277, s263_278, s263_279, s263_280, s263_281, s263_282, s263_283, s263_284, s263_285, s263_288, s263_291, s263_292, okF, okA, mcC_o, mcF_o, mcT_i, mcT_l, mcT_z, mcT_q, mcN_i, mcN_l, mcN_z, mcN_q, mcI_i, mcI_z, mcL_l, mcQ_q, hg_hp, hp_hp, List.getD_cons_zero, List.getD_cons_succ, List.set_cons_zero, List.set_cons_succ, List.length_cons, List.length_nil, Nat.reduceAdd, Nat.reduceLT, Nat.reduceEqDiff, Nat.lt_add_one, decide_true, decide_false, Bool.and_true, Bool.true_and, Bool.and_false, Bool.false_and, Bool.false_eq_true, if_true, if_false, ↓reduceIte, Option.bind_some, Option.bind_none, kont_v, kont_n, r0, r1, r2, r3, r4, r5, r6, c0, c55, e1, e2, eq_self, lgc_self]
theorem lw_3 (I : INV t h) (ht : t ≤ 1000) (r : RIX X i) : ∃ h2 : MH, ev X 263 293 [.retAddr 0, .ref 0, .ref 55, .int (nI i)] [] h = ev X 263 1541 [.retAddr 0, .ref 0, .ref 55, .int (nI i)] [] h2 ∧ INV (t + 1) h2 := by
  obtain ⟨D, S, IM, KP, I⟩ := I
  obtain ⟨r0, r1, r2, r3, r4, r5, r6⟩ := r
  have c0 := I.2.1.c0
  obtain ⟨v, h1, h2, e1, e2, F1, I2⟩ := (S_touch (X := X) I : SAME X t h 114 [.ref 0, .int (X.2 (nI i + 1).toNatClampNeg)] 160 [.ref 55, .int (X.2 (nI i + 1).toNatClampNeg), .float 0, .float 0, .float 0])
  obtain ⟨x, rfl⟩ := ret_i mr_114 e1
  obtain ⟨io, wl, pl, sp, wa, se, bc, sv, bq, c55⟩ := F1.c55
  refine ⟨h2, ?_, I2⟩
  simp only [s263_293, s263_294, s263_295, s263_296, s263_297, s263_298, s263_299, s263_302, s263_303, s263_304, s263_305, s263_306, s263_307, s263_308, s263_311, s263_314, s263_315, okF, okA, mcC_o, mcF_o, mcT_i, mcT_l, mcT_z, mcT_q, mcN_i, mcN_l, mcN_z, mcN_q, mcI_i, mcI_z, mcL_l, mcQ_q, hg_hp, hp_hp, List.getD_cons_zero, List.getD_cons_succ, List.set_cons_zero, List.set_cons_succ, List.length_cons, List.length_nil, Nat.reduceAdd, Nat.reduceLT, Nat.reduceEqDiff, Nat.lt_add_one, decide_true, decide_false, Bool.and_true, Bool.true_and, Bool.and_false, Bool.false_and, Bool.false_eq_true, if_true, if_false, ↓reduceIte, Option.bind_some, Option.bind_none, kont_v, kont_n, r0, r1, r2, r3, r4, r5, r6, c0, c55, e1, e2, eq_self, lgc_self]
theorem lw_4 (I : INV t h) (ht : t ≤ 1000) (r : RIX X i) : ∃ h2 : MH, ev X 263 316 [.retAddr 0, .ref 0, .ref 55, .int (nI i)] [] h = ev X 263 1541 [.retAddr 0, .ref 0, .ref 55, .int (nI i)] [] h2 ∧ INV (t + 1) h2 := by
  obtain ⟨D, S, IM, KP, I⟩ := I
  obtain ⟨r0, r1, r2, r3, r4, r5, r6⟩ := r
  have c0 := I.2.1.c0
  obtain ⟨v, h1, h2, e1, e2, F1, I2⟩ := (S_fencer (X := X) I : SAME X t h 115 [.ref 0, .int (X.2 (nI i + 1).toNatClampNeg), .int (X.2 (nI i + 2).toNatClampNeg), .int (X.2 (nI i + 3).toNatClampNeg), .float 0] 162 [.ref 55, .int (X.2 (nI i + 1).toNatClampNeg), .int (X.2 (nI i + 2).toNatClampNeg), .int (X.2 (nI i + 3).toNatClampNeg), .float 0])
  obtain ⟨x, rfl⟩ := ret_i mr_115 e1
  obtain ⟨io, wl, pl, sp, wa, se, bc, sv, bq, c55⟩ := F1.c55
  refine ⟨h2, ?_, I2⟩
  simp only [s263_316, s263_317, s263_318, s263_319, s263_320, s263_321, s263_322, s263_323, s263_324, s263_325, s263_326, s263_327, s263_328, s263_329, s263_330, s263_331, s263_332, s263_335, s263_336, s263_337, s263_338, s263_339, s263_340, s263_341, s263_342, s263_343, s263_344, s263_345, s263_346, s263_347, s263_348, s263_349, s263_350, s263_351, s263_354, s263_357, s263_358, okF, okA, mcC_o, mcF_o, mcT_i, mcT_l, mcT_z, mcT_q, mcN_i, mcN_l, mcN_z, mcN_q, mcI_i, mcI_z, mcL_l, mcQ_q, hg_hp, hp_hp, List.getD_cons_zero, List.getD_cons_succ, List.set_cons_zero, List.set_cons_succ, List.length_cons, List.length_nil, Nat.reduceAdd, Nat.reduceLT, Nat.reduceEqDiff, Nat.lt_add_one, decide_true, decide_false, Bool.and_true, Bool.true_and, Bool.and_false, Bool.false_and, Bool.false_eq_true, if_true, if_false, ↓reduceIte, Option.bind_some, Option.bind_none, kont_v, kont_n, r0, r1, r2, r3, r4, r5, r6, c0, c55, e1, e2, eq_self, lgc_self]
theorem lw_5 (I : INV t h) (ht : t ≤ 1000) (r : RIX X i) : ∃ h2 : MH, ev X 263 359 [.retAddr 0, .ref 0, .ref 55, .int (nI i)] [] h = ev X 263 1541 [.retAddr 0, .ref 0, .ref 55, .int (nI i)] [] h2 ∧ INV (t + 1) h2 := by
  obtain ⟨D, S, IM, KP, I⟩ := I
  obtain ⟨r0, r1, r2, r3, r4, r5, r6⟩ := r
  have c0 := I.2.1.c0
  obtain ⟨v, h1, h2, e1, e2, F1, I2⟩ := (S_seed (X := X) I : SAME X t h 118 [.ref 0, .int (X.2 (nI i + 1).toNatClampNeg), .int (X.2 (nI i + 2).toNatClampNeg), .float 0] 163 [.ref 55, .int (X.2 (nI i + 1).toNatClampNeg), .int (X.2 (nI i + 2).toNatClampNeg), .float 0])
  obtain ⟨x, rfl⟩ := ret_i mr_118 e1
  obtain ⟨io, wl, pl, sp, wa, se, bc, sv, bq, c55⟩ := F1.c55
  refine ⟨h2, ?_, I2⟩
  simp only [s263_359, s263_360, s263_361, s263_362, s263_363, s263_364, s263_365, s263_366, s263_367, s263_368, s263_369, s263_370, s263_373, s263_374, s263_375, s263_376, s263_377, s263_378, s263_379, s263_380, s263_381, s263_382, s263_383, s263_384, s263_387, s263_390, s263_391, okF, okA, mcC_o, mcF_o, mcT_i, mcT_l, mcT_z, mcT_q, mcN_i, mcN_l, mcN_z, mcN_q, mcI_i, mcI_z, mcL_l, mcQ_q, hg_hp, hp_hp, List.getD_cons_zero, List.getD_cons_succ, List.set_cons_zero, List.set_cons_succ, List.length_cons, List.length_nil, Nat.reduceAdd, Nat.reduceLT, Nat.reduceEqDiff, Nat.lt_add_one, decide_true, decide_false, Bool.and_true, Bool.true_and, Bool.and_false, Bool.false_and, Bool.false_eq_true, if_true, if_false, ↓reduceIte, Option.bind_some, Option.bind_none, kont_v, kont_n, r0, r1, r2, r3, r4, r5, r6, c0, c55, e1, e2, eq_self, lgc_self]
theorem lw_6 (I : INV t h) (ht : t ≤ 1000) (r : RIX X i) : ∃ h2 : MH, ev X 263 392 [.retAddr 0, .ref 0, .ref 55, .int (nI i)] [] h = ev X 263 1541 [.retAddr 0, .ref 0, .ref 55, .int (nI i)] [] h2 ∧ INV (t + 1) h2 := by
  obtain ⟨D, S, IM, KP, I⟩ := I
  obtain ⟨r0, r1, r2, r3, r4, r5, r6⟩ := r
  have c0 := I.2.1.c0
  obtain ⟨v, h1, h2, e1, e2, F1, I2⟩ := (S_bout (X := X) I : SAME X t h 119 [.ref 0, .int (X.2 (nI i + 1).toNatClampNeg), .int (X.2 (nI i + 2).toNatClampNeg), .int (X.2 (nI i + 3).toNatClampNeg), .int (X.2 (nI i + 4).toNatClampNeg), .int (X.2 (nI i + 5).toNatClampNeg), .int (X.2 (nI i + 6).toNatClampNeg), .float 0] 166 [.ref 55, .int (X.2 (nI i + 1).toNatClampNeg), .int (X.2 (nI i + 2).toNatClampNeg), .int (X.2 (nI i + 3).toNatClampNeg), .int (X.2 (nI i + 4).toNatClampNeg), .int (X.2 (nI i + 5).toNatClampNeg), .int (X.2 (nI i + 6).toNatClampNeg), .float 0])
  obtain ⟨x, rfl⟩ := ret_i mr_119 e1
  obtain ⟨io, wl, pl, sp, wa, se, bc, sv, bq, c55⟩ := F1.c55
  refine ⟨h2, ?_, I2⟩
  simp only [s263_392, s263_393, s263_394, s263_395, s263_396, s263_397, s263_398, s263_399, s263_400, s263_401, s263_402, s263_403, s263_404, s263_405, s263_406, s263_407, s263_408, s263_409, s263_410, s263_411, s263_412, s263_413, s263_414, s263_415, s263_416, s263_417, s263_418, s263_419, s263_420, s263_422, s263_423, s263_424, s263_427, s263_428, s263_429, s263_430, s263_431, s263_432, s263_433, s263_434, s263_435, s263_436, s263_437, s263_438, s263_439, s263_440, s263_441, s263_442, s263_443, s263_444, s263_445, s263_446, s263_447, s263_448, s263_449, s263_450, s263_451, s263_452, s263_453, s263_454, s263_455, s263_457, s263_458, s263_459, s263_462, s263_465, s263_466, okF, okA, mcC_o, mcF_o, mcT_i, mcT_l, mcT_z, mcT_q, mcN_i, mcN_l, mcN_z, mcN_q, mcI_i, mcI_z, mcL_l, mcQ_q, hg_hp, hp_hp, List.getD_cons_zero, List.getD_cons_succ, List.set_cons_zero, List.set_cons_succ, List.length_cons, List.length_nil, Nat.reduceAdd, Nat.reduceLT, Nat.reduceEqDiff, Nat.lt_add_one, decide_true, decide_false, Bool.and_true, Bool.true_and, Bool.and_false, Bool.false_and, Bool.false_eq_true, if_true, if_false, ↓reduceIte, Option.bind_some, Option.bind_none, kont_v, kont_n, r0, r1, r2, r3, r4, r5, r6, c0, c55, e1, e2, eq_self, lgc_self]
theorem lw_7 (I : INV t h) (ht : t ≤ 1000) (r : RIX X i) : ∃ h2 : MH, ev X 263 467 [.retAddr 0, .ref 0, .ref 55, .int (nI i)] [] h = ev X 263 1541 [.retAddr 0, .ref 0, .ref 55, .int (nI i)] [] h2 ∧ INV (t + 1) h2 := by
  obtain ⟨D, S, IM, KP, I⟩ := I
  obtain ⟨r0, r1, r2, r3, r4, r5, r6⟩ := r
  have c0 := I.2.1.c0
  obtain ⟨v, h1, h2, e1, e2, F1, I2⟩ := (S_event (X := X) I : SAME X t h 120 [.ref 0, .int (X.2 (nI i + 1).toNatClampNeg), .int (X.2 (nI i + 2).toNatClampNeg), .int (X.2 (nI i + 3).toNatClampNeg), .int (X.2 (nI i + 4).toNatClampNeg)] 167 [.ref 55, .int (X.2 (nI i + 1).toNatClampNeg), .int (X.2 (nI i + 2).toNatClampNeg), .int (X.2 (nI i + 3).toNatClampNeg), .int (X.2 (nI i + 4).toNatClampNeg), .float 0, .float 0])
  obtain ⟨x, rfl⟩ := ret_i mr_120 e1
  obtain ⟨io, wl, pl, sp, wa, se, bc, sv, bq, c55⟩ := F1.c55
  refine ⟨h2, ?_, I2⟩
  simp only [s263_467, s263_468, s263_469, s263_470, s263_471, s263_472, s263_473, s263_474, s263_475, s263_476, s263_477, s263_478, s263_479, s263_480, s263_481, s263_482, s263_483, s263_484, s263_485, s263_486, s263_487, s263_488, s263_491, s263_492, s263_493, s263_494, s263_495, s263_496, s263_497, s263_498, s263_499, s263_500, s263_501, s263_502, s263_503, s263_504, s263_505, s263_506, s263_507, s263_508, s263_509, s263_510, s263_511, s263_512, s263_515, s263_518, s263_519, okF, okA, mcC_o, mcF_o, mcT_i, mcT_l, mcT_z, mcT_q, mcN_i, mcN_l, mcN_z, mcN_q, mcI_i, mcI_z, mcL_l, mcQ_q, hg_hp, hp_hp, List.getD_cons_zero, List.getD_cons_succ, List.set_cons_zero, List.set_cons_succ, List.length_cons, List.length_nil, Nat.reduceAdd, Nat.reduceLT, Nat.reduceEqDiff, Nat.lt_add_one, decide_true, decide_false, Bool.and_true, Bool.true_and, Bool.and_false, Bool.false_and, Bool.false_eq_true, if_true, if_false, ↓reduceIte, Option.bind_some, Option.bind_none, kont_v, kont_n, r0, r1, r2, r3, r4, r5, r6, c0, c55, e1, e2, eq_self, lgc_self]
theorem lw_8 (I : INV t h) (ht : t ≤ 1000) (r : RIX X i) : ∃ h2 : MH, ev X 263 520 [.retAddr 0, .ref 0, .ref 55, .int (nI i)] [] h = ev X 263 1541 [.retAddr 0, .ref 0, .ref 55, .int (nI i)] [] h2 ∧ INV (t + 1) h2 := by
  obtain ⟨D, S, IM, KP, I⟩ := I
  obtain ⟨r0, r1, r2, r3, r4, r5, r6⟩ := r
  have c0 := I.2.1.c0
  obtain ⟨v, h1, h2, e1, e2, F1, I2⟩ := (S_end (X := X) I : SAME X t h 121 [.ref 0, .int (X.2 (nI i + 1).toNatClampNeg)] 174 [.ref 55, .int (X.2 (nI i + 1).toNatClampNeg)])
  obtain ⟨x, rfl⟩ := ret_i mr_121 e1
  obtain ⟨io, wl, pl, sp, wa, se, bc, sv, bq, c55⟩ := F1.c55
  refine ⟨h2, ?_, I2⟩
  simp only [s263_520, s263_521, s263_522, s263_523, s263_524, s263_525, s263_526, s263_529, s263_530, s263_531, s263_532, s263_533, s263_534, s263_535, s263_538, s263_541, s263_542, okF, okA, mcC_o, mcF_o, mcT_i, mcT_l, mcT_z, mcT_q, mcN_i, mcN_l, mcN_z, mcN_q, mcI_i, mcI_z, mcL_l, mcQ_q, hg_hp, hp_hp, List.getD_cons_zero, List.getD_cons_succ, List.set_cons_zero, List.set_cons_succ, List.length_cons, List.length_nil, Nat.reduceAdd, Nat.reduceLT, Nat.reduceEqDiff, Nat.lt_add_one, decide_true, decide_false, Bool.and_true, Bool.true_and, Bool.and_false, Bool.false_and, Bool.false_eq_true, if_true, if_false, ↓reduceIte, Option.bind_some, Option.bind_none, kont_v, kont_n, r0, r1, r2, r3, r4, r5, r6, c0, c55, e1, e2, eq_self, lgc_self]
theorem lw_9 (I : INV t h) (ht : t ≤ 1000) (r : RIX X i) : ∃ h2 : MH, ev X 263 543 [.retAddr 0, .ref 0, .ref 55, .int (nI i)] [] h = ev X 263 1541 [.retAddr 0, .ref 0, .ref 55, .int (nI i)] [] h2 ∧ INV (t + 1) h2 := by
  obtain ⟨D, S, IM, KP, I⟩ := I
  obtain ⟨r0, r1, r2, r3, r4, r5, r6⟩ := r
  have c0 := I.2.1.c0
  obtain ⟨v, h1, h2, e1, e2, F1, I2⟩ := (S_walkover (X := X) I : SAME X t h 122 [.ref 0, .int (X.2 (nI i + 1).toNatClampNeg), .int (X.2 (nI i + 2).toNatClampNeg)] 175 [.ref 55, .int (X.2 (nI i + 1).toNatClampNeg), .int (X.2 (nI i + 2).toNatClampNeg)])
  obtain ⟨x, rfl⟩ := ret_i mr_122 e1
  obtain ⟨io, wl, pl, sp, wa, se, bc, sv, bq, c55⟩ := F1.c55
  refine ⟨h2, ?_, I2⟩
  simp only [s263_543, s263_544, s263_545, s263_546, s263_547, s263_548, s263_549, s263_550, s263_551, s263_552, s263_553, s263_554, s263_557, s263_558, s263_559, s263_560, s263_561, s263_562, s263_563, s263_564, s263_565, s263_566, s263_567, s263_568, s263_571, s263_574, s263_575, okF, okA, mcC_o, mcF_o, mcT_i, mcT_l, mcT_z, mcT_q, mcN_i, mcN_l, mcN_z, mcN_q, mcI_i, mcI_z, mcL_l, mcQ_q, hg_hp, hp_hp, List.getD_cons_zero, List.getD_cons_succ, List.set_cons_zero, List.set_cons_succ, List.length_cons, List.length_nil, Nat.reduceAdd, Nat.reduceLT, Nat.reduceEqDiff, Nat.lt_add_one, decide_true, decide_false, Bool.and_true, Bool.true_and, Bool.and_false, Bool.false_and, Bool.false_eq_true, if_true, if_false, ↓reduceIte, Option.bind_some, Option.bind_none, kont_v, kont_n, r0, r1, r2, r3, r4, r5, r6, c0, c55, e1, e2, eq_self, lgc_self]
theorem lw_10 (I : INV t h) (ht : t ≤ 1000) (r : RIX X i) : ∃ h2 : MH, ev X 263 576 [.retAddr 0, .ref 0, .ref 55, .int (nI i)] [] h = ev X 263 1541 [.retAddr 0, .ref 0, .ref 55, .int (nI i)] [] h2 ∧ INV (t + 1) h2 := by
  obtain ⟨D, S, IM, KP, I⟩ := I
  obtain ⟨r0, r1, r2, r3, r4, r5, r6⟩ := r
  have c0 := I.2.1.c0
  by_cases z : X.2 (nI i + 2).toNatClampNeg = 0
  · obtain ⟨v, h1, h2, e1, e2, F1, I2⟩ := (S_tear (X := X) I (Or.inl rfl) : SAME X t h 123 [.ref 0, .int (X.2 (nI i + 1).toNatClampNeg), .int 0] 176 [.ref 55, .int (X.2 (nI i + 1).toNatClampNeg), .int 0])
    obtain ⟨x, rfl⟩ := ret_i mr_123 e1
    obtain ⟨io, wl, pl, sp, wa, se, bc, sv, bq, c55⟩ := F1.c55
    refine ⟨h2, ?_, I2⟩
    simp only [s263_576, s263_577, s263_578, s263_579, s263_580, s263_581, s263_582, s263_583, s263_584, s263_585, s263_586, s263_587, s263_590, s263_591, s263_594, s263_595, s263_598, s263_599, s263_600, s263_601, s263_602, s263_603, s263_604, s263_605, s263_606, s263_607, s263_608, s263_609, s263_612, s263_613, s263_616, s263_617, s263_620, s263_623, s263_624, okF, okA, mcC_o, mcF_o, mcT_i, mcT_l, mcT_z, mcT_q, mcN_i, mcN_l, mcN_z, mcN_q, mcI_i, mcI_z, mcL_l, mcQ_q, hg_hp, hp_hp, List.getD_cons_zero, List.getD_cons_succ, List.set_cons_zero, List.set_cons_succ, List.length_cons, List.length_nil, Nat.reduceAdd, Nat.reduceLT, Nat.reduceEqDiff, Nat.lt_add_one, decide_true, decide_false, Bool.and_true, Bool.true_and, Bool.and_false, Bool.false_and, Bool.false_eq_true, if_true, if_false, ↓reduceIte, Option.bind_some, Option.bind_none, kont_v, kont_n, r0, r1, r2, r3, r4, r5, r6, c0, c55, e1, e2, eq_self, lgc_self, z]
  · obtain ⟨v, h1, h2, e1, e2, F1, I2⟩ := (S_tear (X := X) I (Or.inr rfl) : SAME X t h 123 [.ref 0, .int (X.2 (nI i + 1).toNatClampNeg), .int 1] 176 [.ref 55, .int (X.2 (nI i + 1).toNatClampNeg), .int 1])
    obtain ⟨x, rfl⟩ := ret_i mr_123 e1
    obtain ⟨io, wl, pl, sp, wa, se, bc, sv, bq, c55⟩ := F1.c55
    refine ⟨h2, ?_, I2⟩
    simp only [s263_576, s263_577, s263_578, s263_579, s263_580, s263_581, s263_582, s263_583, s263_584, s263_585, s263_586, s263_587, s263_590, s263_591, s263_594, s263_595, s263_598, s263_599, s263_600, s263_601, s263_602, s263_603, s263_604, s263_605, s263_606, s263_607, s263_608, s263_609, s263_612, s263_613, s263_616, s263_617, s263_620, s263_623, s263_624, okF, okA, mcC_o, mcF_o, mcT_i, mcT_l, mcT_z, mcT_q, mcN_i, mcN_l, mcN_z, mcN_q, mcI_i, mcI_z, mcL_l, mcQ_q, hg_hp, hp_hp, List.getD_cons_zero, List.getD_cons_succ, List.set_cons_zero, List.set_cons_succ, List.length_cons, List.length_nil, Nat.reduceAdd, Nat.reduceLT, Nat.reduceEqDiff, Nat.lt_add_one, decide_true, decide_false, Bool.and_true, Bool.true_and, Bool.and_false, Bool.false_and, Bool.false_eq_true, if_true, if_false, ↓reduceIte, Option.bind_some, Option.bind_none, kont_v, kont_n, r0, r1, r2, r3, r4, r5, r6, c0, c55, e1, e2, eq_self, lgc_self, z]
theorem lw_11 (I : INV t h) (ht : t ≤ 1000) (r : RIX X i) : ∃ h2 : MH, ev X 263 625 [.retAddr 0, .ref 0, .ref 55, .int (nI i)] [] h = ev X 263 1541 [.retAddr 0, .ref 0, .ref 55, .int (nI i)] [] h2 ∧ INV (t + 1) h2 := by
  obtain ⟨D, S, IM, KP, I⟩ := I
  obtain ⟨r0, r1, r2, r3, r4, r5, r6⟩ := r
  have c0 := I.2.1.c0
  obtain ⟨v, h1, h2, e1, e2, F1, I2⟩ := (S_about (X := X) I : SAME X t h 124 [.ref 0, .int (X.2 (nI i + 1).toNatClampNeg), .int (X.2 (nI i + 2).toNatClampNeg)] 177 [.ref 55, .int (X.2 (nI i + 1).toNatClampNeg), .int (X.2 (nI i + 2).toNatClampNeg)])
  obtain ⟨x, rfl⟩ := ret_i mr_124 e1
  obtain ⟨io, wl, pl, sp, wa, se, bc, sv, bq, c55⟩ := F1.c55
  refine ⟨h2, ?_, I2⟩
  simp only [s263_625, s263_626, s263_627, s263_628, s263_629, s263_630, s263_631, s263_632, s263_633, s263_634, s263_635, s263_636, s263_639, s263_640, s263_641, s263_642, s263_643, s263_644, s263_645, s263_646, s263_647, s263_648, s263_649, s263_650, s263_653, s263_656, s263_657, okF, okA, mcC_o, mcF_o, mcT_i, mcT_l, mcT_z, mcT_q, mcN_i, mcN_l, mcN_z, mcN_q, mcI_i, mcI_z, mcL_l, mcQ_q, hg_hp, hp_hp, List.getD_cons_zero, List.getD_cons_succ, List.set_cons_zero, List.set_cons_succ, List.length_cons, List.length_nil, Nat.reduceAdd, Nat.reduceLT, Nat.reduceEqDiff, Nat.lt_add_one, decide_true, decide_false, Bool.and_true, Bool.true_and, Bool.and_false, Bool.false_and, Bool.false_eq_true, if_true, if_false, ↓reduceIte, Option.bind_some, Option.bind_none, kont_v, kont_n, r0, r1, r2, r3, r4, r5, r6, c0, c55, e1, e2, eq_self, lgc_self]
theorem lw_12 (I : INV t h) (ht : t ≤ 1000) (r : RIX X i) : ∃ h2 : MH, ev X 263 658 [.retAddr 0, .ref 0, .ref 55, .int (nI i)] [] h = ev X 263 1541 [.retAddr 0, .ref 0, .ref 55, .int (nI i)] [] h2 ∧ INV (t + 1) h2 := by
  obtain ⟨D, S, IM, KP, I⟩ := I
  obtain ⟨r0, r1, r2, r3, r4, r5, r6⟩ := r
  have c0 := I.2.1.c0
  obtain ⟨v, h1, h2, e1, e2, F1, I2⟩ := (S_pool (X := X) I : SAME X t h 125 [.ref 0, .int (X.2 (nI i + 1).toNatClampNeg), .float 0] 179 [.ref 55, .int (X.2 (nI i + 1).toNatClampNeg)])
  obtain ⟨x, rfl⟩ := ret_i mr_125 e1
  obtain ⟨io, wl, pl, sp, wa, se, bc, sv, bq, c55⟩ := F1.c55
  refine ⟨h2, ?_, I2⟩
  simp only [s263_658, s263_659, s263_660, s263_661, s263_662, s263_663, s263_664, s263_667, s263_668, s263_669, s263_670, s263_671, s263_672, s263_673, s263_676, s263_679, s263_680, okF, okA, mcC_o, mcF_o, mcT_i, mcT_l, mcT_z, mcT_q, mcN_i, mcN_l, mcN_z, mcN_q, mcI_i, mcI_z, mcL_l, mcQ_q, hg_hp, hp_hp, List.getD_cons_zero, List.getD_cons_succ, List.set_cons_zero, List.set_cons_succ, List.length_cons, List.length_nil, Nat.reduceAdd, Nat.reduceLT, Nat.reduceEqDiff, Nat.lt_add_one, decide_true, decide_false, Bool.and_true, Bool.true_and, Bool.and_false, Bool.false_and, Bool.false_eq_true, if_true, if_false, ↓reduceIte, Option.bind_some, Option.bind_none, kont_v, kont_n, r0, r1, r2, r3, r4, r5, r6, c0, c55, e1, e2, eq_self, lgc_self]
theorem lw_13 (I : INV t h) (ht : t ≤ 1000) (r : RIX X i) : ∃ h2 : MH, ev X 263 681 [.retAddr 0, .ref 0, .ref 55, .int (nI i)] [] h = ev X 263 1541 [.retAddr 0, .ref 0, .ref 55, .int (nI i)] [] h2 ∧ INV (t + 1) h2 := by
  obtain ⟨D, S, IM, KP, I⟩ := I
  obtain ⟨r0, r1, r2, r3, r4, r5, r6⟩ := r
  have c0 := I.2.1.c0
  obtain ⟨v, h1, h2, e1, e2, F1, I2⟩ := (S_indicator (X := X) I : SAME X t h 126 [.ref 0, .int (X.2 (nI i + 1).toNatClampNeg), .int (X.2 (nI i + 2).toNatClampNeg), .int (X.2 (nI i + 3).toNatClampNeg)] 182 [.ref 55, .int (X.2 (nI i + 1).toNatClampNeg), .int (X.2 (nI i + 2).toNatClampNeg), .int (X.2 (nI i + 3).toNatClampNeg)])
  obtain ⟨x, rfl⟩ := ret_i mr_126 e1
  obtain ⟨io, wl, pl, sp, wa, se, bc, sv, bq, c55⟩ := F1.c55
  refine ⟨h2, ?_, I2⟩
  simp only [s263_681, s263_682, s263_683, s263_684, s263_685, s263_686, s263_687, s263_688, s263_689, s263_690, s263_691, s263_692, s263_693, s263_694, s263_695, s263_696, s263_697, s263_700, s263_701, s263_702, s263_703, s263_704, s263_705, s263_706, s263_707, s263_708, s263_709, s263_710, s263_711, s263_712, s263_713, s263_714, s263_715, s263_716, s263_719, s263_722, s263_723, okF, okA, mcC_o, mcF_o, mcT_i, mcT_l, mcT_z, mcT_q, mcN_i, mcN_l, mcN_z, mcN_q, mcI_i, mcI_z, mcL_l, mcQ_q, hg_hp, hp_hp, List.getD_cons_zero, List.getD_cons_succ, List.set_cons_zero, List.set_cons_succ, List.length_cons, List.length_nil, Nat.reduceAdd, Nat.reduceLT, Nat.reduceEqDiff, Nat.lt_add_one, decide_true, decide_false, Bool.and_true, Bool.true_and, Bool.and_false, Bool.false_and, Bool.false_eq_true, if_true, if_false, ↓reduceIte, Option.bind_some, Option.bind_none, kont_v, kont_n, r0, r1, r2, r3, r4, r5, r6, c0, c55, e1, e2, eq_self, lgc_self]
theorem lw_14 (I : INV t h) (ht : t ≤ 1000) (r : RIX X i) : ∃ h2 : MH, ev X 263 724 [.retAddr 0, .ref 0, .ref 55, .int (nI i)] [] h = ev X 263 1541 [.retAddr 0, .ref 0, .ref 55, .int (nI i)] [] h2 ∧ INV (t + 1) h2 := by
  obtain ⟨D, S, IM, KP, I⟩ := I
  obtain ⟨r0, r1, r2, r3, r4, r5, r6⟩ := r
  have c0 := I.2.1.c0
  obtain ⟨v, h1, h2, e1, e2, F1, I2⟩ := (S_order (X := X) I : SAME X t h 127 [.ref 0, .int (X.2 (nI i + 1).toNatClampNeg), .int (X.2 (nI i + 2).toNatClampNeg)] 186 [.ref 55, .int (X.2 (nI i + 1).toNatClampNeg), .int (X.2 (nI i + 2).toNatClampNeg)])
  obtain ⟨x, rfl⟩ := ret_i mr_127 e1
  obtain ⟨io, wl, pl, sp, wa, se, bc, sv, bq, c55⟩ := F1.c55
  refine ⟨h2, ?_, I2⟩
  simp only [s263_724, s263_725, s263_726, s263_727, s263_728, s263_729, s263_730, s263_731, s263_732, s263_733, s263_734, s263_735, s263_738, s263_739, s263_740, s263_741, s263_742, s263_743, s263_744, s263_745, s263_746, s263_747, s263_748, s263_749, s263_752, s263_755, s263_756, okF, okA, mcC_o, mcF_o, mcT_i, mcT_l, mcT_z, mcT_q, mcN_i, mcN_l, mcN_z, mcN_q, mcI_i, mcI_z, mcL_l, mcQ_q, hg_hp, hp_hp, List.getD_cons_zero, List.getD_cons_succ, List.set_cons_zero, List.set_cons_succ, List.length_cons, List.length_nil, Nat.reduceAdd, Nat.reduceLT, Nat.reduceEqDiff, Nat.lt_add_one, decide_true, decide_false, Bool.and_true, Bool.true_and, Bool.and_false, Bool.false_and, Bool.false_eq_true, if_true, if_false, ↓reduceIte, Option.bind_some, Option.bind_none, kont_v, kont_n, r0, r1, r2, r3, r4, r5, r6, c0, c55, e1, e2, eq_self, lgc_self]
theorem lw_15 (I : INV t h) (ht : t ≤ 1000) (r : RIX X i) : ∃ h2 : MH, ev X 263 757 [.retAddr 0, .ref 0, .ref 55, .int (nI i)] [] h = ev X 263 1541 [.retAddr 0, .ref 0, .ref 55, .int (nI i)] [] h2 ∧ INV (t + 1) h2 := by
  obtain ⟨D, S, IM, KP, I⟩ := I
  obtain ⟨r0, r1, r2, r3, r4, r5, r6⟩ := r
  have c0 := I.2.1.c0
  obtain ⟨v, h1, h2, e1, e2, F1, I2⟩ := (S_write (X := X) I : SAME X t h 128 [.ref 0, .int (X.2 (nI i + 1).toNatClampNeg), .int (X.2 (nI i + 2).toNatClampNeg), .float 0] 190 [.ref 55, .int (X.2 (nI i + 1).toNatClampNeg), .int (X.2 (nI i + 2).toNatClampNeg), .float 0])
  obtain ⟨x, rfl⟩ := ret_i mr_128 e1
  obtain ⟨io, wl, pl, sp, wa, se, bc, sv, bq, c55⟩ := F1.c55
  refine ⟨h2, ?_, I2⟩
  simp only [s263_757, s263_758, s263_759, s263_760, s263_761, s263_762, s263_763, s263_764, s263_765, s263_766, s263_767, s263_768, s263_771, s263_772, s263_773, s263_774, s263_775, s263_776, s263_777, s263_778, s263_779, s263_780, s263_781, s263_782, s263_785, s263_788, s263_789, okF, okA, mcC_o, mcF_o, mcT_i, mcT_l, mcT_z, mcT_q, mcN_i, mcN_l, mcN_z, mcN_q, mcI_i, mcI_z, mcL_l, mcQ_q, hg_hp, hp_hp, List.getD_cons_zero, List.getD_cons_succ, List.set_cons_zero, List.set_cons_succ, List.length_cons, List.length_nil, Nat.reduceAdd, Nat.reduceLT, Nat.reduceEqDiff, Nat.lt_add_one, decide_true, decide_false, Bool.and_true, Bool.true_and, Bool.and_false, Bool.false_and, Bool.false_eq_true, if_true, if_false, ↓reduceIte, Option.bind_some, Option.bind_none, kont_v, kont_n, r0, r1, r2, r3, r4, r5, r6, c0, c55, e1, e2, eq_self, lgc_self]
theorem lw_16 (I : INV t h) (ht : t ≤ 1000) (r : RIX X i) : ∃ h2 : MH, ev X 263 790 [.retAddr 0, .ref 0, .ref 55, .int (nI i)] [] h = ev X 263 1541 [.retAddr 0, .ref 0, .ref 55, .int (nI i)] [] h2 ∧ INV (t + 1) h2 := by
  obtain ⟨D, S, IM, KP, I⟩ := I
  obtain ⟨r0, r1, r2, r3, r4, r5, r6⟩ := r
  have c0 := I.2.1.c0
  obtain ⟨v, h1, h2, e1, e2, F1, I2⟩ := (S_erase (X := X) I : SAME X t h 129 [.ref 0, .int (X.2 (nI i + 1).toNatClampNeg), .float 0] 192 [.ref 55, .int (X.2 (nI i + 1).toNatClampNeg), .float 0])
  obtain ⟨x, rfl⟩ := ret_i mr_129 e1
  obtain ⟨io, wl, pl, sp, wa, se, bc, sv, bq, c55⟩ := F1.c55
  refine ⟨h2, ?_, I2⟩
  simp only [s263_790, s263_791, s263_792, s263_793, s263_794, s263_795, s263_796, s263_799, s263_800, s263_801, s263_802, s263_803, s263_804, s263_805, s263_808, s263_811, s263_812, okF, okA, mcC_o, mcF_o, mcT_i, mcT_l, mcT_z, mcT_q, mcN_i, mcN_l, mcN_z, mcN_q, mcI_i, mcI_z, mcL_l, mcQ_q, hg_hp, hp_hp, List.getD_cons_zero, List.getD_cons_succ, List.set_cons_zero, List.set_cons_succ, List.length_cons, List.length_nil, Nat.reduceAdd, Nat.reduceLT, Nat.reduceEqDiff, Nat.lt_add_one, decide_true, decide_false, Bool.and_true, Bool.true_and, Bool.and_false, Bool.false_and, Bool.false_eq_true, if_true, if_false, ↓reduceIte, Option.bind_some, Option.bind_none, kont_v, kont_n, r0, r1, r2, r3, r4, r5, r6, c0, c55, e1, e2, eq_self, lgc_self]
theorem lw_17 (I : INV t h) (ht : t ≤ 1000) (r : RIX X i) : ∃ h2 : MH, ev X 263 813 [.retAddr 0, .ref 0, .ref 55, .int (nI i)] [] h = ev X 263 1541 [.retAddr 0, .ref 0, .ref 55, .int (nI i)] [] h2 ∧ INV (t + 1) h2 := by
  obtain ⟨D, S, IM, KP, I⟩ := I
  obtain ⟨r0, r1, r2, r3, r4, r5, r6⟩ := r
  have c0 := I.2.1.c0
  obtain ⟨v, h1, h2, e1, e2, F1, I2⟩ := (S_fault (X := X) I : SAME X t h 130 [.ref 0, .int (X.2 (nI i + 1).toNatClampNeg)] 193 [.ref 55, .int (X.2 (nI i + 1).toNatClampNeg)])
  obtain ⟨x, rfl⟩ := ret_i mr_130 e1
  obtain ⟨io, wl, pl, sp, wa, se, bc, sv, bq, c55⟩ := F1.c55
  refine ⟨h2, ?_, I2⟩
  simp only [s263_813, s263_814, s263_815, s263_816, s263_817, s263_818, s263_819, s263_822, s263_823, s263_824, s263_825, s263_826, s263_827, s263_828, s263_831, s263_834, s263_835, okF, okA, mcC_o, mcF_o, mcT_i, mcT_l, mcT_z, mcT_q, mcN_i, mcN_l, mcN_z, mcN_q, mcI_i, mcI_z, mcL_l, mcQ_q, hg_hp, hp_hp, List.getD_cons_zero, List.getD_cons_succ, List.set_cons_zero, List.set_cons_succ, List.length_cons, List.length_nil, Nat.reduceAdd, Nat.reduceLT, Nat.reduceEqDiff, Nat.lt_add_one, decide_true, decide_false, Bool.and_true, Bool.true_and, Bool.and_false, Bool.false_and, Bool.false_eq_true, if_true, if_false, ↓reduceIte, Option.bind_some, Option.bind_none, kont_v, kont_n, r0, r1, r2, r3, r4, r5, r6, c0, c55, e1, e2, eq_self, lgc_self]
theorem lw_18 (I : INV t h) (ht : t ≤ 1000) (r : RIX X i) : ∃ h2 : MH, ev X 263 836 [.retAddr 0, .ref 0, .ref 55, .int (nI i)] [] h = ev X 263 1541 [.retAddr 0, .ref 0, .ref 55, .int (nI i)] [] h2 ∧ INV (t + 1) h2 := by
  obtain ⟨D, S, IM, KP, I⟩ := I
  obtain ⟨r0, r1, r2, r3, r4, r5, r6⟩ := r
  have c0 := I.2.1.c0
  obtain ⟨v, h1, h2, e1, e2, F1, I2⟩ := (S_tells (X := X) I : SAME X t h 131 [.ref 0, .int (X.2 (nI i + 1).toNatClampNeg), .int (X.2 (nI i + 2).toNatClampNeg), .int (X.2 (nI i + 3).toNatClampNeg)] 201 [.ref 55, .int (X.2 (nI i + 1).toNatClampNeg), .int (X.2 (nI i + 2).toNatClampNeg), .int (X.2 (nI i + 3).toNatClampNeg)])
  obtain ⟨x, rfl⟩ := ret_l mr_131 e1
  obtain ⟨io, wl, pl, sp, wa, se, bc, sv, bq, c55⟩ := F1.c55
  refine ⟨h2, ?_, I2⟩
  simp only [s263_836, s263_837, s263_838, s263_839, s263_840, s263_841, s263_842, s263_843, s263_844, s263_845, s263_846, s263_847, s263_848, s263_849, s263_850, s263_851, s263_852, s263_855, s263_856, s263_857, s263_858, s263_859, s263_860, s263_861, s263_862, s263_863, s263_864, s263_865, s263_866, s263_867, s263_868, s263_869, s263_870, s263_871, s263_874, s263_875, s263_878, s263_879, okF, okA, mcC_o, mcF_o, mcT_i, mcT_l, mcT_z, mcT_q, mcN_i, mcN_l, mcN_z, mcN_q, mcI_i, mcI_z, mcL_l, mcQ_q, hg_hp, hp_hp, List.getD_cons_zero, List.getD_cons_succ, List.set_cons_zero, List.set_cons_succ, List.length_cons, List.length_nil, Nat.reduceAdd, Nat.reduceLT, Nat.reduceEqDiff, Nat.lt_add_one, decide_true, decide_false, Bool.and_true, Bool.true_and, Bool.and_false, Bool.false_and, Bool.false_eq_true, if_true, if_false, ↓reduceIte, Option.bind_some, Option.bind_none, kont_v, kont_n, r0, r1, r2, r3, r4, r5, r6, c0, c55, e1, e2, eq_self, lgc_self]
theorem lw_19 (I : INV t h) (ht : t ≤ 1000) (r : RIX X i) : ∃ h2 : MH, ev X 263 880 [.retAddr 0, .ref 0, .ref 55, .int (nI i)] [] h = ev X 263 1541 [.retAddr 0, .ref 0, .ref 55, .int (nI i)] [] h2 ∧ INV (t + 1) h2 := by
  obtain ⟨D, S, IM, KP, I⟩ := I
  obtain ⟨r0, r1, r2, r3, r4, r5, r6⟩ := r
  have c0 := I.2.1.c0
  obtain ⟨v, h1, h2, e1, e2, F1, I2⟩ := (S_beside (X := X) I : SAME X t h 132 [.ref 0, .int (X.2 (nI i + 1).toNatClampNeg), .int (X.2 (nI i + 2).toNatClampNeg), .int (X.2 (nI i + 3).toNatClampNeg)] 204 [.ref 55, .int (X.2 (nI i + 1).toNatClampNeg), .int (X.2 (nI i + 2).toNatClampNeg), .int (X.2 (nI i + 3).toNatClampNeg), .float 0, .float 0, .float 0])
  obtain ⟨x, rfl⟩ := ret_i mr_132 e1
  obtain ⟨io, wl, pl, sp, wa, se, bc, sv, bq, c55⟩ := F1.c55
  refine ⟨h2, ?_, I2⟩
  simp only [s263_880, s263_881, s263_882, s263_883, s263_884, s263_885, s263_886, s263_887, s263_888, s263_889, s263_890, s263_891, s263_892, s263_893, s263_894, s263_895, s263_896, s263_899, s263_900, s263_901, s263_902, s263_903, s263_904, s263_905, s263_906, s263_907, s263_908, s263_909, s263_910, s263_911, s263_912, s263_913, s263_914, s263_915, s263_918, s263_921, s263_922, okF, okA, mcC_o, mcF_o, mcT_i, mcT_l, mcT_z, mcT_q, mcN_i, mcN_l, mcN_z, mcN_q, mcI_i, mcI_z, mcL_l, mcQ_q, hg_hp, hp_hp, List.getD_cons_zero, List.getD_cons_succ, List.set_cons_zero, List.set_cons_succ, List.length_cons, List.length_nil, Nat.reduceAdd, Nat.reduceLT, Nat.reduceEqDiff, Nat.lt_add_one, decide_true, decide_false, Bool.and_true, Bool.true_and, Bool.and_false, Bool.false_and, Bool.false_eq_true, if_true, if_false, ↓reduceIte, Option.bind_some, Option.bind_none, kont_v, kont_n, r0, r1, r2, r3, r4, r5, r6, c0, c55, e1, e2, eq_self, lgc_self]
theorem lw_20 (I : INV t h) (ht : t ≤ 1000) (r : RIX X i) : ∃ h2 : MH, ev X 263 923 [.retAddr 0, .ref 0, .ref 55, .int (nI i)] [] h = ev X 263 1541 [.retAddr 0, .ref 0, .ref 55, .int (nI i)] [] h2 ∧ INV (t + 1) h2 := by
  obtain ⟨D, S, IM, KP, I⟩ := I
  obtain ⟨r0, r1, r2, r3, r4, r5, r6⟩ := r
  have c0 := I.2.1.c0
  obtain ⟨v, h1, h2, e1, e2, F1, I2⟩ := (S_hangs (X := X) I : SAME X t h 133 [.ref 0, .int (X.2 (nI i + 1).toNatClampNeg), .float 0] 189 [.ref 55, .int (X.2 (nI i + 1).toNatClampNeg), .float 0, .float 0, .float 0, .float 0])
  obtain ⟨x, rfl⟩ := ret_i mr_133 e1
  obtain ⟨io, wl, pl, sp, wa, se, bc, sv, bq, c55⟩ := F1.c55
  refine ⟨h2, ?_, I2⟩
  simp only [s263_923, s263_924, s263_925, s263_926, s263_927, s263_928, s263_929, s263_932, s263_933, s263_934, s263_935, s263_936, s263_937, s263_938, s263_941, s263_944, s263_945, okF, okA, mcC_o, mcF_o, mcT_i, mcT_l, mcT_z, mcT_q, mcN_i, mcN_l, mcN_z, mcN_q, mcI_i, mcI_z, mcL_l, mcQ_q, hg_hp, hp_hp, List.getD_cons_zero, List.getD_cons_succ, List.set_cons_zero, List.set_cons_succ, List.length_cons, List.length_nil, Nat.reduceAdd, Nat.reduceLT, Nat.reduceEqDiff, Nat.lt_add_one, decide_true, decide_false, Bool.and_true, Bool.true_and, Bool.and_false, Bool.false_and, Bool.false_eq_true, if_true, if_false, ↓reduceIte, Option.bind_some, Option.bind_none, kont_v, kont_n, r0, r1, r2, r3, r4, r5, r6, c0, c55, e1, e2, eq_self, lgc_self]
theorem lw_21 (I : INV t h) (ht : t ≤ 1000) (r : RIX X i) : ∃ h2 : MH, ev X 263 946 [.retAddr 0, .ref 0, .ref 55, .int (nI i)] [] h = ev X 263 1541 [.retAddr 0, .ref 0, .ref 55, .int (nI i)] [] h2 ∧ INV (t + 1) h2 := by
  obtain ⟨D, S, IM, KP, I⟩ := I
  obtain ⟨r0, r1, r2, r3, r4, r5, r6⟩ := r
  have c0 := I.2.1.c0
  obtain ⟨v, h1, h2, e1, e2, F1, I2⟩ := (S_ladder (X := X) I : SAME X t h 134 [.ref 0, .int (X.2 (nI i + 1).toNatClampNeg), .int (X.2 (nI i + 2).toNatClampNeg), .int (X.2 (nI i + 3).toNatClampNeg), .float 0] 205 [.ref 55, .int (X.2 (nI i + 1).toNatClampNeg), .int (X.2 (nI i + 2).toNatClampNeg), .int (X.2 (nI i + 3).toNatClampNeg), .float 0, .float 0, .float 0, .float 0])
  obtain ⟨x, rfl⟩ := ret_i mr_134 e1
  obtain ⟨io, wl, pl, sp, wa, se, bc, sv, bq, c55⟩ := F1.c55
  refine ⟨h2, ?_, I2⟩
  simp only [s263_946, s263_947, s263_948, s263_949, s263_950, s263_951, s263_952, s263_953, s263_954, s263_955, s263_956, s263_957, s263_958, s263_959, s263_960, s263_961, s263_962, s263_965, s263_966, s263_967, s263_968, s263_969, s263_970, s263_971, s263_972, s263_973, s263_974, s263_975, s263_976, s263_977, s263_978, s263_979, s263_980, s263_981, s263_984, s263_987, s263_988, okF, okA, mcC_o, mcF_o, mcT_i, mcT_l, mcT_z, mcT_q, mcN_i, mcN_l, mcN_z, mcN_q, mcI_i, mcI_z, mcL_l, mcQ_q, hg_hp, hp_hp, List.getD_cons_zero, List.getD_cons_succ, List.set_cons_zero, List.set_cons_succ, List.length_cons, List.length_nil, Nat.reduceAdd, Nat.reduceLT, Nat.reduceEqDiff, Nat.lt_add_one, decide_true, decide_false, Bool.and_true, Bool.true_and, Bool.and_false, Bool.false_and, Bool.false_eq_true, if_true, if_false, ↓reduceIte, Option.bind_some, Option.bind_none, kont_v, kont_n, r0, r1, r2, r3, r4, r5, r6, c0, c55, e1, e2, eq_self, lgc_self]
theorem lw_22 (I : INV t h) (ht : t ≤ 1000) (r : RIX X i) : ∃ h2 : MH, ev X 263 989 [.retAddr 0, .ref 0, .ref 55, .int (nI i)] [] h = ev X 263 1541 [.retAddr 0, .ref 0, .ref 55, .int (nI i)] [] h2 ∧ INV (t + 1) h2 := by
  obtain ⟨D, S, IM, KP, I⟩ := I
  obtain ⟨r0, r1, r2, r3, r4, r5, r6⟩ := r
  have c0 := I.2.1.c0
  obtain ⟨v, h1, h2, e1, e2, F1, I2⟩ := (S_apart (X := X) I : SAME X t h 135 [.ref 0, .int (X.2 (nI i + 1).toNatClampNeg), .int (X.2 (nI i + 2).toNatClampNeg), .int (X.2 (nI i + 3).toNatClampNeg)] 209 [.ref 55, .int (X.2 (nI i + 1).toNatClampNeg), .int (X.2 (nI i + 2).toNatClampNeg), .int (X.2 (nI i + 3).toNatClampNeg), .float 0])
  obtain ⟨x, rfl⟩ := ret_i mr_135 e1
  obtain ⟨io, wl, pl, sp, wa, se, bc, sv, bq, c55⟩ := F1.c55
  refine ⟨h2, ?_, I2⟩
  simp only [s263_989, s263_990, s263_991, s263_992, s263_993, s263_994, s263_995, s263_996, s263_997, s263_998, s263_999, s263_1000, s263_1001, s263_1002, s263_1003, s263_1004, s263_1005, s263_1008, s263_1009, s263_1010, s263_1011, s263_1012, s263_1013, s263_1014, s263_1015, s263_1016, s263_1017, s263_1018, s263_1019, s263_1020, s263_1021, s263_1022, s263_1023, s263_1024, s263_1027, s263_1030, s263_1031, okF, okA, mcC_o, mcF_o, mcT_i, mcT_l, mcT_z, mcT_q, mcN_i, mcN_l, mcN_z, mcN_q, mcI_i, mcI_z, mcL_l, mcQ_q, hg_hp, hp_hp, List.getD_cons_zero, List.getD_cons_succ, List.set_cons_zero, List.set_cons_succ, List.length_cons, List.length_nil, Nat.reduceAdd, Nat.reduceLT, Nat.reduceEqDiff, Nat.lt_add_one, decide_true, decide_false, Bool.and_true, Bool.true_and, Bool.and_false, Bool.false_and, Bool.false_eq_true, if_true, if_false, ↓reduceIte, Option.bind_some, Option.bind_none, kont_v, kont_n, r0, r1, r2, r3, r4, r5, r6, c0, c55, e1, e2, eq_self, lgc_self]
theorem lw_23 (I : INV t h) (ht : t ≤ 1000) (r : RIX X i) : ∃ h2 : MH, ev X 263 1032 [.retAddr 0, .ref 0, .ref 55, .int (nI i)] [] h = ev X 263 1541 [.retAddr 0, .ref 0, .ref 55, .int (nI i)] [] h2 ∧ INV (t + 1) h2 := by
  obtain ⟨D, S, IM, KP, I⟩ := I
  obtain ⟨r0, r1, r2, r3, r4, r5, r6⟩ := r
  have c0 := I.2.1.c0
  obtain ⟨v, h1, h2, e1, e2, F1, I2⟩ := (S_referee (X := X) I : SAME X t h 136 [.ref 0, .int (X.2 (nI i + 1).toNatClampNeg), .int (X.2 (nI i + 2).toNatClampNeg), .float 0] 214 [.ref 55, .int (X.2 (nI i + 1).toNatClampNeg), .int (X.2 (nI i + 2).toNatClampNeg), .float 0])
  obtain ⟨x, rfl⟩ := ret_i mr_136 e1
  obtain ⟨io, wl, pl, sp, wa, se, bc, sv, bq, c55⟩ := F1.c55
  refine ⟨h2, ?_, I2⟩
  simp only [s263_1032, s263_1033, s263_1034, s263_1035, s263_1036, s263_1037, s263_1038, s263_1039, s263_1040, s263_1041, s263_1042, s263_1043, s263_1046, s263_1047, s263_1048, s263_1049, s263_1050, s263_1051, s263_1052, s263_1053, s263_1054, s263_1055, s263_1056, s263_1057, s263_1060, s263_1063, s263_1064, okF, okA, mcC_o, mcF_o, mcT_i, mcT_l, mcT_z, mcT_q, mcN_i, mcN_l, mcN_z, mcN_q, mcI_i, mcI_z, mcL_l, mcQ_q, hg_hp, hp_hp, List.getD_cons_zero, List.getD_cons_succ, List.set_cons_zero, List.set_cons_succ, List.length_cons, List.length_nil, Nat.reduceAdd, Nat.reduceLT, Nat.reduceEqDiff, Nat.lt_add_one, decide_true, decide_false, Bool.and_true, Bool.true_and, Bool.and_false, Bool.false_and, Bool.false_eq_true, if_true, if_false, ↓reduceIte, Option.bind_some, Option.bind_none, kont_v, kont_n, r0, r1, r2, r3, r4, r5, r6, c0, c55, e1, e2, eq_self, lgc_self]
theorem lw_24 (I : INV t h) (ht : t ≤ 1000) (r : RIX X i) : ∃ h2 : MH, ev X 263 1065 [.retAddr 0, .ref 0, .ref 55, .int (nI i)] [] h = ev X 263 1541 [.retAddr 0, .ref 0, .ref 55, .int (nI i)] [] h2 ∧ INV (t + 1) h2 := by
  obtain ⟨D, S, IM, KP, I⟩ := I
  obtain ⟨r0, r1, r2, r3, r4, r5, r6⟩ := r
  have c0 := I.2.1.c0
  obtain ⟨v, h1, h2, e1, e2, F1, I2⟩ := (S_service (X := X) I ht : SAME X t h 137 [.ref 0, .int (X.2 (nI i + 1).toNatClampNeg), .int (X.2 (nI i + 2).toNatClampNeg)] 215 [.ref 55, .int (X.2 (nI i + 1).toNatClampNeg), .int (X.2 (nI i + 2).toNatClampNeg), .float 0])
  obtain ⟨x, rfl⟩ := ret_i mr_137 e1
  obtain ⟨io, wl, pl, sp, wa, se, bc, sv, bq, c55⟩ := F1.c55
  refine ⟨h2, ?_, I2⟩
  simp only [s263_1065, s263_1066, s263_1067, s263_1068, s263_1069, s263_1070, s263_1071, s263_1072, s263_1073, s263_1074, s263_1075, s263_1076, s263_1079, s263_1080, s263_1081, s263_1082, s263_1083, s263_1084, s263_1085, s263_1086, s263_1087, s263_1088, s263_1089, s263_1090, s263_1093, s263_1096, s263_1097, okF, okA, mcC_o, mcF_o, mcT_i, mcT_l, mcT_z, mcT_q, mcN_i, mcN_l, mcN_z, mcN_q, mcI_i, mcI_z, mcL_l, mcQ_q, hg_hp, hp_hp, List.getD_cons_zero, List.getD_cons_succ, List.set_cons_zero, List.set_cons_succ, List.length_cons, List.length_nil, Nat.reduceAdd, Nat.reduceLT, Nat.reduceEqDiff, Nat.lt_add_one, decide_true, decide_false, Bool.and_true, Bool.true_and, Bool.and_false, Bool.false_and, Bool.false_eq_true, if_true, if_false, ↓reduceIte, Option.bind_some, Option.bind_none, kont_v, kont_n, r0, r1, r2, r3, r4, r5, r6, c0, c55, e1, e2, eq_self, lgc_self]
theorem lw_25 (I : INV t h) (ht : t ≤ 1000) (r : RIX X i) : ∃ h2 : MH, ev X 263 1098 [.retAddr 0, .ref 0, .ref 55, .int (nI i)] [] h = ev X 263 1541 [.retAddr 0, .ref 0, .ref 55, .int (nI i)] [] h2 ∧ INV (t + 1) h2 := by
  obtain ⟨D, S, IM, KP, I⟩ := I
  obtain ⟨r0, r1, r2, r3, r4, r5, r6⟩ := r
  have c0 := I.2.1.c0
  obtain ⟨v, h1, h2, e1, e2, F1, I2⟩ := (S_serve (X := X) I ht : SAME X t h 138 [.ref 0, .int (X.2 (nI i + 1).toNatClampNeg)] 219 [.ref 55, .int (X.2 (nI i + 1).toNatClampNeg), .float 0])
  obtain ⟨x, rfl⟩ := ret_i mr_138 e1
  obtain ⟨io, wl, pl, sp, wa, se, bc, sv, bq, c55⟩ := F1.c55
  refine ⟨h2, ?_, I2⟩
  simp only [s263_1098, s263_1099, s263_1100, s263_1101, s263_1102, s263_1103, s263_1104, s263_1107, s263_1108, s263_1109, s263_1110, s263_1111, s263_1112, s263_1113, s263_1116, s263_1119, s263_1120, okF, okA, mcC_o, mcF_o, mcT_i, mcT_l, mcT_z, mcT_q, mcN_i, mcN_l, mcN_z, mcN_q, mcI_i, mcI_z, mcL_l, mcQ_q, hg_hp, hp_hp, List.getD_cons_zero, List.getD_cons_succ, List.set_cons_zero, List.set_cons_succ, List.length_cons, List.length_nil, Nat.reduceAdd, Nat.reduceLT, Nat.reduceEqDiff, Nat.lt_add_one, decide_true, decide_false, Bool.and_true, Bool.true_and, Bool.and_false, Bool.false_and, Bool.false_eq_true, if_true, if_false, ↓reduceIte, Option.bind_some, Option.bind_none, kont_v, kont_n, r0, r1, r2, r3, r4, r5, r6, c0, c55, e1, e2, eq_self, lgc_self]
theorem lw_26 (I : INV t h) (ht : t ≤ 1000) (r : RIX X i) : ∃ h2 : MH, ev X 263 1121 [.retAddr 0, .ref 0, .ref 55, .int (nI i)] [] h = ev X 263 1541 [.retAddr 0, .ref 0, .ref 55, .int (nI i)] [] h2 ∧ INV (t + 1) h2 := by
  obtain ⟨D, S, IM, KP, I⟩ := I
  obtain ⟨r0, r1, r2, r3, r4, r5, r6⟩ := r
  have c0 := I.2.1.c0
  obtain ⟨v, h1, h2, e1, e2, F1, I2⟩ := (S_hours (X := X) I : SAME X t h 139 [.ref 0, .int (X.2 (nI i + 1).toNatClampNeg)] 220 [.ref 55, .int (X.2 (nI i + 1).toNatClampNeg)])
  obtain ⟨x, rfl⟩ := ret_i mr_139 e1
  obtain ⟨io, wl, pl, sp, wa, se, bc, sv, bq, c55⟩ := F1.c55
  refine ⟨h2, ?_, I2⟩
  simp only [s263_1121, s263_1122, s263_1123, s263_1124, s263_1125, s263_1126, s263_1127, s263_1130, s263_1131, s263_1132, s263_1133, s263_1134, s263_1135, s263_1136, s263_1139, s263_1142, s263_1143, okF, okA, mcC_o, mcF_o, mcT_i, mcT_l, mcT_z, mcT_q, mcN_i, mcN_l, mcN_z, mcN_q, mcI_i, mcI_z, mcL_l, mcQ_q, hg_hp, hp_hp, List.getD_cons_zero, List.getD_cons_succ, List.set_cons_zero, List.set_cons_succ, List.length_cons, List.length_nil, Nat.reduceAdd, Nat.reduceLT, Nat.reduceEqDiff, Nat.lt_add_one, decide_true, decide_false, Bool.and_true, Bool.true_and, Bool.and_false, Bool.false_and, Bool.false_eq_true, if_true, if_false, ↓reduceIte, Option.bind_some, Option.bind_none, kont_v, kont_n, r0, r1, r2, r3, r4, r5, r6, c0, c55, e1, e2, eq_self, lgc_self]
theorem lw_27 (I : INV t h) (ht : t ≤ 1000) (r : RIX X i) : ∃ h2 : MH, ev X 263 1144 [.retAddr 0, .ref 0, .ref 55, .int (nI i)] [] h = ev X 263 1541 [.retAddr 0, .ref 0, .ref 55, .int (nI i)] [] h2 ∧ INV (t + 1) h2 := by
  obtain ⟨D, S, IM, KP, I⟩ := I
  obtain ⟨r0, r1, r2, r3, r4, r5, r6⟩ := r
  have c0 := I.2.1.c0
  obtain ⟨v, h1, h2, e1, e2, F1, I2⟩ := (S_pair (X := X) I : SAME X t h 140 [.ref 0, .int (X.2 (nI i + 1).toNatClampNeg), .int (X.2 (nI i + 2).toNatClampNeg), .int (X.2 (nI i + 3).toNatClampNeg), .int (X.2 (nI i + 4).toNatClampNeg), .float 0] 221 [.ref 55, .int (X.2 (nI i + 1).toNatClampNeg), .int (X.2 (nI i + 2).toNatClampNeg), .int (X.2 (nI i + 3).toNatClampNeg), .int (X.2 (nI i + 4).toNatClampNeg)])
  obtain ⟨x, rfl⟩ := ret_i mr_140 e1
  obtain ⟨io, wl, pl, sp, wa, se, bc, sv, bq, c55⟩ := F1.c55
  refine ⟨h2, ?_, I2⟩
  simp only [s263_1144, s263_1145, s263_1146, s263_1147, s263_1148, s263_1149, s263_1150, s263_1151, s263_1152, s263_1153, s263_1154, s263_1155, s263_1156, s263_1157, s263_1158, s263_1159, s263_1160, s263_1161, s263_1162, s263_1163, s263_1164, s263_1165, s263_1168, s263_1169, s263_1170, s263_1171, s263_1172, s263_1173, s263_1174, s263_1175, s263_1176, s263_1177, s263_1178, s263_1179, s263_1180, s263_1181, s263_1182, s263_1183, s263_1184, s263_1185, s263_1186, s263_1187, s263_1188, s263_1189, s263_1192, s263_1195, s263_1196, okF, okA, mcC_o, mcF_o, mcT_i, mcT_l, mcT_z, mcT_q, mcN_i, mcN_l, mcN_z, mcN_q, mcI_i, mcI_z, mcL_l, mcQ_q, hg_hp, hp_hp, List.getD_cons_zero, List.getD_cons_succ, List.set_cons_zero, List.set_cons_succ, List.length_cons, List.length_nil, Nat.reduceAdd, Nat.reduceLT, Nat.reduceEqDiff, Nat.lt_add_one, decide_true, decide_false, Bool.and_true, Bool.true_and, Bool.and_false, Bool.false_and, Bool.false_eq_true, if_true, if_false, ↓reduceIte, Option.bind_some, Option.bind_none, kont_v, kont_n, r0, r1, r2, r3, r4, r5, r6, c0, c55, e1, e2, eq_self, lgc_self]
theorem lw_28 (I : INV t h) (ht : t ≤ 1000) (r : RIX X i) : ∃ h2 : MH, ev X 263 1197 [.retAddr 0, .ref 0, .ref 55, .int (nI i)] [] h = ev X 263 1541 [.retAddr 0, .ref 0, .ref 55, .int (nI i)] [] h2 ∧ INV (t + 1) h2 := by
  obtain ⟨D, S, IM, KP, I⟩ := I
  obtain ⟨r0, r1, r2, r3, r4, r5, r6⟩ := r
  have c0 := I.2.1.c0
  obtain ⟨v, h1, h2, e1, e2, F1, I2⟩ := (S_relay (X := X) I : SAME X t h 141 [.ref 0, .int (X.2 (nI i + 1).toNatClampNeg), .int (X.2 (nI i + 2).toNatClampNeg), .float 0] 222 [.ref 55, .int (X.2 (nI i + 1).toNatClampNeg), .int (X.2 (nI i + 2).toNatClampNeg), .float 0])
  obtain ⟨x, rfl⟩ := ret_i mr_141 e1
  obtain ⟨io, wl, pl, sp, wa, se, bc, sv, bq, c55⟩ := F1.c55
  refine ⟨h2, ?_, I2⟩
  simp only [s263_1197, s263_1198, s263_1199, s263_1200, s263_1201, s263_1202, s263_1203, s263_1204, s263_1205, s263_1206, s263_1207, s263_1208, s263_1211, s263_1212, s263_1213, s263_1214, s263_1215, s263_1216, s263_1217, s263_1218, s263_1219, s263_1220, s263_1221, s263_1222, s263_1225, s263_1228, s263_1229, okF, okA, mcC_o, mcF_o, mcT_i, mcT_l, mcT_z, mcT_q, mcN_i, mcN_l, mcN_z, mcN_q, mcI_i, mcI_z, mcL_l, mcQ_q, hg_hp, hp_hp, List.getD_cons_zero, List.getD_cons_succ, List.set_cons_zero, List.set_cons_succ, List.length_cons, List.length_nil, Nat.reduceAdd, Nat.reduceLT, Nat.reduceEqDiff, Nat.lt_add_one, decide_true, decide_false, Bool.and_true, Bool.true_and, Bool.and_false, Bool.false_and, Bool.false_eq_true, if_true, if_false, ↓reduceIte, Option.bind_some, Option.bind_none, kont_v, kont_n, r0, r1, r2, r3, r4, r5, r6, c0, c55, e1, e2, eq_self, lgc_self]
theorem lw_29 (I : INV t h) (ht : t ≤ 1000) (r : RIX X i) : ∃ h2 : MH, ev X 263 1230 [.retAddr 0, .ref 0, .ref 55, .int (nI i)] [] h = ev X 263 1541 [.retAddr 0, .ref 0, .ref 55, .int (nI i)] [] h2 ∧ INV (t + 1) h2 := by
  obtain ⟨D, S, IM, KP, I⟩ := I
  obtain ⟨r0, r1, r2, r3, r4, r5, r6⟩ := r
  have c0 := I.2.1.c0
  obtain ⟨v, h1, h2, e1, e2, F1, I2⟩ := (S_bestOrder (X := X) I : SAME X t h 142 [.ref 0] 227 [.ref 55, .float 0, .float 0, .float 0, .float 0])
  obtain ⟨x, rfl⟩ := ret_i mr_142 e1
  obtain ⟨io, wl, pl, sp, wa, se, bc, sv, bq, c55⟩ := F1.c55
  refine ⟨h2, ?_, I2⟩
  simp only [s263_1230, s263_1231, s263_1234, s263_1235, s263_1238, s263_1241, s263_1242, okF, okA, mcC_o, mcF_o, mcT_i, mcT_l, mcT_z, mcT_q, mcN_i, mcN_l, mcN_z, mcN_q, mcI_i, mcI_z, mcL_l, mcQ_q, hg_hp, hp_hp, List.getD_cons_zero, List.getD_cons_succ, List.set_cons_zero, List.set_cons_succ, List.length_cons, List.length_nil, Nat.reduceAdd, Nat.reduceLT, Nat.reduceEqDiff, Nat.lt_add_one, decide_true, decide_false, Bool.and_true, Bool.true_and, Bool.and_false, Bool.false_and, Bool.false_eq_true, if_true, if_false, ↓reduceIte, Option.bind_some, Option.bind_none, kont_v, kont_n, r0, r1, r2, r3, r4, r5, r6, c0, c55, e1, e2, eq_self, lgc_self]
theorem lw_30 (I : INV t h) (ht : t ≤ 1000) (r : RIX X i) : ∃ h2 : MH, ev X 263 1243 [.retAddr 0, .ref 0, .ref 55, .int (nI i)] [] h = ev X 263 1541 [.retAddr 0, .ref 0, .ref 55, .int (nI i)] [] h2 ∧ INV (t + 1) h2 := by
  obtain ⟨D, S, IM, KP, I⟩ := I
  obtain ⟨r0, r1, r2, r3, r4, r5, r6⟩ := r
  have c0 := I.2.1.c0
  obtain ⟨v, h1, h2, e1, e2, F1, I2⟩ := (S_judged (X := X) I : SAME X t h 143 [.ref 0, .int (X.2 (nI i + 1).toNatClampNeg), .int (X.2 (nI i + 2).toNatClampNeg), .int (X.2 (nI i + 3).toNatClampNeg), .int (X.2 (nI i + 4).toNatClampNeg), .float 0] 228 [.ref 55, .int (X.2 (nI i + 1).toNatClampNeg), .int (X.2 (nI i + 2).toNatClampNeg), .int (X.2 (nI i + 3).toNatClampNeg), .int (X.2 (nI i + 4).toNatClampNeg), .float 0])
  obtain ⟨x, rfl⟩ := ret_i mr_143 e1
  obtain ⟨io, wl, pl, sp, wa, se, bc, sv, bq, c55⟩ := F1.c55
  refine ⟨h2, ?_, I2⟩
  simp only [s263_1243, s263_1244, s263_1245, s263_1246, s263_1247, s263_1248, s263_1249, s263_1250, s263_1251, s263_1252, s263_1253, s263_1254, s263_1255, s263_1256, s263_1257, s263_1258, s263_1259, s263_1260, s263_1261, s263_1262, s263_1263, s263_1264, s263_1267, s263_1268, s263_1269, s263_1270, s263_1271, s263_1272, s263_1273, s263_1274, s263_1275, s263_1276, s263_1277, s263_1278, s263_1279, s263_1280, s263_1281, s263_1282, s263_1283, s263_1284, s263_1285, s263_1286, s263_1287, s263_1288, s263_1291, s263_1294, s263_1295, okF, okA, mcC_o, mcF_o, mcT_i, mcT_l, mcT_z, mcT_q, mcN_i, mcN_l, mcN_z, mcN_q, mcI_i, mcI_z, mcL_l, mcQ_q, hg_hp, hp_hp, List.getD_cons_zero, List.getD_cons_succ, List.set_cons_zero, List.set_cons_succ, List.length_cons, List.length_nil, Nat.reduceAdd, Nat.reduceLT, Nat.reduceEqDiff, Nat.lt_add_one, decide_true, decide_false, Bool.and_true, Bool.true_and, Bool.and_false, Bool.false_and, Bool.false_eq_true, if_true, if_false, ↓reduceIte, Option.bind_some, Option.bind_none, kont_v, kont_n, r0, r1, r2, r3, r4, r5, r6, c0, c55, e1, e2, eq_self, lgc_self]
theorem lw_31 (I : INV t h) (ht : t ≤ 1000) (r : RIX X i) : ∃ h2 : MH, ev X 263 1296 [.retAddr 0, .ref 0, .ref 55, .int (nI i)] [] h = ev X 263 1541 [.retAddr 0, .ref 0, .ref 55, .int (nI i)] [] h2 ∧ INV (t + 1) h2 := by
  obtain ⟨D, S, IM, KP, I⟩ := I
  obtain ⟨r0, r1, r2, r3, r4, r5, r6⟩ := r
  have c0 := I.2.1.c0
  obtain ⟨v, h1, h2, e1, e2, F1, I2⟩ := (S_habit (X := X) I : SAME X t h 144 [.ref 0, .int (X.2 (nI i + 1).toNatClampNeg), .int (X.2 (nI i + 2).toNatClampNeg)] 229 [.ref 55, .int (X.2 (nI i + 1).toNatClampNeg), .int (X.2 (nI i + 2).toNatClampNeg), .float 0, .float 0, .float 0, .float 0, .float 0, .float 0, .float 0, .float 0])
  obtain ⟨x, rfl⟩ := ret_i mr_144 e1
  obtain ⟨io, wl, pl, sp, wa, se, bc, sv, bq, c55⟩ := F1.c55
  refine ⟨h2, ?_, I2⟩
  simp only [s263_1296, s263_1297, s263_1298, s263_1299, s263_1300, s263_1301, s263_1302, s263_1303, s263_1304, s263_1305, s263_1306, s263_1307, s263_1310, s263_1311, s263_1312, s263_1313, s263_1314, s263_1315, s263_1316, s263_1317, s263_1318, s263_1319, s263_1320, s263_1321, s263_1324, s263_1327, s263_1328, okF, okA, mcC_o, mcF_o, mcT_i, mcT_l, mcT_z, mcT_q, mcN_i, mcN_l, mcN_z, mcN_q, mcI_i, mcI_z, mcL_l, mcQ_q, hg_hp, hp_hp, List.getD_cons_zero, List.getD_cons_succ, List.set_cons_zero, List.set_cons_succ, List.length_cons, List.length_nil, Nat.reduceAdd, Nat.reduceLT, Nat.reduceEqDiff, Nat.lt_add_one, decide_true, decide_false, Bool.and_true, Bool.true_and, Bool.and_false, Bool.false_and, Bool.false_eq_true, if_true, if_false, ↓reduceIte, Option.bind_some, Option.bind_none, kont_v, kont_n, r0, r1, r2, r3, r4, r5, r6, c0, c55, e1, e2, eq_self, lgc_self]
theorem lw_32 (I : INV t h) (ht : t ≤ 1000) (r : RIX X i) : ∃ h2 : MH, ev X 263 1329 [.retAddr 0, .ref 0, .ref 55, .int (nI i)] [] h = ev X 263 1541 [.retAddr 0, .ref 0, .ref 55, .int (nI i)] [] h2 ∧ INV (t + 1) h2 := by
  obtain ⟨D, S, IM, KP, I⟩ := I
  obtain ⟨r0, r1, r2, r3, r4, r5, r6⟩ := r
  have c0 := I.2.1.c0
  obtain ⟨v, h1, h2, e1, e2, F1, I2⟩ := (S_result (X := X) I : SAME X t h 145 [.ref 0, .int (X.2 (nI i + 1).toNatClampNeg), .int (X.2 (nI i + 2).toNatClampNeg), .int (X.2 (nI i + 3).toNatClampNeg), .int (X.2 (nI i + 4).toNatClampNeg), .float 0] 231 [.ref 55, .int (X.2 (nI i + 1).toNatClampNeg), .int (X.2 (nI i + 2).toNatClampNeg), .int (X.2 (nI i + 3).toNatClampNeg), .int (X.2 (nI i + 4).toNatClampNeg), .float 0])
  obtain ⟨x, rfl⟩ := ret_i mr_145 e1
  obtain ⟨io, wl, pl, sp, wa, se, bc, sv, bq, c55⟩ := F1.c55
  refine ⟨h2, ?_, I2⟩
  simp only [s263_1329, s263_1330, s263_1331, s263_1332, s263_1333, s263_1334, s263_1335, s263_1336, s263_1337, s263_1338, s263_1339, s263_1340, s263_1341, s263_1342, s263_1343, s263_1344, s263_1345, s263_1346, s263_1347, s263_1348, s263_1349, s263_1350, s263_1353, s263_1354, s263_1355, s263_1356, s263_1357, s263_1358, s263_1359, s263_1360, s263_1361, s263_1362, s263_1363, s263_1364, s263_1365, s263_1366, s263_1367, s263_1368, s263_1369, s263_1370, s263_1371, s263_1372, s263_1373, s263_1374, s263_1377, s263_1380, s263_1381, okF, okA, mcC_o, mcF_o, mcT_i, mcT_l, mcT_z, mcT_q, mcN_i, mcN_l, mcN_z, mcN_q, mcI_i, mcI_z, mcL_l, mcQ_q, hg_hp, hp_hp, List.getD_cons_zero, List.getD_cons_succ, List.set_cons_zero, List.set_cons_succ, List.length_cons, List.length_nil, Nat.reduceAdd, Nat.reduceLT, Nat.reduceEqDiff, Nat.lt_add_one, decide_true, decide_false, Bool.and_true, Bool.true_and, Bool.and_false, Bool.false_and, Bool.false_eq_true, if_true, if_false, ↓reduceIte, Option.bind_some, Option.bind_none, kont_v, kont_n, r0, r1, r2, r3, r4, r5, r6, c0, c55, e1, e2, eq_self, lgc_self]
theorem lw_33 (I : INV t h) (ht : t ≤ 1000) (r : RIX X i) : ∃ h2 : MH, ev X 263 1382 [.retAddr 0, .ref 0, .ref 55, .int (nI i)] [] h = ev X 263 1541 [.retAddr 0, .ref 0, .ref 55, .int (nI i)] [] h2 ∧ INV (t + 1) h2 := by
  obtain ⟨D, S, IM, KP, I⟩ := I
  obtain ⟨r0, r1, r2, r3, r4, r5, r6⟩ := r
  have c0 := I.2.1.c0
  obtain ⟨v, h1, h2, e1, e2, F1, I2⟩ := (S_counted (X := X) I : SAME X t h 147 [.ref 0, .int (X.2 (nI i + 1).toNatClampNeg), .float 0] 232 [.ref 55, .int (X.2 (nI i + 1).toNatClampNeg), .float 0])
  obtain ⟨x, rfl⟩ := ret_i mr_147 e1
  obtain ⟨io, wl, pl, sp, wa, se, bc, sv, bq, c55⟩ := F1.c55
  refine ⟨h2, ?_, I2⟩
  simp only [s263_1382, s263_1383, s263_1384, s263_1385, s263_1386, s263_1387, s263_1388, s263_1391, s263_1392, s263_1393, s263_1394, s263_1395, s263_1396, s263_1397, s263_1400, s263_1403, s263_1404, okF, okA, mcC_o, mcF_o, mcT_i, mcT_l, mcT_z, mcT_q, mcN_i, mcN_l, mcN_z, mcN_q, mcI_i, mcI_z, mcL_l, mcQ_q, hg_hp, hp_hp, List.getD_cons_zero, List.getD_cons_succ, List.set_cons_zero, List.set_cons_succ, List.length_cons, List.length_nil, Nat.reduceAdd, Nat.reduceLT, Nat.reduceEqDiff, Nat.lt_add_one, decide_true, decide_false, Bool.and_true, Bool.true_and, Bool.and_false, Bool.false_and, Bool.false_eq_true, if_true, if_false, ↓reduceIte, Option.bind_some, Option.bind_none, kont_v, kont_n, r0, r1, r2, r3, r4, r5, r6, c0, c55, e1, e2, eq_self, lgc_self]
theorem lw_34 (I : INV t h) (ht : t ≤ 1000) (r : RIX X i) : ∃ h2 : MH, ev X 263 1405 [.retAddr 0, .ref 0, .ref 55, .int (nI i)] [] h = ev X 263 1541 [.retAddr 0, .ref 0, .ref 55, .int (nI i)] [] h2 ∧ INV (t + 1) h2 := by
  obtain ⟨D, S, IM, KP, I⟩ := I
  obtain ⟨r0, r1, r2, r3, r4, r5, r6⟩ := r
  have c0 := I.2.1.c0
  obtain ⟨v, h1, h2, e1, e2, F1, I2⟩ := (S_ranking (X := X) I : SAME X t h 148 [.ref 0, .int (X.2 (nI i + 1).toNatClampNeg), .int (X.2 (nI i + 2).toNatClampNeg), .int (X.2 (nI i + 3).toNatClampNeg), .int (X.2 (nI i + 4).toNatClampNeg)] 233 [.ref 55, .int (X.2 (nI i + 1).toNatClampNeg), .int (X.2 (nI i + 2).toNatClampNeg), .int (X.2 (nI i + 3).toNatClampNeg), .int (X.2 (nI i + 4).toNatClampNeg), .float 0, .float 0, .float 0])
  obtain ⟨x, rfl⟩ := ret_i mr_148 e1
  obtain ⟨io, wl, pl, sp, wa, se, bc, sv, bq, c55⟩ := F1.c55
  refine ⟨h2, ?_, I2⟩
  simp only [s263_1405, s263_1406, s263_1407, s263_1408, s263_1409, s263_1410, s263_1411, s263_1412, s263_1413, s263_1414, s263_1415, s263_1416, s263_1417, s263_1418, s263_1419, s263_1420, s263_1421, s263_1422, s263_1423, s263_1424, s263_1425, s263_1426, s263_1429, s263_1430, s263_1431, s263_1432, s263_1433, s263_1434, s263_1435, s263_1436, s263_1437, s263_1438, s263_1439, s263_1440, s263_1441, s263_1442, s263_1443, s263_1444, s263_1445, s263_1446, s263_1447, s263_1448, s263_1449, s263_1450, s263_1453, s263_1456, s263_1457, okF, okA, mcC_o, mcF_o, mcT_i, mcT_l, mcT_z, mcT_q, mcN_i, mcN_l, mcN_z, mcN_q, mcI_i, mcI_z, mcL_l, mcQ_q, hg_hp, hp_hp, List.getD_cons_zero, List.getD_cons_succ, List.set_cons_zero, List.set_cons_succ, List.length_cons, List.length_nil, Nat.reduceAdd, Nat.reduceLT, Nat.reduceEqDiff, Nat.lt_add_one, decide_true, decide_false, Bool.and_true, Bool.true_and, Bool.and_false, Bool.false_and, Bool.false_eq_true, if_true, if_false, ↓reduceIte, Option.bind_some, Option.bind_none, kont_v, kont_n, r0, r1, r2, r3, r4, r5, r6, c0, c55, e1, e2, eq_self, lgc_self]
theorem lw_35 (I : INV t h) (ht : t ≤ 1000) (r : RIX X i) : ∃ h2 : MH, ev X 263 1458 [.retAddr 0, .ref 0, .ref 55, .int (nI i)] [] h = ev X 263 1541 [.retAddr 0, .ref 0, .ref 55, .int (nI i)] [] h2 ∧ INV (t + 1) h2 := by
  obtain ⟨D, S, IM, KP, I⟩ := I
  obtain ⟨r0, r1, r2, r3, r4, r5, r6⟩ := r
  have c0 := I.2.1.c0
  obtain ⟨v, h1, h2, e1, e2, F1, I2⟩ := (S_image (X := X) I : SAME X t h 149 [.ref 0, .int (X.2 (nI i + 1).toNatClampNeg), .float 0] 235 [.ref 55, .int (X.2 (nI i + 1).toNatClampNeg), .float 0])
  obtain ⟨x, rfl⟩ := ret_i mr_149 e1
  obtain ⟨io, wl, pl, sp, wa, se, bc, sv, bq, c55⟩ := F1.c55
  refine ⟨h2, ?_, I2⟩
  simp only [s263_1458, s263_1459, s263_1460, s263_1461, s263_1462, s263_1463, s263_1464, s263_1467, s263_1468, s263_1469, s263_1470, s263_1471, s263_1472, s263_1473, s263_1476, s263_1479, s263_1480, okF, okA, mcC_o, mcF_o, mcT_i, mcT_l, mcT_z, mcT_q, mcN_i, mcN_l, mcN_z, mcN_q, mcI_i, mcI_z, mcL_l, mcQ_q, hg_hp, hp_hp, List.getD_cons_zero, List.getD_cons_succ, List.set_cons_zero, List.set_cons_succ, List.length_cons, List.length_nil, Nat.reduceAdd, Nat.reduceLT, Nat.reduceEqDiff, Nat.lt_add_one, decide_true, decide_false, Bool.and_true, Bool.true_and, Bool.and_false, Bool.false_and, Bool.false_eq_true, if_true, if_false, ↓reduceIte, Option.bind_some, Option.bind_none, kont_v, kont_n, r0, r1, r2, r3, r4, r5, r6, c0, c55, e1, e2, eq_self, lgc_self]
theorem lw_36 (I : INV t h) (ht : t ≤ 1000) (r : RIX X i) : ∃ h2 : MH, ev X 263 1481 [.retAddr 0, .ref 0, .ref 55, .int (nI i)] [] h = ev X 263 1541 [.retAddr 0, .ref 0, .ref 55, .int (nI i)] [] h2 ∧ INV (t + 1) h2 := by
  obtain ⟨D, S, IM, KP, I⟩ := I
  obtain ⟨r0, r1, r2, r3, r4, r5, r6⟩ := r
  have c0 := I.2.1.c0
  obtain ⟨v, h1, h2, e1, e2, F1, I2⟩ := (S_from (X := X) I : SAME X t h 150 [.ref 0, .int (X.2 (nI i + 1).toNatClampNeg), .float 0] 236 [.ref 55, .int (X.2 (nI i + 1).toNatClampNeg), .float 0])
  obtain ⟨x, rfl⟩ := ret_i mr_150 e1
  obtain ⟨io, wl, pl, sp, wa, se, bc, sv, bq, c55⟩ := F1.c55
  refine ⟨h2, ?_, I2⟩
  simp only [s263_1481, s263_1482, s263_1483, s263_1484, s263_1485, s263_1486, s263_1487, s263_1490, s263_1491, s263_1492, s263_1493, s263_1494, s263_1495, s263_1496, s263_1499, s263_1502, s263_1503, okF, okA, mcC_o, mcF_o, mcT_i, mcT_l, mcT_z, mcT_q, mcN_i, mcN_l, mcN_z, mcN_q, mcI_i, mcI_z, mcL_l, mcQ_q, hg_hp, hp_hp, List.getD_cons_zero, List.getD_cons_succ, List.set_cons_zero, List.set_cons_succ, List.length_cons, List.length_nil, Nat.reduceAdd, Nat.reduceLT, Nat.reduceEqDiff, Nat.lt_add_one, decide_true, decide_false, Bool.and_true, Bool.true_and, Bool.and_false, Bool.false_and, Bool.false_eq_true, if_true, if_false, ↓reduceIte, Option.bind_some, Option.bind_none, kont_v, kont_n, r0, r1, r2, r3, r4, r5, r6, c0, c55, e1, e2, eq_self, lgc_self]
theorem lw_37 (I : INV t h) (ht : t ≤ 1000) (r : RIX X i) : ∃ h2 : MH, ev X 263 1504 [.retAddr 0, .ref 0, .ref 55, .int (nI i)] [] h = ev X 263 1541 [.retAddr 0, .ref 0, .ref 55, .int (nI i)] [] h2 ∧ INV (t + 1) h2 := by
  obtain ⟨D, S, IM, KP, I⟩ := I
  obtain ⟨r0, r1, r2, r3, r4, r5, r6⟩ := r
  have c0 := I.2.1.c0
  obtain ⟨v, h1, h2, e1, e2, F1, I2⟩ := (S_count (X := X) I : SAME X t h 151 [.ref 0, .int (X.2 (nI i + 1).toNatClampNeg)] 237 [.ref 55, .int (X.2 (nI i + 1).toNatClampNeg)])
  obtain ⟨x, rfl⟩ := ret_i mr_151 e1
  obtain ⟨io, wl, pl, sp, wa, se, bc, sv, bq, c55⟩ := F1.c55
  refine ⟨h2, ?_, I2⟩
  simp only [s263_1504, s263_1505, s263_1506, s263_1507, s263_1508, s263_1509, s263_1510, s263_1513, s263_1514, s263_1515, s263_1516, s263_1517, s263_1518, s263_1519, s263_1522, s263_1525, s263_1526, okF, okA, mcC_o, mcF_o, mcT_i, mcT_l, mcT_z, mcT_q, mcN_i, mcN_l, mcN_z, mcN_q, mcI_i, mcI_z, mcL_l, mcQ_q, hg_hp, hp_hp, List.getD_cons_zero, List.getD_cons_succ, List.set_cons_zero, List.set_cons_succ, List.length_cons, List.length_nil, Nat.reduceAdd, Nat.reduceLT, Nat.reduceEqDiff, Nat.lt_add_one, decide_true, decide_false, Bool.and_true, Bool.true_and, Bool.and_false, Bool.false_and, Bool.false_eq_true, if_true, if_false, ↓reduceIte, Option.bind_some, Option.bind_none, kont_v, kont_n, r0, r1, r2, r3, r4, r5, r6, c0, c55, e1, e2, eq_self, lgc_self]
theorem lw_38 (I : INV t h) (ht : t ≤ 1000) (r : RIX X i) : ∃ h2 : MH, ev X 263 1527 [.retAddr 0, .ref 0, .ref 55, .int (nI i)] [] h = ev X 263 1541 [.retAddr 0, .ref 0, .ref 55, .int (nI i)] [] h2 ∧ INV (t + 1) h2 := by
  obtain ⟨D, S, IM, KP, I⟩ := I
  obtain ⟨r0, r1, r2, r3, r4, r5, r6⟩ := r
  have c0 := I.2.1.c0
  obtain ⟨v, h1, h2, e1, e2, F1, I2⟩ := (S_digest (X := X) I : SAME X t h 152 [.ref 0, .float 0, .float 0, .float 0] 239 [.ref 55, .float 0, .float 0, .float 0, .float 0])
  obtain ⟨x, rfl⟩ := ret_l mr_152 e1
  obtain ⟨io, wl, pl, sp, wa, se, bc, sv, bq, c55⟩ := F1.c55
  refine ⟨h2, ?_, I2⟩
  simp only [s263_1527, s263_1528, s263_1531, s263_1532, s263_1535, s263_1536, s263_1539, s263_1540, okF, okA, mcC_o, mcF_o, mcT_i, mcT_l, mcT_z, mcT_q, mcN_i, mcN_l, mcN_z, mcN_q, mcI_i, mcI_z, mcL_l, mcQ_q, hg_hp, hp_hp, List.getD_cons_zero, List.getD_cons_succ, List.set_cons_zero, List.set_cons_succ, List.length_cons, List.length_nil, Nat.reduceAdd, Nat.reduceLT, Nat.reduceEqDiff, Nat.lt_add_one, decide_true, decide_false, Bool.and_true, Bool.true_and, Bool.and_false, Bool.false_and, Bool.false_eq_true, if_true, if_false, ↓reduceIte, Option.bind_some, Option.bind_none, kont_v, kont_n, r0, r1, r2, r3, r4, r5, r6, c0, c55, e1, e2, eq_self, lgc_self]
end LWC

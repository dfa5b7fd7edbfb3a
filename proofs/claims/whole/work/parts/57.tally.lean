-- POOLS: the class tallies
def addF (C W R : Nat) (f : Nat → Int32) : Nat → Int32 := fun i => if R * W ≤ i ∧ i < C * W then 0 else f i
theorem tb_addAll_loop {X : MX} {tt c C W : Nat} : ∀ (n R : Nat) (h : MH) (f : Nat → Int32), R + n = C → TAB h tt c C W R f → ev X 99 2 [.ref tt, .int (nI R)] [] h = some (none, (hp (hp h tt (oB 10 [.int (nI C), .int (nI W), .ref c, .int (nI C)])) c (iA (C * W) (addF C W R f))))
  | 0, R, h, f, hR, T => by
    have e : R = C := by omega
    subst e
    have q := nI_nlt (Nat.le_refl R) T.2.2.1
    have ef : addF R W R f = f := by
      funext i
      unfold addF
      rw [if_neg (by omega)]
    rw [s99_2]
    simp only [s99_0, s99_1, s99_3, s99_4, s99_7, s99_10, s99_11, s99_14, s99_15, s99_18, s99_21, okF, okA, mcC_o, mcF_o, mcT_i, mcT_l, mcT_z, mcT_q, mcN_i, mcN_l, mcN_z, mcN_q, mcI_i, mcI_z, mcL_l, mcQ_q, hg_hp, hp_hp, List.getD_cons_zero, List.getD_cons_succ, List.set_cons_zero, List.set_cons_succ, List.length_cons, List.length_nil, Nat.reduceAdd, Nat.reduceLT, Nat.reduceEqDiff, Nat.lt_add_one, decide_true, decide_false, Bool.and_true, Bool.true_and, Bool.and_false, Bool.false_and, Bool.false_eq_true, if_true, if_false, ↓reduceIte, Option.bind_some, Option.bind_none, kont_v, kont_n, T.1, q]
    rw [ef, hp_self T.1, hp_self T.2.1]
  | n + 1, R, h, f, hR, T => by
    have hRC : R < C := by omega
    have q := nI_lt hRC T.2.2.1
    have ea := T.add (X := X) hRC
    have T1 := (T.rows (R + 1)).put (tzr W R 0 f)
    have ih := tb_addAll_loop (X := X) n (R + 1) _ _ (by omega) T1
    have ef : addF C W (R + 1) (tzr W R 0 f) = addF C W R f := by
      funext i
      unfold addF tzr
      have h1 : (R + 1) * W = R * W + W := by rw [Nat.add_mul, Nat.one_mul]
      have h2 : (R + 1) * W ≤ C * W := Nat.mul_le_mul_right W (by omega)
      by_cases a : (R + 1) * W ≤ i ∧ i < C * W
      · rw [if_pos a, if_pos (by omega)]
      · rw [if_neg a]
        by_cases b : R * W + 0 ≤ i ∧ i < R * W + W
        · rw [if_pos b, if_pos (by omega)]
        · rw [if_neg b, if_neg (by omega)]
    rw [ef] at ih
    rw [s99_2]
    simp only [s99_0, s99_1, s99_3, s99_4, s99_7, s99_10, s99_11, s99_14, s99_15, s99_18, s99_21, okF, okA, mcC_o, mcF_o, mcT_i, mcT_l, mcT_z, mcT_q, mcN_i, mcN_l, mcN_z, mcN_q, mcI_i, mcI_z, mcL_l, mcQ_q, hg_hp, hp_hp, List.getD_cons_zero, List.getD_cons_succ, List.set_cons_zero, List.set_cons_succ, List.length_cons, List.length_nil, Nat.reduceAdd, Nat.reduceLT, Nat.reduceEqDiff, Nat.lt_add_one, decide_true, decide_false, Bool.and_true, Bool.true_and, Bool.and_false, Bool.false_and, Bool.false_eq_true, if_true, if_false, ↓reduceIte, Option.bind_some, Option.bind_none, kont_v, kont_n, T.1, q, ea, nI_1]
    rw [ih]
    have : hp (hp (hp (hp h tt (oB 10 [.int (nI C), .int (nI W), .ref c, .int (nI (R + 1))])) c (iA (C * W) (tzr W R 0 f))) tt (oB 10 [.int (nI C), .int (nI W), .ref c, .int (nI C)])) c (iA (C * W) (addF C W R f)) = hp (hp h tt (oB 10 [.int (nI C), .int (nI W), .ref c, .int (nI C)])) c (iA (C * W) (addF C W R f)) := by
      refine hx_ext rfl rfl (fun k => ?_)
      simp only [hg_hp]
      by_cases k1 : k = c
      · rw [if_pos k1, if_pos k1]
      · rw [if_neg k1, if_neg k1]
        by_cases k2 : k = tt
        · rw [if_pos k2, if_neg k1, if_pos k2]
        · rw [if_neg k2, if_neg k2, if_neg k1, if_neg k2]
    rw [this]
theorem TAB.addAll {X : MX} {h : MH} {tt c C W : Nat} {f : Nat → Int32} (T : TAB h tt c C W 0 f) : (ev X 99 0 [.ref tt, .float 0] [] (h)) = some (none, (hp (hp h tt (oB 10 [.int (nI C), .int (nI W), .ref c, .int (nI C)])) c (iA (C * W) (addF C W 0 f)))) := by
  have ih := tb_addAll_loop (X := X) C 0 h f (by omega) T
  rw [nI_0] at ih
  simp only [s99_0, s99_1, s99_3, s99_4, s99_7, s99_10, s99_11, s99_14, s99_15, s99_18, s99_21, okF, okA, mcC_o, mcF_o, mcT_i, mcT_l, mcT_z, mcT_q, mcN_i, mcN_l, mcN_z, mcN_q, mcI_i, mcI_z, mcL_l, mcQ_q, hg_hp, hp_hp, List.getD_cons_zero, List.getD_cons_succ, List.set_cons_zero, List.set_cons_succ, List.length_cons, List.length_nil, Nat.reduceAdd, Nat.reduceLT, Nat.reduceEqDiff, Nat.lt_add_one, decide_true, decide_false, Bool.and_true, Bool.true_and, Bool.and_false, Bool.false_and, Bool.false_eq_true, if_true, if_false, ↓reduceIte, Option.bind_some, Option.bind_none, kont_v, kont_n]
  exact ih
def g96 (A q : Nat → Int32) : Nat → Int32 := fun i => if i < 96 then q i else A i
theorem g96_at {A q : Nat → Int32} {i : Nat} (h : i < 96) : g96 A q i = q i := if_pos h
theorem g96_upd {A q : Nat → Int32} {i : Nat} {x : Int32} (h : i < 96) : upd (g96 A q) i x = g96 A (upd q i x) := by
  funext j
  unfold g96
  by_cases e : j = i
  · rw [e, upd_eq, if_pos h, upd_eq]
  · rw [upd_ne e]
    split
    · rw [upd_ne e]
    · rfl
/-- heap h with the class's sums q -/
def SH (h : MH) (q : Nat → Int32) : MH := hp (hp h 32 (oB 10 [.int (nI 16), .int (nI 6), .ref 33, .int (nI 16)])) 33 (iA 96 (g96 (mcI (hg h 33)) q))
def qside (f : Nat → Int32) (b s a : Nat) (q : Nat → Int32) : Nat → Int32 :=
  let u0 := upd q (a * 6) (q (a * 6) + (if f (b * 17 + 9) = nI s then 1 else 0))
  let u1 := upd u0 (a * 6 + 1) (q (a * 6 + 1) + 1)
  let u2 := upd u1 (a * 6 + 2) (q (a * 6 + 2) + f (b * 17 + (6 + s)))
  let u3 := upd u2 (a * 6 + 3) (q (a * 6 + 3) + f (b * 17 + (7 - s)))
  let u4 := upd u3 (a * 6 + 4) (q (a * 6 + 4) + f (b * 17 + (10 + s)))
  upd u4 (a * 6 + 5) (q (a * 6 + 5) + f (b * 17 + (12 + s)))
def fnn (x : Int32) : Nat := x.toNatClampNeg
def qbout (f : Nat → Int32) (b : Nat) (q : Nat → Int32) : Nat → Int32 := qside f b 1 (fnn (f (b * 17 + 1))) (qside f b 0 (fnn (f (b * 17))) q)
def okb (f : Nat → Int32) (p w : Int32) (b : Nat) : Prop := ¬ nI b = w ∧ f (b * 17 + 2) = p ∧ f (b * 17 + 8) = 1 ∧ ¬ f (b * 17 + 14) = 1
noncomputable def qtl (f : Nat → Int32) (p w : Int32) : Nat → Nat → (Nat → Int32) → Nat → Int32
  | 0, _, q => q
  | m + 1, b, q => qtl f p w m (b + 1) (@ite _ (okb f p w b) (Classical.propDecidable _) (qbout f b q) q)
/-- both fencers of each bout are numbers below 16 -/
def FB (n : Nat) (f : Nat → Int32) : Prop := ∀ b, b < n → ∃ x y : Nat, f (b * 17) = nI x ∧ x < 16 ∧ f (b * 17 + 1) = nI y ∧ y < 16
section TLY
variable {X : MX} {h : MH} {D : LD} {q : Nat → Int32} {n : Nat} {f : Nat → Int32}
theorem SH_off {k : Nat} (h1 : k ≠ 32) (h2 : k ≠ 33) : hg (SH h q) k = hg h k := by
  unfold SH
  rw [hg_hp, if_neg h2, hg_hp, if_neg h1]
theorem SH_32 : hg (SH h q) 32 = oB 10 [.int (nI 16), .int (nI 6), .ref 33, .int (nI 16)] := by
  unfold SH
  rw [hg_hp, if_neg (by decide), hg_hp, if_pos rfl]
theorem SH_33 : hg (SH h q) 33 = iA 96 (g96 (mcI (hg h 33)) q) := by
  unfold SH
  rw [hg_hp, if_pos rfl]
theorem SH_tab : TAB (SH h q) 32 33 16 6 16 (g96 (mcI (hg h 33)) q) := ⟨SH_32, SH_33, by decide, by decide, by decide, by decide⟩
theorem SHu {A : Nat → Int32} : hp (SH h q) 33 (iA 96 (g96 (mcI (hg h 33)) A)) = SH h A := by
  unfold SH
  rw [hp_hp]
theorem SH_raise {a c : Nat} {c' x : Int32} (ec : c' = nI c) (ha : a < 16) (hc : c < 6) : (ev X 105 0 [.ref 32, .int (nI a), .int c', .int x] [] (SH h q)) = some (none, (SH h (upd q (a * 6 + c) (q (a * 6 + c) + x)))) := by
  subst ec
  have := (SH_tab (h := h) (q := q)).raise (X := X) (r := a) (q := c) (x := x) ha hc
  rw [g96_at (by omega), g96_upd (by omega)] at this
  rw [this]
  show some (none, (hp (SH h q) 33 (iA 96 _))) = _
  rw [SHu]
theorem SH_get {a c : Nat} {c' : Int32} (ec : c' = nI c) (ha : a < 16) (hc : c < 6) : (ev X 103 0 [.ref 32, .int (nI a), .int c', .float 0] [] (SH h q)) = some (some (.int (q (a * 6 + c))), (SH h q)) := by
  subst ec
  have := (SH_tab (h := h) (q := q)).get (X := X) (r := a) (q := c) ha hc
  rw [g96_at (by omega)] at this
  exact this
theorem SH_lg (L : LG h 1 D) : LG (SH h q) 1 D := L.same (fun k h1 h2 => SH_off (by omega) (by omega))
theorem c_tallySide {mm : Int32} (L : LG h 1 D) (h31 : hg h 31 = oB 6 [.ref 1, .ref 22, .ref 23, .ref 32, .ref 34, .ref 35, .ref 36, .int mm]) {b s a : Nat} (hb : b < 120) (hs : s ≤ 1) (ea : D.2.1 2 (b * 17 + s) = nI a) (ha : a < 16) : (ev X 63 0 [.ref 31, .int (nI b), .int (nI s), .float 0, .float 0] [] (SH h q)) = some (none, (SH h (qside (D.2.1 2) b s a q))) := by
  have T := lt2 (SH_lg (q := q) L)
  have T' := fun q => lt2 (SH_lg (q := q) L)
  have g1 := (SH_lg (q := q) L).1
  have o31 : ∀ q, hg (SH h q) 31 = oB 6 [.ref 1, .ref 22, .ref 23, .ref 32, .ref 34, .ref 35, .ref 36, .int mm] := fun q => by rw [SH_off (by decide) (by decide)]; exact h31
  have o1 := fun q => lgo (SH_lg (q := q) L)
  have o6 := fun q => (T' q).1
  have gt := fun (q : Nat → Int32) (c : Nat) (c' : Int32) (e : c' = nI c) (hc : c < 17) => (T' q).get' (X := X) (r := b) (q := c) (q' := c') rfl e hb hc
  have rs := fun (q : Nat → Int32) (c : Nat) (c' : Int32) (e : c' = nI c) (hc : c < 6) (x : Int32) => SH_raise (X := X) (h := h) (q := q) (x := x) e ha hc
  have r0 := fun q x => rs q 0 0 rfl (by decide) x
  have r1 := fun q x => rs q 1 1 rfl (by decide) x
  have r2 := fun q x => rs q 2 2 rfl (by decide) x
  have r3 := fun q x => rs q 3 3 rfl (by decide) x
  have r4 := fun q x => rs q 4 4 rfl (by decide) x
  have r5 := fun q x => rs q 5 5 rfl (by decide) x
  simp only [Nat.add_zero] at r0
  have g9 := fun q => gt q 9 9 rfl (by decide)
  rcases (by omega : s = 0 ∨ s = 1) with rfl | rfl
  · have g0 := fun q => gt q 0 0 rfl (by decide)
    have g6 := fun q => gt q 6 6 rfl (by decide)
    have g7 := fun q => gt q 7 7 rfl (by decide)
    have g10 := fun q => gt q 10 10 rfl (by decide)
    have g12 := fun q => gt q 12 12 rfl (by decide)
    simp only [ea] at g0
    have z0 : (0 : Int32) + 0 = 0 := by decide
    have z6 : (6 : Int32) + 0 = 6 := by decide
    have z7 : (7 : Int32) - 0 = 7 := by decide
    have z10 : (10 : Int32) + 0 = 10 := by decide
    have z12 : (12 : Int32) + 0 = 12 := by decide
    unfold qside
    rw [nI_0]
    by_cases c9 : D.2.1 2 (b * 17 + 9) = 0
    · simp (disch := omega) only [s63_0, s63_1, s63_4, s63_7, s63_8, s63_9, s63_10, s63_11, s63_12, s63_13, s63_16, s63_18, s63_19, s63_22, s63_24, s63_25, s63_26, s63_27, s63_29, s63_32, s63_33, s63_36, s63_37, s63_40, s63_41, s63_44, s63_45, s63_48, s63_50, s63_51, s63_52, s63_55, s63_56, s63_59, s63_61, s63_62, s63_63, s63_64, s63_66, s63_67, s63_68, s63_71, s63_74, s63_75, s63_78, s63_80, s63_81, s63_82, s63_83, s63_85, s63_86, s63_87, s63_90, s63_93, s63_94, s63_97, s63_99, s63_100, s63_101, s63_102, s63_104, s63_105, s63_106, s63_109, s63_112, s63_113, s63_116, s63_118, s63_119, s63_120, s63_121, s63_123, s63_124, s63_125, s63_128, s63_131, okF, okA, mcC_o, mcF_o, mcT_i, mcT_l, mcT_z, mcT_q, mcN_i, mcN_l, mcN_z, mcN_q, mcI_i, mcI_z, mcL_l, mcQ_q, hg_hp, hp_hp, List.getD_cons_zero, List.getD_cons_succ, List.set_cons_zero, List.set_cons_succ, List.length_cons, List.length_nil, Nat.reduceAdd, Nat.reduceLT, Nat.reduceEqDiff, Nat.lt_add_one, decide_true, decide_false, Bool.and_true, Bool.true_and, Bool.and_false, Bool.false_and, Bool.false_eq_true, if_true, if_false, ↓reduceIte, Option.bind_some, Option.bind_none, kont_v, kont_n, o31, o1, o6, SH_32, z0, z6, z7, z10, z12, g0, g6, g7, g9, g10, g12, r0, r1, r2, r3, r4, r5, c9, upd_ne, Nat.add_zero, Nat.sub_zero]
    · simp (disch := omega) only [s63_0, s63_1, s63_4, s63_7, s63_8, s63_9, s63_10, s63_11, s63_12, s63_13, s63_16, s63_18, s63_19, s63_22, s63_24, s63_25, s63_26, s63_27, s63_29, s63_32, s63_33, s63_36, s63_37, s63_40, s63_41, s63_44, s63_45, s63_48, s63_50, s63_51, s63_52, s63_55, s63_56, s63_59, s63_61, s63_62, s63_63, s63_64, s63_66, s63_67, s63_68, s63_71, s63_74, s63_75, s63_78, s63_80, s63_81, s63_82, s63_83, s63_85, s63_86, s63_87, s63_90, s63_93, s63_94, s63_97, s63_99, s63_100, s63_101, s63_102, s63_104, s63_105, s63_106, s63_109, s63_112, s63_113, s63_116, s63_118, s63_119, s63_120, s63_121, s63_123, s63_124, s63_125, s63_128, s63_131, okF, okA, mcC_o, mcF_o, mcT_i, mcT_l, mcT_z, mcT_q, mcN_i, mcN_l, mcN_z, mcN_q, mcI_i, mcI_z, mcL_l, mcQ_q, hg_hp, hp_hp, List.getD_cons_zero, List.getD_cons_succ, List.set_cons_zero, List.set_cons_succ, List.length_cons, List.length_nil, Nat.reduceAdd, Nat.reduceLT, Nat.reduceEqDiff, Nat.lt_add_one, decide_true, decide_false, Bool.and_true, Bool.true_and, Bool.and_false, Bool.false_and, Bool.false_eq_true, if_true, if_false, ↓reduceIte, Option.bind_some, Option.bind_none, kont_v, kont_n, o31, o1, o6, SH_32, z0, z6, z7, z10, z12, g0, g6, g7, g9, g10, g12, r0, r1, r2, r3, r4, r5, c9, upd_ne, Nat.add_zero, Nat.sub_zero]
  · have g0 := fun q => gt q 1 1 rfl (by decide)
    have g6 := fun q => gt q 6 6 rfl (by decide)
    have g7 := fun q => gt q 7 7 rfl (by decide)
    have g10 := fun q => gt q 11 11 rfl (by decide)
    have g12 := fun q => gt q 13 13 rfl (by decide)
    simp only [ea] at g0
    have z0 : (0 : Int32) + 1 = 1 := by decide
    have z6 : (6 : Int32) + 1 = 7 := by decide
    have z7 : (7 : Int32) - 1 = 6 := by decide
    have z10 : (10 : Int32) + 1 = 11 := by decide
    have z12 : (12 : Int32) + 1 = 13 := by decide
    unfold qside
    rw [← nl_1]
    by_cases c9 : D.2.1 2 (b * 17 + 9) = 1
    · simp (disch := omega) only [s63_0, s63_1, s63_4, s63_7, s63_8, s63_9, s63_10, s63_11, s63_12, s63_13, s63_16, s63_18, s63_19, s63_22, s63_24, s63_25, s63_26, s63_27, s63_29, s63_32, s63_33, s63_36, s63_37, s63_40, s63_41, s63_44, s63_45, s63_48, s63_50, s63_51, s63_52, s63_55, s63_56, s63_59, s63_61, s63_62, s63_63, s63_64, s63_66, s63_67, s63_68, s63_71, s63_74, s63_75, s63_78, s63_80, s63_81, s63_82, s63_83, s63_85, s63_86, s63_87, s63_90, s63_93, s63_94, s63_97, s63_99, s63_100, s63_101, s63_102, s63_104, s63_105, s63_106, s63_109, s63_112, s63_113, s63_116, s63_118, s63_119, s63_120, s63_121, s63_123, s63_124, s63_125, s63_128, s63_131, okF, okA, mcC_o, mcF_o, mcT_i, mcT_l, mcT_z, mcT_q, mcN_i, mcN_l, mcN_z, mcN_q, mcI_i, mcI_z, mcL_l, mcQ_q, hg_hp, hp_hp, List.getD_cons_zero, List.getD_cons_succ, List.set_cons_zero, List.set_cons_succ, List.length_cons, List.length_nil, Nat.reduceAdd, Nat.reduceLT, Nat.reduceEqDiff, Nat.lt_add_one, decide_true, decide_false, Bool.and_true, Bool.true_and, Bool.and_false, Bool.false_and, Bool.false_eq_true, if_true, if_false, ↓reduceIte, Option.bind_some, Option.bind_none, kont_v, kont_n, o31, o1, o6, SH_32, z0, z6, z7, z10, z12, g0, g6, g7, g9, g10, g12, r0, r1, r2, r3, r4, r5, c9, upd_ne, Nat.reduceSub]
    · simp (disch := omega) only [s63_0, s63_1, s63_4, s63_7, s63_8, s63_9, s63_10, s63_11, s63_12, s63_13, s63_16, s63_18, s63_19, s63_22, s63_24, s63_25, s63_26, s63_27, s63_29, s63_32, s63_33, s63_36, s63_37, s63_40, s63_41, s63_44, s63_45, s63_48, s63_50, s63_51, s63_52, s63_55, s63_56, s63_59, s63_61, s63_62, s63_63, s63_64, s63_66, s63_67, s63_68, s63_71, s63_74, s63_75, s63_78, s63_80, s63_81, s63_82, s63_83, s63_85, s63_86, s63_87, s63_90, s63_93, s63_94, s63_97, s63_99, s63_100, s63_101, s63_102, s63_104, s63_105, s63_106, s63_109, s63_112, s63_113, s63_116, s63_118, s63_119, s63_120, s63_121, s63_123, s63_124, s63_125, s63_128, s63_131, okF, okA, mcC_o, mcF_o, mcT_i, mcT_l, mcT_z, mcT_q, mcN_i, mcN_l, mcN_z, mcN_q, mcI_i, mcI_z, mcL_l, mcQ_q, hg_hp, hp_hp, List.getD_cons_zero, List.getD_cons_succ, List.set_cons_zero, List.set_cons_succ, List.length_cons, List.length_nil, Nat.reduceAdd, Nat.reduceLT, Nat.reduceEqDiff, Nat.lt_add_one, decide_true, decide_false, Bool.and_true, Bool.true_and, Bool.and_false, Bool.false_and, Bool.false_eq_true, if_true, if_false, ↓reduceIte, Option.bind_some, Option.bind_none, kont_v, kont_n, o31, o1, o6, SH_32, z0, z6, z7, z10, z12, g0, g6, g7, g9, g10, g12, r0, r1, r2, r3, r4, r5, c9, upd_ne, Nat.reduceSub]
theorem TAB.two {h : MH} {tt c C W R a1 a2 : Nat} {f : Nat → Int32} {d1 d2 : MC} (T : TAB h tt c C W R f) (h1 : a1 ≠ tt ∧ a1 ≠ c) (h2 : a2 ≠ tt ∧ a2 ≠ c) : TAB (hp (hp h a1 d1) a2 d2) tt c C W R f := (T.off h1.1 h1.2).off h2.1 h2.2
theorem c_standsH {h : MH} {b : Nat} (T : TAB h 6 7 120 17 n f) (hb : b < 120) (hB : hg h 22 = oB 1 [.ref 6]) : (ev X 20 0 [.ref 22, .int (nI b)] [] (h)) = some (some (.int (if f (b * 17 + 8) = 1 ∧ ¬ f (b * 17 + 14) = 1 then 1 else 0)), (h)) := by
  have := c_stands (X := X) (r := rof17 f b) T hb hB
  rw [bh_self T] at this
  exact this
theorem c_tally_loop {mm p w : Int32} (L : LG h 1 D) (h31 : hg h 31 = oB 6 [.ref 1, .ref 22, .ref 23, .ref 32, .ref 34, .ref 35, .ref 36, .int mm]) (h22 : hg h 22 = oB 1 [.ref 6]) (hF : FB (D.1 2) (D.2.1 2)) : ∀ (m b : Nat) (q : Nat → Int32), b + m = D.1 2 → ev X 62 17 [.ref 31, .int p, .int w, .int (nI b)] [] (SH h q) = some (none, (SH h (qtl (D.2.1 2) p w m b q)))
  | 0, b, q, hb => by
    have e : b = D.1 2 := by omega
    subst e
    have b2 := (LBD L).2.2.1
    have q0 := nI_nlt (Nat.le_refl (D.1 2)) (by omega)
    have o31 : hg (SH h q) 31 = oB 6 [.ref 1, .ref 22, .ref 23, .ref 32, .ref 34, .ref 35, .ref 36, .int mm] := by rw [SH_off (by decide) (by decide)]; exact h31
    rw [s62_17]
    simp only [s62_0, s62_1, s62_4, s62_5, s62_8, s62_9, s62_12, s62_15, s62_16, s62_18, s62_19, s62_22, s62_25, s62_28, s62_31, s62_32, s62_33, s62_36, s62_37, s62_40, s62_43, s62_44, s62_45, s62_48, s62_49, s62_52, s62_53, s62_56, s62_57, s62_60, s62_63, s62_64, s62_65, s62_66, s62_69, s62_70, s62_71, s62_72, s62_75, s62_78, s62_81, okF, okA, mcC_o, mcF_o, mcT_i, mcT_l, mcT_z, mcT_q, mcN_i, mcN_l, mcN_z, mcN_q, mcI_i, mcI_z, mcL_l, mcQ_q, hg_hp, hp_hp, List.getD_cons_zero, List.getD_cons_succ, List.set_cons_zero, List.set_cons_succ, List.length_cons, List.length_nil, Nat.reduceAdd, Nat.reduceLT, Nat.reduceEqDiff, Nat.lt_add_one, decide_true, decide_false, Bool.and_true, Bool.true_and, Bool.and_false, Bool.false_and, Bool.false_eq_true, if_true, if_false, ↓reduceIte, Option.bind_some, Option.bind_none, kont_v, kont_n, o31, lgo (SH_lg L), (lt2 (SH_lg L)).1, q0, qtl]
  | m + 1, b, q, hb => by
    have b2 := (LBD L).2.2.1
    have hbn : b < D.1 2 := by omega
    have hb120 : b < 120 := by omega
    have q0 := nI_lt hbn (by omega)
    obtain ⟨x, y, ex, hx, ey, hy⟩ := hF b hbn
    have o31 : hg (SH h q) 31 = oB 6 [.ref 1, .ref 22, .ref 23, .ref 32, .ref 34, .ref 35, .ref 36, .int mm] := by rw [SH_off (by decide) (by decide)]; exact h31
    have T := lt2 (SH_lg (q := q) L)
    have g2 := T.get' (X := X) (r := b) (q := 2) (q' := 2) rfl rfl hb120 (by decide)
    have st := c_standsH (X := X) T hb120 (by rw [SH_off (by decide) (by decide)]; exact h22)
    have o22 : hg (SH h q) 22 = oB 1 [.ref 6] := by rw [SH_off (by decide) (by decide)]; exact h22
    have ih := c_tally_loop (mm := mm) (p := p) (w := w) L h31 h22 hF m (b + 1)
    rw [s62_17]
    simp only [qtl]
    by_cases k1 : nI b = w
    · subst k1
      rw [if_neg (fun z => z.1 rfl)]
      simp only [s62_0, s62_1, s62_4, s62_5, s62_8, s62_9, s62_12, s62_15, s62_16, s62_18, s62_19, s62_22, s62_25, s62_28, s62_31, s62_32, s62_33, s62_36, s62_37, s62_40, s62_43, s62_44, s62_45, s62_48, s62_49, s62_52, s62_53, s62_56, s62_57, s62_60, s62_63, s62_64, s62_65, s62_66, s62_69, s62_70, s62_71, s62_72, s62_75, s62_78, s62_81, okF, okA, mcC_o, mcF_o, mcT_i, mcT_l, mcT_z, mcT_q, mcN_i, mcN_l, mcN_z, mcN_q, mcI_i, mcI_z, mcL_l, mcQ_q, hg_hp, hp_hp, List.getD_cons_zero, List.getD_cons_succ, List.set_cons_zero, List.set_cons_succ, List.length_cons, List.length_nil, Nat.reduceAdd, Nat.reduceLT, Nat.reduceEqDiff, Nat.lt_add_one, decide_true, decide_false, Bool.and_true, Bool.true_and, Bool.and_false, Bool.false_and, Bool.false_eq_true, if_true, if_false, ↓reduceIte, Option.bind_some, Option.bind_none, kont_v, kont_n, o31, lgo (SH_lg L), T.1, q0, eq_self, nI_1]
      exact ih q (by omega)
    by_cases k2 : D.2.1 2 (b * 17 + 2) = p
    · by_cases k3 : D.2.1 2 (b * 17 + 8) = 1 ∧ ¬ D.2.1 2 (b * 17 + 14) = 1
      · rw [if_pos ⟨k1, k2, k3⟩]
        rw [if_pos k3] at st
        have e0 := c_tallySide (X := X) (q := q) L h31 (s := 0) hb120 (by decide) ex hx
        have e1 := c_tallySide (X := X) (q := qside (D.2.1 2) b 0 x q) L h31 (s := 1) hb120 (by decide) ey hy
        rw [nI_0] at e0
        rw [← nl_1] at e1
        have o31' : hg (SH h (qside (D.2.1 2) b 0 x q)) 31 = oB 6 [.ref 1, .ref 22, .ref 23, .ref 32, .ref 34, .ref 35, .ref 36, .int mm] := by rw [SH_off (by decide) (by decide)]; exact h31
        have eq : qbout (D.2.1 2) b q = qside (D.2.1 2) b 1 y (qside (D.2.1 2) b 0 x q) := by
          unfold qbout fnn
          rw [ex, ey, nI_clamp (by omega), nI_clamp (by omega)]
        simp only [s62_0, s62_1, s62_4, s62_5, s62_8, s62_9, s62_12, s62_15, s62_16, s62_18, s62_19, s62_22, s62_25, s62_28, s62_31, s62_32, s62_33, s62_36, s62_37, s62_40, s62_43, s62_44, s62_45, s62_48, s62_49, s62_52, s62_53, s62_56, s62_57, s62_60, s62_63, s62_64, s62_65, s62_66, s62_69, s62_70, s62_71, s62_72, s62_75, s62_78, s62_81, okF, okA, mcC_o, mcF_o, mcT_i, mcT_l, mcT_z, mcT_q, mcN_i, mcN_l, mcN_z, mcN_q, mcI_i, mcI_z, mcL_l, mcQ_q, hg_hp, hp_hp, List.getD_cons_zero, List.getD_cons_succ, List.set_cons_zero, List.set_cons_succ, List.length_cons, List.length_nil, Nat.reduceAdd, Nat.reduceLT, Nat.reduceEqDiff, Nat.lt_add_one, decide_true, decide_false, Bool.and_true, Bool.true_and, Bool.and_false, Bool.false_and, Bool.false_eq_true, if_true, if_false, ↓reduceIte, Option.bind_some, Option.bind_none, kont_v, kont_n, o31, o31', lgo (SH_lg L), T.1, o22, q0, k1, g2, k2, st, e0, e1, nI_1, one0]
        rw [eq]
        exact ih _ (by omega)
      · rw [if_neg (fun z => k3 z.2.2)]
        rw [if_neg k3] at st
        simp only [s62_0, s62_1, s62_4, s62_5, s62_8, s62_9, s62_12, s62_15, s62_16, s62_18, s62_19, s62_22, s62_25, s62_28, s62_31, s62_32, s62_33, s62_36, s62_37, s62_40, s62_43, s62_44, s62_45, s62_48, s62_49, s62_52, s62_53, s62_56, s62_57, s62_60, s62_63, s62_64, s62_65, s62_66, s62_69, s62_70, s62_71, s62_72, s62_75, s62_78, s62_81, okF, okA, mcC_o, mcF_o, mcT_i, mcT_l, mcT_z, mcT_q, mcN_i, mcN_l, mcN_z, mcN_q, mcI_i, mcI_z, mcL_l, mcQ_q, hg_hp, hp_hp, List.getD_cons_zero, List.getD_cons_succ, List.set_cons_zero, List.set_cons_succ, List.length_cons, List.length_nil, Nat.reduceAdd, Nat.reduceLT, Nat.reduceEqDiff, Nat.lt_add_one, decide_true, decide_false, Bool.and_true, Bool.true_and, Bool.and_false, Bool.false_and, Bool.false_eq_true, if_true, if_false, ↓reduceIte, Option.bind_some, Option.bind_none, kont_v, kont_n, o31, lgo (SH_lg L), T.1, o22, q0, k1, g2, k2, st, nI_1]
        exact ih _ (by omega)
    · rw [if_neg (fun z => k2 z.2.1)]
      simp only [s62_0, s62_1, s62_4, s62_5, s62_8, s62_9, s62_12, s62_15, s62_16, s62_18, s62_19, s62_22, s62_25, s62_28, s62_31, s62_32, s62_33, s62_36, s62_37, s62_40, s62_43, s62_44, s62_45, s62_48, s62_49, s62_52, s62_53, s62_56, s62_57, s62_60, s62_63, s62_64, s62_65, s62_66, s62_69, s62_70, s62_71, s62_72, s62_75, s62_78, s62_81, okF, okA, mcC_o, mcF_o, mcT_i, mcT_l, mcT_z, mcT_q, mcN_i, mcN_l, mcN_z, mcN_q, mcI_i, mcI_z, mcL_l, mcQ_q, hg_hp, hp_hp, List.getD_cons_zero, List.getD_cons_succ, List.set_cons_zero, List.set_cons_succ, List.length_cons, List.length_nil, Nat.reduceAdd, Nat.reduceLT, Nat.reduceEqDiff, Nat.lt_add_one, decide_true, decide_false, Bool.and_true, Bool.true_and, Bool.and_false, Bool.false_and, Bool.false_eq_true, if_true, if_false, ↓reduceIte, Option.bind_some, Option.bind_none, kont_v, kont_n, o31, lgo (SH_lg L), T.1, q0, k1, g2, k2, nI_1]
      exact ih _ (by omega)
def qz : Nat → Int32 := fun _ => 0
theorem c_tally {p w : Int32} (L : LG h 1 D) (F : FIX h) (hF : FB (D.1 2) (D.2.1 2)) : (ev X 62 0 [.ref 31, .int p, .int w, .float 0] [] (h)) = some (none, (SH h (qtl (D.2.1 2) p w (D.1 2) 0 qz))) := by
  obtain ⟨mm, h31⟩ := F.c31
  obtain ⟨R, h32⟩ := F.c32
  obtain ⟨A, h33⟩ := F.c33
  have hh : TAB (hp h 32 (oB 10 [.int (nI 16), .int (nI 6), .ref 33, .int (nI 0)])) 32 33 16 6 0 A := ⟨by rw [hg_hp, if_pos rfl], by rw [hg_hp, if_neg (by decide)]; exact h33, by decide, by decide, by decide, by decide⟩
  have ea := hh.addAll (X := X)
  have e0 : hp (hp (hp h 32 (oB 10 [.int (nI 16), .int (nI 6), .ref 33, .int (nI 0)])) 32 (oB 10 [.int (nI 16), .int (nI 6), .ref 33, .int (nI 16)])) 33 (iA (16 * 6) (addF 16 6 0 A)) = SH h qz := by
    rw [hp_hp]
    unfold SH
    rw [h33]
    congr 2
    funext i
    unfold addF g96 qz
    by_cases hi : i < 96
    · rw [if_pos (by omega), if_pos hi]
    · rw [if_neg (by omega), if_neg hi]; rfl
  rw [e0, nI_0] at ea
  have o31 : hg (SH h qz) 31 = oB 6 [.ref 1, .ref 22, .ref 23, .ref 32, .ref 34, .ref 35, .ref 36, .int mm] := by rw [SH_off (by decide) (by decide)]; exact h31
  have lp := c_tally_loop (X := X) (p := p) (w := w) L h31 F.c22 hF (D.1 2) 0 qz (by omega)
  rw [nI_0] at lp
  simp only [s62_0, s62_1, s62_4, s62_5, s62_8, s62_9, s62_12, s62_15, s62_16, s62_18, s62_19, s62_22, s62_25, s62_28, s62_31, s62_32, s62_33, s62_36, s62_37, s62_40, s62_43, s62_44, s62_45, s62_48, s62_49, s62_52, s62_53, s62_56, s62_57, s62_60, s62_63, s62_64, s62_65, s62_66, s62_69, s62_70, s62_71, s62_72, s62_75, s62_78, s62_81, okF, okA, mcC_o, mcF_o, mcT_i, mcT_l, mcT_z, mcT_q, mcN_i, mcN_l, mcN_z, mcN_q, mcI_i, mcI_z, mcL_l, mcQ_q, hg_hp, hp_hp, List.getD_cons_zero, List.getD_cons_succ, List.set_cons_zero, List.set_cons_succ, List.length_cons, List.length_nil, Nat.reduceAdd, Nat.reduceLT, Nat.reduceEqDiff, Nat.lt_add_one, decide_true, decide_false, Bool.and_true, Bool.true_and, Bool.and_false, Bool.false_and, Bool.false_eq_true, if_true, if_false, ↓reduceIte, Option.bind_some, Option.bind_none, kont_v, kont_n, h31, h32, o31, ea]
  exact lp
end TLY

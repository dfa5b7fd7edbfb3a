-- SERVICE 2: all ways of the reference, and the class's sums
def ACC (n : Nat) (acc : WY) (bq : Int32) (v : Nat → Int32) : Prop := match acc with
  | none => bq = -1
  | some y => bq = nI y.1 ∧ y.1 < 1000000 ∧ ∀ i, i < n → v i = nI (y.2 i)
theorem sm_congr {hs w w' : Nat → Nat} : ∀ (k : Nat), (∀ i, i < k → w i = w' i) → sm hs w k = sm hs w' k := by
  intro k
  induction k with
  | zero => intro _; rfl
  | succ k ih =>
    intro h
    rw [sm, sm, ih (fun i hi => h i (by omega)), h k (by omega)]
theorem sm_le {hs w : Nat → Nat} : ∀ (k : Nat), (∀ i, i < k → hs (w i) ≤ 1000) → sm hs w k ≤ k * 1000 := by
  intro k
  induction k with
  | zero => intro _; exact Nat.zero_le _
  | succ k ih =>
    intro h
    have := ih (fun i hi => h i (by omega))
    have := h k (by omega)
    rw [sm, Nat.succ_mul]; omega
section SV2
variable {X : MX} {t : Nat} {h B : MH} {D : LD} {S : Nat → Int32} {Z : Nat → Int32}
theorem m_leaf (h56 : hg B 56 = iA 16450 S) {n k p : Nat} {hs w : Nat → Nat} {bq : Int32} {a wa v : Nat → Int32} {a1 a3 a4 : Value} {acc : WY} (hn : n ≤ 8) (hk : k + 1 = n) (hw : ∀ i, i < n → wa i = nI (fu w k p i) ∧ fu w k p i < 8 ∧ S (124 + 3 * fu w k p i + 2) = nI (hs (fu w k p i)) ∧ hs (fu w k p i) ≤ 1000) (hA : ACC n acc bq v) : ∃ bq' v' a3' a4', ACC n (cmb acc (some (sm hs (fu w k p) n, fu w k p))) bq' v' ∧ ev X 217 150 [.ref 55, a1, .int (nI k), a3, a4] [] (QH B Z (nI n) bq a wa v) = ev X 217 84 [.ref 55, a1, .int (nI k), a3', a4'] [] (QH B Z (nI n) bq' a wa v') := by
  have sl := m_sum_lp (X := X) (Z := Z) (bq := bq) (a := a) (v := v) (a1 := a1) (a2 := .int (nI k)) h56 hn (hs := hs) (w := fu w k p) (fun i hi => ⟨(hw i hi).1, (hw i hi).2.1, (hw i hi).2.2.1⟩) n 0 (by omega)
  rw [show sm hs (fu w k p) 0 = 0 from rfl, nI_0] at sl
  have cl := fun bq => m_cpy_lp (X := X) (B := B) (Z := Z) (bq := bq) (a := a) (wa := wa) (v := v) (a1 := a1) (a2 := .int (nI k)) (a3 := .int (nI (sm hs (fu w k p) n))) hn n 0 (by omega)
  rw [cpj_0, nI_0] at cl
  have sb := sm_le (hs := hs) (w := fu w k p) n (fun i hi => (hw i hi).2.2.2)
  have sb2 : n * 1000 ≤ 8 * 1000 := Nat.mul_le_mul_right _ hn
  have new : ACC n (some (sm hs (fu w k p) n, fu w k p)) (nI (sm hs (fu w k p) n)) (cpj wa v n) := ⟨rfl, by show sm hs (fu w k p) n < 1000000; omega, fun i hi => by unfold cpj; rw [if_pos hi]; exact (hw i hi).1⟩
  cases acc with
  | none =>
    have hA : bq = -1 := hA
    refine ⟨_, _, .int (nI (sm hs (fu w k p) n)), .int (nI n), new, ?_⟩
    subst hA
    simp only [s217_0, s217_1, s217_2, s217_5, s217_6, s217_8, s217_10, s217_13, s217_14, s217_15, s217_16, s217_17, s217_18, s217_19, s217_22, s217_23, s217_26, s217_27, s217_30, s217_31, s217_32, s217_33, s217_34, s217_37, s217_38, s217_39, s217_42, s217_45, s217_49, s217_50, s217_53, s217_56, s217_57, s217_60, s217_61, s217_64, s217_65, s217_68, s217_71, s217_72, s217_75, s217_76, s217_77, s217_78, s217_81, s217_82, s217_83, s217_85, s217_88, s217_89, s217_92, s217_93, s217_94, s217_95, s217_96, s217_97, s217_98, s217_99, s217_102, s217_103, s217_104, s217_105, s217_108, s217_109, s217_110, s217_113, s217_116, s217_119, s217_120, s217_121, s217_124, s217_127, s217_128, s217_129, s217_130, s217_131, s217_134, s217_137, s217_140, s217_141, s217_144, s217_145, s217_146, s217_147, s217_150, s217_151, s217_152, s217_153, s217_157, s217_158, s217_161, s217_164, s217_165, s217_166, s217_169, s217_171, s217_172, s217_173, s217_176, s217_178, s217_179, s217_180, s217_181, s217_182, s217_183, s217_184, s217_185, s217_186, s217_189, s217_192, s217_193, s217_196, s217_197, s217_200, s217_201, s217_202, s217_205, s217_208, s217_209, s217_210, s217_213, s217_214, s217_218, s217_219, s217_222, s217_225, s217_226, s217_229, s217_231, s217_232, s217_235, s217_237, s217_238, s217_239, s217_242, s217_245, s217_248, okF, okA, mcC_o, mcF_o, mcT_i, mcT_l, mcT_z, mcT_q, mcN_i, mcN_l, mcN_z, mcN_q, mcI_i, mcI_z, mcL_l, mcQ_q, hg_hp, hp_hp, List.getD_cons_zero, List.getD_cons_succ, List.set_cons_zero, List.set_cons_succ, List.length_cons, List.length_nil, Nat.reduceAdd, Nat.reduceLT, Nat.reduceEqDiff, Nat.lt_add_one, decide_true, decide_false, Bool.and_true, Bool.true_and, Bool.and_false, Bool.false_and, Bool.false_eq_true, if_true, if_false, ↓reduceIte, Option.bind_some, Option.bind_none, kont_v, kont_n, QH_55, QHp_55, MO_len, MO_36, MOs_36, sl, cl]
  | some y =>
    obtain ⟨hA1, hA2, hA3⟩ := hA
    have nm : (nI y.1 = (-1 : Int32)) = False := eq_false (nI_m1 (by omega))
    rw [cmb_ss]
    by_cases lt : sm hs (fu w k p) n < y.1
    · have l := nI_lt lt (by omega)
      refine ⟨_, _, .int (nI (sm hs (fu w k p) n)), .int (nI n), by rw [if_pos lt]; exact new, ?_⟩
      subst hA1
      simp only [s217_0, s217_1, s217_2, s217_5, s217_6, s217_8, s217_10, s217_13, s217_14, s217_15, s217_16, s217_17, s217_18, s217_19, s217_22, s217_23, s217_26, s217_27, s217_30, s217_31, s217_32, s217_33, s217_34, s217_37, s217_38, s217_39, s217_42, s217_45, s217_49, s217_50, s217_53, s217_56, s217_57, s217_60, s217_61, s217_64, s217_65, s217_68, s217_71, s217_72, s217_75, s217_76, s217_77, s217_78, s217_81, s217_82, s217_83, s217_85, s217_88, s217_89, s217_92, s217_93, s217_94, s217_95, s217_96, s217_97, s217_98, s217_99, s217_102, s217_103, s217_104, s217_105, s217_108, s217_109, s217_110, s217_113, s217_116, s217_119, s217_120, s217_121, s217_124, s217_127, s217_128, s217_129, s217_130, s217_131, s217_134, s217_137, s217_140, s217_141, s217_144, s217_145, s217_146, s217_147, s217_150, s217_151, s217_152, s217_153, s217_157, s217_158, s217_161, s217_164, s217_165, s217_166, s217_169, s217_171, s217_172, s217_173, s217_176, s217_178, s217_179, s217_180, s217_181, s217_182, s217_183, s217_184, s217_185, s217_186, s217_189, s217_192, s217_193, s217_196, s217_197, s217_200, s217_201, s217_202, s217_205, s217_208, s217_209, s217_210, s217_213, s217_214, s217_218, s217_219, s217_222, s217_225, s217_226, s217_229, s217_231, s217_232, s217_235, s217_237, s217_238, s217_239, s217_242, s217_245, s217_248, okF, okA, mcC_o, mcF_o, mcT_i, mcT_l, mcT_z, mcT_q, mcN_i, mcN_l, mcN_z, mcN_q, mcI_i, mcI_z, mcL_l, mcQ_q, hg_hp, hp_hp, List.getD_cons_zero, List.getD_cons_succ, List.set_cons_zero, List.set_cons_succ, List.length_cons, List.length_nil, Nat.reduceAdd, Nat.reduceLT, Nat.reduceEqDiff, Nat.lt_add_one, decide_true, decide_false, Bool.and_true, Bool.true_and, Bool.and_false, Bool.false_and, Bool.false_eq_true, if_true, if_false, ↓reduceIte, Option.bind_some, Option.bind_none, kont_v, kont_n, QH_55, QHp_55, MO_len, MO_36, MOs_36, sl, cl, nm, l]
    · have l := nI_nlt (a := sm hs (fu w k p) n) (b := y.1) (by omega) (by omega)
      refine ⟨bq, v, .int (nI (sm hs (fu w k p) n)), .int (nI n), by rw [if_neg lt]; exact ⟨hA1, hA2, hA3⟩, ?_⟩
      subst hA1
      simp only [s217_0, s217_1, s217_2, s217_5, s217_6, s217_8, s217_10, s217_13, s217_14, s217_15, s217_16, s217_17, s217_18, s217_19, s217_22, s217_23, s217_26, s217_27, s217_30, s217_31, s217_32, s217_33, s217_34, s217_37, s217_38, s217_39, s217_42, s217_45, s217_49, s217_50, s217_53, s217_56, s217_57, s217_60, s217_61, s217_64, s217_65, s217_68, s217_71, s217_72, s217_75, s217_76, s217_77, s217_78, s217_81, s217_82, s217_83, s217_85, s217_88, s217_89, s217_92, s217_93, s217_94, s217_95, s217_96, s217_97, s217_98, s217_99, s217_102, s217_103, s217_104, s217_105, s217_108, s217_109, s217_110, s217_113, s217_116, s217_119, s217_120, s217_121, s217_124, s217_127, s217_128, s217_129, s217_130, s217_131, s217_134, s217_137, s217_140, s217_141, s217_144, s217_145, s217_146, s217_147, s217_150, s217_151, s217_152, s217_153, s217_157, s217_158, s217_161, s217_164, s217_165, s217_166, s217_169, s217_171, s217_172, s217_173, s217_176, s217_178, s217_179, s217_180, s217_181, s217_182, s217_183, s217_184, s217_185, s217_186, s217_189, s217_192, s217_193, s217_196, s217_197, s217_200, s217_201, s217_202, s217_205, s217_208, s217_209, s217_210, s217_213, s217_214, s217_218, s217_219, s217_222, s217_225, s217_226, s217_229, s217_231, s217_232, s217_235, s217_237, s217_238, s217_239, s217_242, s217_245, s217_248, okF, okA, mcC_o, mcF_o, mcT_i, mcT_l, mcT_z, mcT_q, mcN_i, mcN_l, mcN_z, mcN_q, mcI_i, mcI_z, mcL_l, mcQ_q, hg_hp, hp_hp, List.getD_cons_zero, List.getD_cons_succ, List.set_cons_zero, List.set_cons_succ, List.length_cons, List.length_nil, Nat.reduceAdd, Nat.reduceLT, Nat.reduceEqDiff, Nat.lt_add_one, decide_true, decide_false, Bool.and_true, Bool.true_and, Bool.and_false, Bool.false_and, Bool.false_eq_true, if_true, if_false, ↓reduceIte, Option.bind_some, Option.bind_none, kont_v, kont_n, QH_55, QHp_55, MO_len, MO_36, MOs_36, sl, nm, l]
/-- the reference at the head of its ways -/
def SG (X : MX) (B : MH) (Z : Nat → Int32) (P n : Nat) (a : Nat → Int32) (m : Nat) (POST : Option (Option Value × MH) → Prop) (k : Nat) (w : Nat → Nat) (dg : Int32) (acc : WY) : Prop := (∀ i, i < k → w i < P) → ∀ (a3 a4 : Value) (wa v : Nat → Int32) (bq : Int32), (∀ i, i < k → wa i = nI (w i)) → wa k = dg → ACC n acc bq v → POST (ev X 217 84 [.ref 55, .int (nI m), .int (nI k), a3, a4] [] (QH B Z (nI n) bq a wa v))
def SB (X : MX) (B : MH) (Z : Nat → Int32) (P n : Nat) (a : Nat → Int32) (m : Nat) (POST : Option (Option Value × MH) → Prop) (k : Nat) (w : Nat → Nat) (acc : WY) : Prop := (∀ i, i < k → w i < P) → ∀ (a3 a4 : Value) (wa v : Nat → Int32) (bq : Int32), (∀ i, i < k → wa i = nI (w i)) → ACC n acc bq v → POST (ev X 217 84 [.ref 55, .int (nI m), .int (kv k), a3, a4] [] (QH B Z (nI n) bq a wa v))
theorem m_odo (h56 : hg B 56 = iA 16450 S) (R : REL D S) (b2 : D.1 2 ≤ 120) (b5 : D.1 5 ≤ 8) {n m : Nat} {a : Nat → Int32} {hb hs : Nat → Nat} {POST : Option (Option Value × MH) → Prop} (hn : n ≤ 8) (ha : ∀ k, k < n → a k = nI (hb k) ∧ hb k < D.1 2) (hh : ∀ r, r < D.1 5 → D.2.1 5 (r * 3 + 2) = nI (hs r) ∧ hs r ≤ 1000) {w : Nat → Nat} (hn1 : 1 ≤ n) (F : SB X B Z (D.1 5) n a m POST 0 w (bst (D.1 5) (oks D hb) (fun w => sm hs w n) n 0 w)) : SG X B Z (D.1 5) n a m POST 0 w (-1) none := by
  have z4 := (RCC R).2.2.2.2.1
  have hS : ∀ r, r < D.1 5 → S (124 + 3 * r + 2) = nI (hs r) := fun r hr => by
    rw [← (hh r hr).1]
    exact R.s (i := 5) (by decide) (by decide) (by show r * 3 + 2 < 24; omega) (by show _ = 124 + (r * 3 + 2); omega)
  have rk : ∀ k, k < n → inR (nI k) 8 = true ∧ (nI k).toNatClampNeg = k ∧ ¬ nI k < 0 := fun k hk => ⟨inR_n (by omega) (by decide), nI_clamp (by omega), nI_pos (by omega)⟩
  have c4 : inR 4 16450 = true := by decide
  have d4 : (4 : Int32).toNatClampNeg = 4 := by decide
  have one0 : ¬ (1 : Int32) = 0 := by decide
  have key := odo (P := D.1 5) (n := n) (ok := oks D hb) (cost := fun w => sm hs w n) (G := SG X B Z (D.1 5) n a m POST) (BK := SB X B Z (D.1 5) n a m POST) ?_ ?_ ?_ ?_ ?_ (n - 1) 0 w (by omega) (D.1 5) 0 none (by omega)
  · rw [show nI 0 - 1 = (-1 : Int32) by decide] at key
    apply key
    rw [cmb_nl]
    have : bst (D.1 5) (oks D hb) (fun w => sm hs w n) n 0 w = bst (D.1 5) (oks D hb) (fun w => sm hs w n) (n - 1 + 1) 0 w := by rw [Nat.sub_add_cancel hn1]
    rw [this] at F
    exact F
  · -- back
    intro k w p acc hk hp g w8 a3 a4 wa v bq hw hA
    have ek : kv (k + 1) = nI k := rfl
    rw [ek]
    refine g (fun i hi => ?_) a3 a4 wa v bq (fun i hi => ?_) ?_ hA
    · have := w8 i (by omega)
      rw [fu_n _ _ (by omega)] at this
      exact this
    · rw [hw i (by omega), fu_n _ _ (by omega)]
    · rw [hw k (by omega), fu_s]
  · -- no more at this depth
    intro k w acc hk b w8 a3 a4 wa v bq hw hd hA
    obtain ⟨r1, c1, l1⟩ := rk k hk
    have p1 : nI k + -1 = kv k := by rw [← kv_pred, Int32.sub_eq_add_neg]
    have p2 : wa k + 1 = nI (D.1 5) := by rw [hd]; exact Int32.sub_add_cancel _ _
    have l := nI_nlt (Nat.le_refl (D.1 5)) (show D.1 5 < 2 ^ 31 by omega)
    have := b w8 a3 a4 (upd wa k (nI (D.1 5))) v bq (fun i hi => by rw [upd_ne (by omega)]; exact hw i hi) hA
    have e : ev X 217 84 [.ref 55, .int (nI m), .int (nI k), a3, a4] [] (QH B Z (nI n) bq a wa v) = ev X 217 84 [.ref 55, .int (nI m), .int (kv k), a3, a4] [] (QH B Z (nI n) bq a (upd wa k (nI (D.1 5))) v) := by
      rw [s217_84]
      simp only [s217_0, s217_1, s217_2, s217_5, s217_6, s217_8, s217_10, s217_13, s217_14, s217_15, s217_16, s217_17, s217_18, s217_19, s217_22, s217_23, s217_26, s217_27, s217_30, s217_31, s217_32, s217_33, s217_34, s217_37, s217_38, s217_39, s217_42, s217_45, s217_49, s217_50, s217_53, s217_56, s217_57, s217_60, s217_61, s217_64, s217_65, s217_68, s217_71, s217_72, s217_75, s217_76, s217_77, s217_78, s217_81, s217_82, s217_83, s217_85, s217_88, s217_89, s217_92, s217_93, s217_94, s217_95, s217_96, s217_97, s217_98, s217_99, s217_102, s217_103, s217_104, s217_105, s217_108, s217_109, s217_110, s217_113, s217_116, s217_119, s217_120, s217_121, s217_124, s217_127, s217_128, s217_129, s217_130, s217_131, s217_134, s217_137, s217_140, s217_141, s217_144, s217_145, s217_146, s217_147, s217_150, s217_151, s217_152, s217_153, s217_157, s217_158, s217_161, s217_164, s217_165, s217_166, s217_169, s217_171, s217_172, s217_173, s217_176, s217_178, s217_179, s217_180, s217_181, s217_182, s217_183, s217_184, s217_185, s217_186, s217_189, s217_192, s217_193, s217_196, s217_197, s217_200, s217_201, s217_202, s217_205, s217_208, s217_209, s217_210, s217_213, s217_214, s217_218, s217_219, s217_222, s217_225, s217_226, s217_229, s217_231, s217_232, s217_235, s217_237, s217_238, s217_239, s217_242, s217_245, s217_248, okF, okA, mcC_o, mcF_o, mcT_i, mcT_l, mcT_z, mcT_q, mcN_i, mcN_l, mcN_z, mcN_q, mcI_i, mcI_z, mcL_l, mcQ_q, hg_hp, hp_hp, List.getD_cons_zero, List.getD_cons_succ, List.set_cons_zero, List.set_cons_succ, List.length_cons, List.length_nil, Nat.reduceAdd, Nat.reduceLT, Nat.reduceEqDiff, Nat.lt_add_one, decide_true, decide_false, Bool.and_true, Bool.true_and, Bool.and_false, Bool.false_and, Bool.false_eq_true, if_true, if_false, ↓reduceIte, Option.bind_some, Option.bind_none, kont_v, kont_n, QH_55, QH_56, h56, QH_82, QHp_82, MO_len, MO_0, MO_34, r1, c1, l1, p1, p2, upd_eq, c4, d4, z4, l]
    rw [e]
    exact this
  · -- can not
    intro k w p acc hk hp o g w8 a3 a4 wa v bq hw hd hA
    obtain ⟨r1, c1, l1⟩ := rk k hk
    obtain ⟨a1, a2⟩ := ha k hk
    have p2 : wa k + 1 = nI p := by rw [hd]; exact Int32.sub_add_cancel _ _
    have l := nI_lt hp (show D.1 5 < 2 ^ 31 by omega)
    have ms := m_mayServe (X := X) (B := B) (Z := Z) (sv := nI n) (bq := bq) (v := v) (w := upd wa k (nI p)) (a := a) h56 R b2 (hb := hb) (k := k) (p := p) (w' := w) (by omega) (by omega) upd_eq (fun j hj => ⟨by rw [upd_ne (by omega)]; exact hw j hj, by have := w8 j hj; omega⟩) a1 a2
    rw [if_neg o] at ms
    have := g w8 a3 a4 (upd wa k (nI p)) v bq (fun i hi => by rw [upd_ne (by omega)]; exact hw i hi) upd_eq hA
    have e : ev X 217 84 [.ref 55, .int (nI m), .int (nI k), a3, a4] [] (QH B Z (nI n) bq a wa v) = ev X 217 84 [.ref 55, .int (nI m), .int (nI k), a3, a4] [] (QH B Z (nI n) bq a (upd wa k (nI p)) v) := by
      conv => lhs; rw [s217_84]
      simp only [s217_0, s217_1, s217_2, s217_5, s217_6, s217_8, s217_10, s217_13, s217_14, s217_15, s217_16, s217_17, s217_18, s217_19, s217_22, s217_23, s217_26, s217_27, s217_30, s217_31, s217_32, s217_33, s217_34, s217_37, s217_38, s217_39, s217_42, s217_45, s217_49, s217_50, s217_53, s217_56, s217_57, s217_60, s217_61, s217_64, s217_65, s217_68, s217_71, s217_72, s217_75, s217_76, s217_77, s217_78, s217_81, s217_82, s217_83, s217_85, s217_88, s217_89, s217_92, s217_93, s217_94, s217_95, s217_96, s217_97, s217_98, s217_99, s217_102, s217_103, s217_104, s217_105, s217_108, s217_109, s217_110, s217_113, s217_116, s217_119, s217_120, s217_121, s217_124, s217_127, s217_128, s217_129, s217_130, s217_131, s217_134, s217_137, s217_140, s217_141, s217_144, s217_145, s217_146, s217_147, s217_150, s217_151, s217_152, s217_153, s217_157, s217_158, s217_161, s217_164, s217_165, s217_166, s217_169, s217_171, s217_172, s217_173, s217_176, s217_178, s217_179, s217_180, s217_181, s217_182, s217_183, s217_184, s217_185, s217_186, s217_189, s217_192, s217_193, s217_196, s217_197, s217_200, s217_201, s217_202, s217_205, s217_208, s217_209, s217_210, s217_213, s217_214, s217_218, s217_219, s217_222, s217_225, s217_226, s217_229, s217_231, s217_232, s217_235, s217_237, s217_238, s217_239, s217_242, s217_245, s217_248, okF, okA, mcC_o, mcF_o, mcT_i, mcT_l, mcT_z, mcT_q, mcN_i, mcN_l, mcN_z, mcN_q, mcI_i, mcI_z, mcL_l, mcQ_q, hg_hp, hp_hp, List.getD_cons_zero, List.getD_cons_succ, List.set_cons_zero, List.set_cons_succ, List.length_cons, List.length_nil, Nat.reduceAdd, Nat.reduceLT, Nat.reduceEqDiff, Nat.lt_add_one, decide_true, decide_false, Bool.and_true, Bool.true_and, Bool.and_false, Bool.false_and, Bool.false_eq_true, if_true, if_false, ↓reduceIte, Option.bind_some, Option.bind_none, kont_v, kont_n, QH_55, QH_56, h56, QH_82, QHp_82, MO_len, MO_0, MO_34, r1, c1, l1, p2, upd_eq, c4, d4, z4, l, ms]
    rw [e]
    exact this
  · -- one deeper
    intro k w p acc hk hp o g w8 a3 a4 wa v bq hw hd hA
    obtain ⟨r1, c1, l1⟩ := rk k (by omega)
    obtain ⟨r2, c2, -⟩ := rk (k + 1) hk
    obtain ⟨a1, a2⟩ := ha k (by omega)
    have p1 : nI k + 1 = nI (k + 1) := nI_add k 1
    have p2 : wa k + 1 = nI p := by rw [hd]; exact Int32.sub_add_cancel _ _
    have l := nI_lt hp (show D.1 5 < 2 ^ 31 by omega)
    have l2 := nI_lt hk (show n < 2 ^ 31 by omega)
    have ms := m_mayServe (X := X) (B := B) (Z := Z) (sv := nI n) (bq := bq) (v := v) (w := upd wa k (nI p)) (a := a) h56 R b2 (hb := hb) (k := k) (p := p) (w' := w) (by omega) (by omega) upd_eq (fun j hj => ⟨by rw [upd_ne (by omega)]; exact hw j hj, by have := w8 j hj; omega⟩) a1 a2
    rw [if_pos o] at ms
    have := g (fun i hi => by
      by_cases q : i = k
      · rw [q, fu_s]; omega
      · rw [fu_n _ _ q]; exact w8 i (by omega)) a3 a4 (upd (upd wa k (nI p)) (k + 1) (-1)) v bq (fun i hi => by
      rw [upd_ne (by omega)]
      by_cases q : i = k
      · rw [q, upd_eq, fu_s]
      · rw [upd_ne q, fu_n _ _ q]; exact hw i (by omega)) upd_eq hA
    have e : ev X 217 84 [.ref 55, .int (nI m), .int (nI k), a3, a4] [] (QH B Z (nI n) bq a wa v) = ev X 217 84 [.ref 55, .int (nI m), .int (nI (k + 1)), a3, a4] [] (QH B Z (nI n) bq a (upd (upd wa k (nI p)) (k + 1) (-1)) v) := by
      conv => lhs; rw [s217_84]
      simp only [s217_0, s217_1, s217_2, s217_5, s217_6, s217_8, s217_10, s217_13, s217_14, s217_15, s217_16, s217_17, s217_18, s217_19, s217_22, s217_23, s217_26, s217_27, s217_30, s217_31, s217_32, s217_33, s217_34, s217_37, s217_38, s217_39, s217_42, s217_45, s217_49, s217_50, s217_53, s217_56, s217_57, s217_60, s217_61, s217_64, s217_65, s217_68, s217_71, s217_72, s217_75, s217_76, s217_77, s217_78, s217_81, s217_82, s217_83, s217_85, s217_88, s217_89, s217_92, s217_93, s217_94, s217_95, s217_96, s217_97, s217_98, s217_99, s217_102, s217_103, s217_104, s217_105, s217_108, s217_109, s217_110, s217_113, s217_116, s217_119, s217_120, s217_121, s217_124, s217_127, s217_128, s217_129, s217_130, s217_131, s217_134, s217_137, s217_140, s217_141, s217_144, s217_145, s217_146, s217_147, s217_150, s217_151, s217_152, s217_153, s217_157, s217_158, s217_161, s217_164, s217_165, s217_166, s217_169, s217_171, s217_172, s217_173, s217_176, s217_178, s217_179, s217_180, s217_181, s217_182, s217_183, s217_184, s217_185, s217_186, s217_189, s217_192, s217_193, s217_196, s217_197, s217_200, s217_201, s217_202, s217_205, s217_208, s217_209, s217_210, s217_213, s217_214, s217_218, s217_219, s217_222, s217_225, s217_226, s217_229, s217_231, s217_232, s217_235, s217_237, s217_238, s217_239, s217_242, s217_245, s217_248, okF, okA, mcC_o, mcF_o, mcT_i, mcT_l, mcT_z, mcT_q, mcN_i, mcN_l, mcN_z, mcN_q, mcI_i, mcI_z, mcL_l, mcQ_q, hg_hp, hp_hp, List.getD_cons_zero, List.getD_cons_succ, List.set_cons_zero, List.set_cons_succ, List.length_cons, List.length_nil, Nat.reduceAdd, Nat.reduceLT, Nat.reduceEqDiff, Nat.lt_add_one, decide_true, decide_false, Bool.and_true, Bool.true_and, Bool.and_false, Bool.false_and, Bool.false_eq_true, if_true, if_false, ↓reduceIte, Option.bind_some, Option.bind_none, kont_v, kont_n, QH_55, QH_56, h56, QH_82, QHp_82, MO_len, MO_0, MO_32, MO_34, r1, c1, r2, c2, l1, p1, p2, upd_eq, c4, d4, z4, l, l2, ms, one0]
    rw [e]
    exact this
  · -- a whole way
    intro k w p acc hk hp o g w8 a3 a4 wa v bq hw hd hA
    obtain ⟨r1, c1, l1⟩ := rk k (by omega)
    obtain ⟨a1, a2⟩ := ha k (by omega)
    have p1 : nI k + 1 = nI n := by rw [← hk]; exact nI_add k 1
    have p2 : wa k + 1 = nI p := by rw [hd]; exact Int32.sub_add_cancel _ _
    have l := nI_lt hp (show D.1 5 < 2 ^ 31 by omega)
    have l2 := nI_nlt (Nat.le_refl n) (show n < 2 ^ 31 by omega)
    have ms := m_mayServe (X := X) (B := B) (Z := Z) (sv := nI n) (bq := bq) (v := v) (w := upd wa k (nI p)) (a := a) h56 R b2 (hb := hb) (k := k) (p := p) (w' := w) (by omega) (by omega) upd_eq (fun j hj => ⟨by rw [upd_ne (by omega)]; exact hw j hj, by have := w8 j hj; omega⟩) a1 a2
    rw [if_pos o] at ms
    have fw : ∀ i, i < n → fu w k p i < D.1 5 := fun i hi => by
      by_cases q : i = k
      · rw [q, fu_s]; exact hp
      · rw [fu_n _ _ q]; exact w8 i (by omega)
    obtain ⟨bq', v', a3', a4', A', e2⟩ := m_leaf (X := X) (Z := Z) (B := B) (a := a) (a1 := .int (nI m)) (a3 := a3) (a4 := a4) (wa := upd wa k (nI p)) (hs := hs) (w := w) (p := p) h56 hn hk (fun i hi => ⟨by
      by_cases q : i = k
      · rw [q, upd_eq, fu_s]
      · rw [upd_ne q, fu_n _ _ q]; exact hw i (by omega), by have := fw i hi; omega, hS _ (fw i hi), (hh _ (fw i hi)).2⟩) hA
    have := g w8 a3' a4' (upd wa k (nI p)) v' bq' (fun i hi => by rw [upd_ne (by omega)]; exact hw i hi) upd_eq A'
    have e : ev X 217 84 [.ref 55, .int (nI m), .int (nI k), a3, a4] [] (QH B Z (nI n) bq a wa v) = ev X 217 150 [.ref 55, .int (nI m), .int (nI k), a3, a4] [] (QH B Z (nI n) bq a (upd wa k (nI p)) v) := by
      conv => lhs; rw [s217_84]
      simp only [s217_0, s217_1, s217_2, s217_5, s217_6, s217_8, s217_10, s217_13, s217_14, s217_15, s217_16, s217_17, s217_18, s217_19, s217_22, s217_23, s217_26, s217_27, s217_30, s217_31, s217_32, s217_33, s217_34, s217_37, s217_38, s217_39, s217_42, s217_45, s217_49, s217_50, s217_53, s217_56, s217_57, s217_60, s217_61, s217_64, s217_65, s217_68, s217_71, s217_72, s217_75, s217_76, s217_77, s217_78, s217_81, s217_82, s217_83, s217_85, s217_88, s217_89, s217_92, s217_93, s217_94, s217_95, s217_96, s217_97, s217_98, s217_99, s217_102, s217_103, s217_104, s217_105, s217_108, s217_109, s217_110, s217_113, s217_116, s217_119, s217_120, s217_121, s217_124, s217_127, s217_128, s217_129, s217_130, s217_131, s217_134, s217_137, s217_140, s217_141, s217_144, s217_145, s217_146, s217_147, s217_151, s217_152, s217_153, s217_157, s217_158, s217_161, s217_164, s217_165, s217_166, s217_169, s217_171, s217_172, s217_173, s217_176, s217_178, s217_179, s217_180, s217_181, s217_182, s217_183, s217_184, s217_185, s217_186, s217_189, s217_192, s217_193, s217_196, s217_197, s217_200, s217_201, s217_202, s217_205, s217_208, s217_209, s217_210, s217_213, s217_214, s217_218, s217_219, s217_222, s217_225, s217_226, s217_229, s217_231, s217_232, s217_235, s217_237, s217_238, s217_239, s217_242, s217_245, s217_248, okF, okA, mcC_o, mcF_o, mcT_i, mcT_l, mcT_z, mcT_q, mcN_i, mcN_l, mcN_z, mcN_q, mcI_i, mcI_z, mcL_l, mcQ_q, hg_hp, hp_hp, List.getD_cons_zero, List.getD_cons_succ, List.set_cons_zero, List.set_cons_succ, List.length_cons, List.length_nil, Nat.reduceAdd, Nat.reduceLT, Nat.reduceEqDiff, Nat.lt_add_one, decide_true, decide_false, Bool.and_true, Bool.true_and, Bool.and_false, Bool.false_and, Bool.false_eq_true, if_true, if_false, ↓reduceIte, Option.bind_some, Option.bind_none, kont_v, kont_n, QH_55, QH_56, h56, QH_82, QHp_82, MO_len, MO_0, MO_32, MO_34, r1, c1, l1, p1, p2, upd_eq, c4, d4, z4, l, l2, ms, one0]
    rw [e, e2]
    exact this
theorem m_svrun (h56 : hg B 56 = iA 16450 S) (R : REL D S) (b2 : D.1 2 ≤ 120) (b5 : D.1 5 ≤ 8) {n m : Nat} {a : Nat → Int32} {hb hs : Nat → Nat} (hn : n ≤ 8) (hn1 : 1 ≤ n) (ha : ∀ k, k < n → a k = nI (hb k) ∧ hb k < D.1 2) (hh : ∀ r, r < D.1 5 → D.2.1 5 (r * 3 + 2) = nI (hs r) ∧ hs r ≤ 1000) {w : Nat → Nat} {wa v : Nat → Int32} (h0 : wa 0 = -1) {RES : WY} (hR : RES = bst (D.1 5) (oks D hb) (fun w => sm hs w n) n 0 w) : ∃ w' v' bq', ev X 217 84 [.ref 55, .int (nI m), .int (nI 0), .float 0, .float 0] [] (QH B Z (nI n) (-1) a wa v) = some (none, (QH B Z (nI n) bq' a w' v')) ∧ ACC n RES bq' v' := by
  have ng : (-1 : Int32) < 0 := by decide
  have od := m_odo (X := X) (Z := Z) (n := n) (m := m) (a := a) (hb := hb) (hs := hs) (w := w) (POST := fun o => ∃ w' v' bq', o = some (none, (QH B Z (nI n) bq' a w' v')) ∧ ACC n RES bq' v') h56 R b2 b5 hn ha hh hn1
  rw [← hR] at od
  refine od ?_ (fun i hi => absurd hi (Nat.not_lt_zero i)) (.float 0) (.float 0) wa v (-1) (fun i hi => absurd hi (Nat.not_lt_zero i)) h0 rfl
  intro _ a3 a4 wa v bq _ hA
  refine ⟨wa, v, bq, ?_, hA⟩
  show ev X 217 84 [.ref 55, .int (nI m), .int (-1), a3, a4] [] _ = _
  rw [s217_84]
  simp only [s217_0, s217_1, s217_2, s217_5, s217_6, s217_8, s217_10, s217_13, s217_14, s217_15, s217_16, s217_17, s217_18, s217_19, s217_22, s217_23, s217_26, s217_27, s217_30, s217_31, s217_32, s217_33, s217_34, s217_37, s217_38, s217_39, s217_42, s217_45, s217_49, s217_50, s217_53, s217_56, s217_57, s217_60, s217_61, s217_64, s217_65, s217_68, s217_71, s217_72, s217_75, s217_76, s217_77, s217_78, s217_81, s217_82, s217_83, s217_85, s217_88, s217_89, s217_92, s217_93, s217_94, s217_95, s217_96, s217_97, s217_98, s217_99, s217_102, s217_103, s217_104, s217_105, s217_108, s217_109, s217_110, s217_113, s217_116, s217_119, s217_120, s217_121, s217_124, s217_127, s217_128, s217_129, s217_130, s217_131, s217_134, s217_137, s217_140, s217_141, s217_144, s217_145, s217_146, s217_147, s217_151, s217_152, s217_153, s217_157, s217_158, s217_161, s217_164, s217_165, s217_166, s217_169, s217_171, s217_172, s217_173, s217_176, s217_178, s217_179, s217_180, s217_181, s217_182, s217_183, s217_184, s217_185, s217_186, s217_189, s217_192, s217_193, s217_196, s217_197, s217_200, s217_201, s217_202, s217_205, s217_208, s217_209, s217_210, s217_213, s217_214, s217_218, s217_219, s217_222, s217_225, s217_226, s217_229, s217_231, s217_232, s217_235, s217_237, s217_238, s217_239, s217_242, s217_245, s217_248, okF, okA, mcC_o, mcF_o, mcT_i, mcT_l, mcT_z, mcT_q, mcN_i, mcN_l, mcN_z, mcN_q, mcI_i, mcI_z, mcL_l, mcQ_q, hg_hp, hp_hp, List.getD_cons_zero, List.getD_cons_succ, List.set_cons_zero, List.set_cons_succ, List.length_cons, List.length_nil, Nat.reduceAdd, Nat.reduceLT, Nat.reduceEqDiff, Nat.lt_add_one, decide_true, decide_false, Bool.and_true, Bool.true_and, Bool.and_false, Bool.false_and, Bool.false_eq_true, if_true, if_false, ↓reduceIte, Option.bind_some, Option.bind_none, kont_v, kont_n, ng]
theorem M_findService (h56 : hg B 56 = iA 16450 S) (R : REL D S) (b2 : D.1 2 ≤ 120) (b5 : D.1 5 ≤ 8) {m : Nat} (hm : m < 2 ^ 30) (h8 : pcn 30 m ≤ 8) {sv bq : Int32} {a0 w v : Nat → Int32} {hb hs : Nat → Nat} (ha : ∀ k, k < pcn 30 m → gat nI m a0 30 k = nI (hb k) ∧ hb k < D.1 2) (hh : ∀ r, r < D.1 5 → D.2.1 5 (r * 3 + 2) = nI (hs r) ∧ hs r ≤ 1000) : ∃ w' v' bq', (ev X 217 0 [.ref 55, .int (nI m), .float 0, .float 0, .float 0] [] (QH B Z sv bq a0 w v)) = some (none, (QH B Z (nI (pcn 30 m)) bq' (gat nI m a0 30) w' v')) ∧ ACC (pcn 30 m) (bst (D.1 5) (oks D hb) (fun w => sm hs w (pcn 30 m)) (pcn 30 m) 0 (fun _ => 0)) bq' v' := by
  have sl := m_sv_lp (X := X) (B := B) (Z := Z) (sv := 0) hm h8 (bq := bq) (a0 := a0) (w := w) (v := v) (a3 := .float 0) (a4 := .float 0) 30 0 (by omega)
  rw [show pcn 0 m = 0 from rfl, show gat nI m a0 0 = a0 from rfl, nI_0] at sl
  have r0 : inR 0 8 = true := by decide
  have z0 : (0 : Int32).toNatClampNeg = 0 := by decide
  have ng : (-1 : Int32) < 0 := by decide
  by_cases n0 : pcn 30 m = 0
  · rw [n0] at sl ⊢
    have eb : bst (D.1 5) (oks D hb) (fun w => sm hs w 0) 0 0 (fun _ => 0) = some (0, fun _ => 0) := rfl
    have a00 : ACC 0 (some (0, fun _ => 0)) 0 v := ⟨nI_0.symm, Nat.zero_lt_succ _, fun i hi => absurd hi (Nat.not_lt_zero i)⟩
    rw [eb]
    refine ⟨upd w 0 (-1), v, 0, ?_, a00⟩
    have e0 : (nI 0 = (0 : Int32)) = True := eq_true rfl
    simp only [s217_0, s217_1, s217_2, s217_5, s217_6, s217_8, s217_10, s217_13, s217_14, s217_15, s217_16, s217_17, s217_18, s217_19, s217_22, s217_23, s217_26, s217_27, s217_30, s217_31, s217_32, s217_33, s217_34, s217_37, s217_38, s217_39, s217_42, s217_45, s217_48, s217_49, s217_50, s217_53, s217_56, s217_57, s217_60, s217_61, s217_64, s217_65, s217_68, s217_71, s217_72, s217_75, s217_76, s217_77, s217_78, s217_81, s217_82, s217_83, s217_84, s217_85, s217_88, s217_89, s217_92, s217_93, s217_94, s217_95, s217_96, s217_97, s217_98, s217_99, s217_102, s217_103, s217_104, s217_105, s217_108, s217_109, s217_110, s217_113, s217_116, s217_119, s217_120, s217_121, s217_124, s217_127, s217_128, s217_129, s217_130, s217_131, s217_134, s217_137, s217_140, s217_141, s217_144, s217_145, s217_146, s217_147, s217_150, s217_151, s217_152, s217_153, s217_155, s217_157, s217_158, s217_161, s217_164, s217_165, s217_166, s217_169, s217_171, s217_172, s217_173, s217_176, s217_178, s217_179, s217_180, s217_181, s217_182, s217_183, s217_184, s217_185, s217_186, s217_189, s217_192, s217_193, s217_196, s217_197, s217_200, s217_201, s217_202, s217_205, s217_208, s217_209, s217_210, s217_213, s217_214, s217_216, s217_218, s217_219, s217_222, s217_225, s217_226, s217_229, s217_231, s217_232, s217_235, s217_237, s217_238, s217_239, s217_242, s217_245, s217_248, okF, okA, mcC_o, mcF_o, mcT_i, mcT_l, mcT_z, mcT_q, mcN_i, mcN_l, mcN_z, mcN_q, mcI_i, mcI_z, mcL_l, mcQ_q, hg_hp, hp_hp, List.getD_cons_zero, List.getD_cons_succ, List.set_cons_zero, List.set_cons_succ, List.length_cons, List.length_nil, Nat.reduceAdd, Nat.reduceLT, Nat.reduceEqDiff, Nat.lt_add_one, decide_true, decide_false, Bool.and_true, Bool.true_and, Bool.and_false, Bool.false_and, Bool.false_eq_true, if_true, if_false, ↓reduceIte, Option.bind_some, Option.bind_none, kont_v, kont_n, QH_55, QH_82, QHp_55, QHp_82, MO_len, MO_32, MO_34, MOs_32, MOs_36, sl, e0, r0, z0, ng]
  · generalize pcn 30 m = n at sl h8 ha n0 ⊢
    generalize gat nI m a0 30 = ga at sl ha ⊢
    obtain ⟨w', v', bq', e1, A1⟩ := m_svrun (X := X) (Z := Z) (n := n) (m := m) (a := ga) (hb := hb) (hs := hs) (w := fun _ => 0) (wa := upd w 0 (-1)) (v := v) h56 R b2 b5 h8 (by omega) ha hh upd_eq rfl
    refine ⟨w', v', bq', ?_, A1⟩
    have e0 : (nI n = (0 : Int32)) = False := eq_false (fun z => n0 ((nI_eq (a := n) (b := 0) (by omega) (by omega)).mp z))
    rw [nI_0] at e1
    simp only [s217_0, s217_1, s217_2, s217_5, s217_6, s217_8, s217_10, s217_13, s217_14, s217_15, s217_16, s217_17, s217_18, s217_19, s217_22, s217_23, s217_26, s217_27, s217_30, s217_31, s217_32, s217_33, s217_34, s217_37, s217_38, s217_39, s217_42, s217_45, s217_48, s217_49, s217_50, s217_53, s217_56, s217_57, s217_60, s217_61, s217_64, s217_65, s217_68, s217_71, s217_72, s217_75, s217_76, s217_77, s217_78, s217_81, s217_82, s217_83, s217_85, s217_88, s217_89, s217_92, s217_93, s217_94, s217_95, s217_96, s217_97, s217_98, s217_99, s217_102, s217_103, s217_104, s217_105, s217_108, s217_109, s217_110, s217_113, s217_116, s217_119, s217_120, s217_121, s217_124, s217_127, s217_128, s217_129, s217_130, s217_131, s217_134, s217_137, s217_140, s217_141, s217_144, s217_145, s217_146, s217_147, s217_151, s217_152, s217_153, s217_157, s217_158, s217_161, s217_164, s217_165, s217_166, s217_169, s217_171, s217_172, s217_173, s217_176, s217_178, s217_179, s217_180, s217_181, s217_182, s217_183, s217_184, s217_185, s217_186, s217_189, s217_192, s217_193, s217_196, s217_197, s217_200, s217_201, s217_202, s217_205, s217_208, s217_209, s217_210, s217_213, s217_214, s217_218, s217_219, s217_222, s217_225, s217_226, s217_229, s217_231, s217_232, s217_235, s217_237, s217_238, s217_239, s217_242, s217_245, s217_248, okF, okA, mcC_o, mcF_o, mcT_i, mcT_l, mcT_z, mcT_q, mcN_i, mcN_l, mcN_z, mcN_q, mcI_i, mcI_z, mcL_l, mcQ_q, hg_hp, hp_hp, List.getD_cons_zero, List.getD_cons_succ, List.set_cons_zero, List.set_cons_succ, List.length_cons, List.length_nil, Nat.reduceAdd, Nat.reduceLT, Nat.reduceEqDiff, Nat.lt_add_one, decide_true, decide_false, Bool.and_true, Bool.true_and, Bool.and_false, Bool.false_and, Bool.false_eq_true, if_true, if_false, ↓reduceIte, Option.bind_some, Option.bind_none, kont_v, kont_n, QH_55, QH_82, QHp_55, QHp_82, MO_len, MO_32, MO_34, MOs_32, MOs_36, sl, e0, r0, z0, e1]
end SV2

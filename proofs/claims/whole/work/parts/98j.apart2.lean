-- APART 2: depth by depth
section TF262
variable {X : MX} {B : MH} {P n R : Nat} {c : Nat → Nat → Nat} {sd cl : Nat → Int32}
theorem c_tf262 (hP1 : 1 ≤ P) (hP : P ≤ 3) (hn : n ≤ 12) (h44 : hg B 44 = oB 10 [.int (nI 12), .int (nI 12), .ref 45, .int (nI R)]) (hc3 : ∀ k j, c k j ≤ 3) (hc : ∀ k j, k < n → j < k → cl (k * 12 + j) = nI (c k j)) : TF X B P n c sd cl 262 12 := by
  intro hk w acc ch be ls hw hA
  have pl := pcs_le hc3 (w := w) 12 (by omega)
  have leaf : 12 = n → nI (pcs c w 12) < ls → ∃ ch' be' ls', ev X 262 0 [.ref 40, .int (nI 12), .int (nI (pcs c w 12)), .float 0] [] (AH B (nI n) (nI P) ls sd ch be cl) = some (none, (AH B (nI n) (nI P) ls' sd ch' be' cl)) ∧ (∀ i, i < 12 → ch' i = nI (w i)) ∧ ACL n (some (pcs c w n, w)) ls' be' := fun en lt => by
    have l2 : ¬ nI 12 < nI n := nI_nlt (by omega) (by omega)
    have ok := okC_n (N := 12) (f := ch) (g := be) (by decide)
    have ok : okC (iA 12 ch) (iA 12 be) 0 0 12 = true := ok
    refine ⟨ch, cpf 12 ch be, nI (pcs c w 12), ?_, fun i hi => (hw i hi).1, by rw [← en], by rw [← en]; omega, fun i hi => by rw [cpf_lt (by omega)]; exact (hw i (by omega)).1⟩
    have cz : (0 : Int32).toNatClampNeg = 0 := by decide
    have c12 : (12 : Int32).toNatClampNeg = 12 := by decide
    simp only [s262_0, s262_1, s262_2, s262_5, s262_8, s262_9, s262_10, s262_11, s262_14, s262_17, s262_18, s262_20, s262_23, s262_24, s262_25, s262_28, s262_29, s262_32, s262_33, s262_34, s262_37, s262_38, s262_40, s262_43, s262_44, s262_45, s262_47, s262_48, s262_51, s262_54, s262_55, s262_56, s262_57, s262_60, s262_63, s262_64, s262_67, s262_68, s262_69, s262_70, s262_71, s262_72, s262_73, s262_74, s262_75, s262_76, s262_77, s262_78, s262_81, s262_85, s262_88, s262_91, okF, okA, mcC_o, mcF_o, mcT_i, mcT_l, mcT_z, mcT_q, mcN_i, mcN_l, mcN_z, mcN_q, mcI_i, mcI_z, mcL_l, mcQ_q, hg_hp, hp_hp, List.getD_cons_zero, List.getD_cons_succ, List.set_cons_zero, List.set_cons_succ, List.length_cons, List.length_nil, Nat.reduceAdd, Nat.reduceLT, Nat.reduceEqDiff, Nat.lt_add_one, decide_true, decide_false, Bool.and_true, Bool.true_and, Bool.and_false, Bool.false_and, Bool.false_eq_true, if_true, if_false, ↓reduceIte, Option.bind_some, Option.bind_none, kont_v, kont_n, AH_40, AH_42, AH_43, AHp_40, lt, l2, ok, cz, c12]
    rw [AHp_43]
    rfl
  have en : 12 = n := by omega
  have eb : bst P (okr P) (fun w => pcs c w n) (n - 12) 12 w = some (pcs c w n, w) := by rw [show n - 12 = 0 by omega]; rfl
  have ep : pcs c w n = pcs c w 12 := by rw [← en]
  rw [eb]
  cases acc with
  | none =>
    have hA : ls = 1000000 := hA
    exact leaf en (by rw [hA]; exact nI_lt (b := 1000000) (by omega) (by decide))
  | some y =>
    obtain ⟨a1, a2, a3⟩ := hA
    rw [cmb_ss]
    by_cases lt : pcs c w n < y.1
    · rw [if_pos lt]
      exact leaf en (by rw [a1]; exact nI_lt (by omega) (by omega))
    · have nl : ¬ nI (pcs c w 12) < ls := by rw [a1]; exact nI_nlt (by omega) (by omega)
      rw [if_neg lt]
      refine ⟨ch, be, ls, ?_, fun i hi => (hw i hi).1, a1, a2, a3⟩
      simp only [s262_0, s262_1, s262_2, s262_5, s262_8, s262_9, s262_10, s262_11, s262_14, s262_17, s262_18, s262_20, s262_23, s262_24, s262_25, s262_28, s262_29, s262_32, s262_33, s262_34, s262_37, s262_38, s262_40, s262_43, s262_44, s262_45, s262_47, s262_48, s262_51, s262_54, s262_55, s262_56, s262_57, s262_60, s262_63, s262_64, s262_67, s262_68, s262_69, s262_70, s262_71, s262_72, s262_73, s262_74, s262_75, s262_76, s262_77, s262_78, s262_81, s262_85, s262_88, s262_91, okF, okA, mcC_o, mcF_o, mcT_i, mcT_l, mcT_z, mcT_q, mcN_i, mcN_l, mcN_z, mcN_q, mcI_i, mcI_z, mcL_l, mcQ_q, hg_hp, hp_hp, List.getD_cons_zero, List.getD_cons_succ, List.set_cons_zero, List.set_cons_succ, List.length_cons, List.length_nil, Nat.reduceAdd, Nat.reduceLT, Nat.reduceEqDiff, Nat.lt_add_one, decide_true, decide_false, Bool.and_true, Bool.true_and, Bool.and_false, Bool.false_and, Bool.false_eq_true, if_true, if_false, ↓reduceIte, Option.bind_some, Option.bind_none, kont_v, kont_n, AH_40, nl]
end TF262
section TF261
variable {X : MX} {B : MH} {P n R : Nat} {c : Nat → Nat → Nat} {sd cl : Nat → Int32}
theorem c_tfl261 (hP1 : 1 ≤ P) (hP : P ≤ 3) (hn : n ≤ 12) (h44 : hg B 44 = oB 10 [.int (nI 12), .int (nI 12), .ref 45, .int (nI R)]) (hc : ∀ k j, k < n → j < k → cl (k * 12 + j) = nI (c k j)) (T : TF X B P n c sd cl 262 (11 + 1)) (hk : 11 < n) {w : Nat → Nat} : ∀ (d p : Nat) (acc : WY) (ch be : Nat → Int32) (ls : Int32), p + d = P → (∀ i, i < 11 → ch i = nI (w i) ∧ w i < 2 ^ 31) → ACL n acc ls be → ∃ ch' be' ls', ev X 261 46 [.ref 40, .int (nI 11), .int (nI (pcs c w 11)), .int (nI p)] [] (AH B (nI n) (nI P) ls sd ch be cl) = some (none, (AH B (nI n) (nI P) ls' sd ch' be' cl)) ∧ (∀ i, i < 11 → ch' i = nI (w i)) ∧ ACL n (cmb acc (fol (fun p => if okr P 11 w p = true then bst P (okr P) (fun w => pcs c w n) (n - (11 + 1)) (11 + 1) (fu w 11 p) else none) d p)) ls' be' := by
  intro d
  induction d with
  | zero =>
    intro p acc ch be ls e hw hA
    have e : p = P := by omega
    have l := nI_nlt (Nat.le_refl P) (by omega)
    refine ⟨ch, be, ls, ?_, fun i hi => (hw i hi).1, by rw [fol, cmb_nr]; exact hA⟩
    rw [e, s261_46]
    simp only [s261_0, s261_1, s261_2, s261_5, s261_8, s261_9, s261_10, s261_11, s261_14, s261_17, s261_18, s261_20, s261_23, s261_24, s261_25, s261_28, s261_29, s261_32, s261_33, s261_34, s261_37, s261_38, s261_40, s261_43, s261_44, s261_45, s261_47, s261_48, s261_51, s261_54, s261_55, s261_56, s261_57, s261_60, s261_63, s261_64, s261_67, s261_68, s261_69, s261_70, s261_71, s261_72, s261_73, s261_74, s261_75, s261_76, s261_77, s261_78, s261_81, s261_82, s261_85, s261_88, s261_91, okF, okA, mcC_o, mcF_o, mcT_i, mcT_l, mcT_z, mcT_q, mcN_i, mcN_l, mcN_z, mcN_q, mcI_i, mcI_z, mcL_l, mcQ_q, hg_hp, hp_hp, List.getD_cons_zero, List.getD_cons_succ, List.set_cons_zero, List.set_cons_succ, List.length_cons, List.length_nil, Nat.reduceAdd, Nat.reduceLT, Nat.reduceEqDiff, Nat.lt_add_one, decide_true, decide_false, Bool.and_true, Bool.true_and, Bool.and_false, Bool.false_and, Bool.false_eq_true, if_true, if_false, ↓reduceIte, Option.bind_some, Option.bind_none, kont_v, kont_n, AH_40, l]
  | succ d ih =>
    intro p acc ch be ls e hw hA
    have l := nI_lt (show p < P by omega) (by omega)
    have p1 : nI p + 1 = nI (p + 1) := nI_add p 1
    have op := c_isOpen (X := X) (B := B) (mn := nI n) (ls := ls) (sd := sd) (ch := ch) (be := be) (cl := cl) (w := w) (k := 11) (p := p) (by omega) hP1 hP (by omega) hw
    rw [fol, ← cmb_assoc]
    by_cases o : okr P 11 w p = true
    · rw [if_pos o] at op
      rw [if_pos o]
      have r1 : inR (nI 11) 12 = true := by decide
      have c1 : (nI 11).toNatClampNeg = 11 := nI_clamp (by omega)
      have one0 : ¬ (1 : Int32) = 0 := by decide
      have hw' : ∀ i, i < 11 → upd ch 11 (nI p) i = nI (w i) ∧ w i < 2 ^ 31 := fun i hi => ⟨by rw [upd_ne (by omega)]; exact (hw i hi).1, (hw i hi).2⟩
      have cf := c_costOf (X := X) (B := B) (mn := nI n) (pl := nI P) (ls := ls) (sd := sd) (ch := upd ch 11 (nI p)) (be := be) (cl := cl) (w := w) (c := c) (k := 11) (p := p) h44 (by omega) (by omega) hw' (fun j hj => hc 11 j hk hj)
      obtain ⟨ch2, be2, ls2, e2, w2, A2⟩ := T (by omega) (fu w 11 p) acc (upd ch 11 (nI p)) be ls (fun i hi => by
        by_cases q : i = 11
        · rw [q, upd_eq, fu_s]; exact ⟨rfl, by omega⟩
        · rw [upd_ne q, fu_n _ _ q]; exact hw i (by omega)) hA
      rw [pcs_fu, ← nI_add (pcs c w 11) (cof c w 11 p 11), show 11 + 1 = 12 from rfl] at e2
      have d1 : nI 11 + 1 = nI 12 := nI_add 11 1
      obtain ⟨ch3, be3, ls3, e3, w3, A3⟩ := ih (p + 1) _ ch2 be2 ls2 (by omega) (fun i hi => ⟨by rw [w2 i (by omega), fu_n _ _ (by omega)], (hw i hi).2⟩) A2
      refine ⟨ch3, be3, ls3, ?_, w3, A3⟩
      rw [← e3, s261_46]
      simp only [s261_0, s261_1, s261_2, s261_5, s261_8, s261_9, s261_10, s261_11, s261_14, s261_17, s261_18, s261_20, s261_23, s261_24, s261_25, s261_28, s261_29, s261_32, s261_33, s261_34, s261_37, s261_38, s261_40, s261_43, s261_44, s261_45, s261_47, s261_48, s261_51, s261_54, s261_55, s261_56, s261_57, s261_60, s261_63, s261_64, s261_67, s261_68, s261_69, s261_70, s261_71, s261_72, s261_73, s261_74, s261_75, s261_76, s261_77, s261_78, s261_81, s261_82, s261_85, s261_88, s261_91, okF, okA, mcC_o, mcF_o, mcT_i, mcT_l, mcT_z, mcT_q, mcN_i, mcN_l, mcN_z, mcN_q, mcI_i, mcI_z, mcL_l, mcQ_q, hg_hp, hp_hp, List.getD_cons_zero, List.getD_cons_succ, List.set_cons_zero, List.set_cons_succ, List.length_cons, List.length_nil, Nat.reduceAdd, Nat.reduceLT, Nat.reduceEqDiff, Nat.lt_add_one, decide_true, decide_false, Bool.and_true, Bool.true_and, Bool.and_false, Bool.false_and, Bool.false_eq_true, if_true, if_false, ↓reduceIte, Option.bind_some, Option.bind_none, kont_v, kont_n, AH_40, AH_42, AHp_42, isO0_o, l, op, one0, r1, c1, cf, d1, e2, p1]
    · rw [if_neg o] at op
      rw [if_neg o, cmb_nr]
      obtain ⟨ch3, be3, ls3, e3, w3, A3⟩ := ih (p + 1) acc ch be ls (by omega) hw hA
      refine ⟨ch3, be3, ls3, ?_, w3, A3⟩
      rw [← e3, s261_46]
      simp only [s261_0, s261_1, s261_2, s261_5, s261_8, s261_9, s261_10, s261_11, s261_14, s261_17, s261_18, s261_20, s261_23, s261_24, s261_25, s261_28, s261_29, s261_32, s261_33, s261_34, s261_37, s261_38, s261_40, s261_43, s261_44, s261_45, s261_47, s261_48, s261_51, s261_54, s261_55, s261_56, s261_57, s261_60, s261_63, s261_64, s261_67, s261_68, s261_69, s261_70, s261_71, s261_72, s261_73, s261_74, s261_75, s261_76, s261_77, s261_78, s261_81, s261_82, s261_85, s261_88, s261_91, okF, okA, mcC_o, mcF_o, mcT_i, mcT_l, mcT_z, mcT_q, mcN_i, mcN_l, mcN_z, mcN_q, mcI_i, mcI_z, mcL_l, mcQ_q, hg_hp, hp_hp, List.getD_cons_zero, List.getD_cons_succ, List.set_cons_zero, List.set_cons_succ, List.length_cons, List.length_nil, Nat.reduceAdd, Nat.reduceLT, Nat.reduceEqDiff, Nat.lt_add_one, decide_true, decide_false, Bool.and_true, Bool.true_and, Bool.and_false, Bool.false_and, Bool.false_eq_true, if_true, if_false, ↓reduceIte, Option.bind_some, Option.bind_none, kont_v, kont_n, AH_40, l, op, p1]
theorem c_tf261 (hP1 : 1 ≤ P) (hP : P ≤ 3) (hn : n ≤ 12) (h44 : hg B 44 = oB 10 [.int (nI 12), .int (nI 12), .ref 45, .int (nI R)]) (hc3 : ∀ k j, c k j ≤ 3) (hc : ∀ k j, k < n → j < k → cl (k * 12 + j) = nI (c k j)) (T : TF X B P n c sd cl 262 (11 + 1)) : TF X B P n c sd cl 261 11 := by
  intro hk w acc ch be ls hw hA
  have pl := pcs_le hc3 (w := w) 11 (by omega)
  have leaf : 11 = n → nI (pcs c w 11) < ls → ∃ ch' be' ls', ev X 261 0 [.ref 40, .int (nI 11), .int (nI (pcs c w 11)), .float 0] [] (AH B (nI n) (nI P) ls sd ch be cl) = some (none, (AH B (nI n) (nI P) ls' sd ch' be' cl)) ∧ (∀ i, i < 11 → ch' i = nI (w i)) ∧ ACL n (some (pcs c w n, w)) ls' be' := fun en lt => by
    have l2 : ¬ nI 11 < nI n := nI_nlt (by omega) (by omega)
    have ok := okC_n (N := 12) (f := ch) (g := be) (by decide)
    have ok : okC (iA 12 ch) (iA 12 be) 0 0 12 = true := ok
    refine ⟨ch, cpf 12 ch be, nI (pcs c w 11), ?_, fun i hi => (hw i hi).1, by rw [← en], by rw [← en]; omega, fun i hi => by rw [cpf_lt (by omega)]; exact (hw i (by omega)).1⟩
    have cz : (0 : Int32).toNatClampNeg = 0 := by decide
    have c12 : (12 : Int32).toNatClampNeg = 12 := by decide
    simp only [s261_0, s261_1, s261_2, s261_5, s261_8, s261_9, s261_10, s261_11, s261_14, s261_17, s261_18, s261_20, s261_23, s261_24, s261_25, s261_28, s261_29, s261_32, s261_33, s261_34, s261_37, s261_38, s261_40, s261_43, s261_44, s261_45, s261_47, s261_48, s261_51, s261_54, s261_55, s261_56, s261_57, s261_60, s261_63, s261_64, s261_67, s261_68, s261_69, s261_70, s261_71, s261_72, s261_73, s261_74, s261_75, s261_76, s261_77, s261_78, s261_81, s261_82, s261_85, s261_88, s261_91, okF, okA, mcC_o, mcF_o, mcT_i, mcT_l, mcT_z, mcT_q, mcN_i, mcN_l, mcN_z, mcN_q, mcI_i, mcI_z, mcL_l, mcQ_q, hg_hp, hp_hp, List.getD_cons_zero, List.getD_cons_succ, List.set_cons_zero, List.set_cons_succ, List.length_cons, List.length_nil, Nat.reduceAdd, Nat.reduceLT, Nat.reduceEqDiff, Nat.lt_add_one, decide_true, decide_false, Bool.and_true, Bool.true_and, Bool.and_false, Bool.false_and, Bool.false_eq_true, if_true, if_false, ↓reduceIte, Option.bind_some, Option.bind_none, kont_v, kont_n, AH_40, AH_42, AH_43, AHp_40, lt, l2, ok, cz, c12]
    rw [AHp_43]
    rfl
  by_cases lt : nI (pcs c w 11) < ls
  · by_cases en : 11 = n
    · have eb : bst P (okr P) (fun w => pcs c w n) (n - 11) 11 w = some (pcs c w n, w) := by rw [show n - 11 = 0 by omega]; rfl
      obtain ⟨ch', be', ls', e1, e2, e3⟩ := leaf en lt
      refine ⟨ch', be', ls', e1, e2, ?_⟩
      rw [eb]
      cases acc with
      | none => exact e3
      | some y =>
        obtain ⟨a1, a2, a3⟩ := hA
        rw [a1] at lt
        have := (nI_ltI (by omega) (by omega)).mp lt
        rw [en] at this
        rw [cmb_ss, if_pos this]
        exact e3
    · obtain ⟨ch', be', ls', e1, e2, e3⟩ := c_tfl261 hP1 hP hn h44 hc T (by omega) (w := w) P 0 acc ch be ls (by omega) hw hA
      have l2 : nI 11 < nI n := nI_lt (by omega) (by omega)
      have l3 : nI 11 < (12 : Int32) := by decide
      rw [← TFL_done (m := n - 11 - 1) (by omega)] at e3
      refine ⟨ch', be', ls', ?_, e2, e3⟩
      have e1 : ev X 261 46 [.ref 40, .int (nI 11), .int (nI (pcs c w 11)), .int 0] [] (AH B (nI n) (nI P) ls sd ch be cl) = _ := e1
      simp only [s261_0, s261_1, s261_2, s261_5, s261_8, s261_9, s261_10, s261_11, s261_14, s261_17, s261_18, s261_20, s261_23, s261_24, s261_25, s261_28, s261_29, s261_32, s261_33, s261_34, s261_37, s261_38, s261_40, s261_43, s261_44, s261_45, s261_47, s261_48, s261_51, s261_54, s261_55, s261_56, s261_57, s261_60, s261_63, s261_64, s261_67, s261_68, s261_69, s261_70, s261_71, s261_72, s261_73, s261_74, s261_75, s261_76, s261_77, s261_78, s261_81, s261_82, s261_85, s261_88, s261_91, okF, okA, mcC_o, mcF_o, mcT_i, mcT_l, mcT_z, mcT_q, mcN_i, mcN_l, mcN_z, mcN_q, mcI_i, mcI_z, mcL_l, mcQ_q, hg_hp, hp_hp, List.getD_cons_zero, List.getD_cons_succ, List.set_cons_zero, List.set_cons_succ, List.length_cons, List.length_nil, Nat.reduceAdd, Nat.reduceLT, Nat.reduceEqDiff, Nat.lt_add_one, decide_true, decide_false, Bool.and_true, Bool.true_and, Bool.and_false, Bool.false_and, Bool.false_eq_true, if_true, if_false, ↓reduceIte, Option.bind_some, Option.bind_none, kont_v, kont_n, AH_40, lt, l2, l3, e1]
  · have nl := lt
    refine ⟨ch, be, ls, ?_, fun i hi => (hw i hi).1, ?_⟩
    · simp only [s261_0, s261_1, s261_2, s261_5, s261_8, s261_9, s261_10, s261_11, s261_14, s261_17, s261_18, s261_20, s261_23, s261_24, s261_25, s261_28, s261_29, s261_32, s261_33, s261_34, s261_37, s261_38, s261_40, s261_43, s261_44, s261_45, s261_47, s261_48, s261_51, s261_54, s261_55, s261_56, s261_57, s261_60, s261_63, s261_64, s261_67, s261_68, s261_69, s261_70, s261_71, s261_72, s261_73, s261_74, s261_75, s261_76, s261_77, s261_78, s261_81, s261_82, s261_85, s261_88, s261_91, okF, okA, mcC_o, mcF_o, mcT_i, mcT_l, mcT_z, mcT_q, mcN_i, mcN_l, mcN_z, mcN_q, mcI_i, mcI_z, mcL_l, mcQ_q, hg_hp, hp_hp, List.getD_cons_zero, List.getD_cons_succ, List.set_cons_zero, List.set_cons_succ, List.length_cons, List.length_nil, Nat.reduceAdd, Nat.reduceLT, Nat.reduceEqDiff, Nat.lt_add_one, decide_true, decide_false, Bool.and_true, Bool.true_and, Bool.and_false, Bool.false_and, Bool.false_eq_true, if_true, if_false, ↓reduceIte, Option.bind_some, Option.bind_none, kont_v, kont_n, AH_40, nl]
    · cases acc with
      | none =>
        have hA : ls = 1000000 := hA
        exact absurd (by rw [hA]; exact nI_lt (b := 1000000) (by omega) (by decide)) nl
      | some y =>
        obtain ⟨a1, a2, a3⟩ := hA
        have : y.1 ≤ pcs c w 11 := by
          by_cases q : y.1 ≤ pcs c w 11
          · exact q
          · exact absurd (by rw [a1]; exact nI_lt (by omega) (by omega)) nl
        cases eb : bst P (okr P) (fun w => pcs c w n) (n - 11) 11 w with
        | none => rw [cmb_nr]; exact ⟨a1, a2, a3⟩
        | some z =>
          have := bst_lo (n - 11) 11 w z (by omega) eb
          rw [cmb_ss, if_neg (by omega)]
          exact ⟨a1, a2, a3⟩
end TF261
section TF260
variable {X : MX} {B : MH} {P n R : Nat} {c : Nat → Nat → Nat} {sd cl : Nat → Int32}
theorem c_tfl260 (hP1 : 1 ≤ P) (hP : P ≤ 3) (hn : n ≤ 12) (h44 : hg B 44 = oB 10 [.int (nI 12), .int (nI 12), .ref 45, .int (nI R)]) (hc : ∀ k j, k < n → j < k → cl (k * 12 + j) = nI (c k j)) (T : TF X B P n c sd cl 261 (10 + 1)) (hk : 10 < n) {w : Nat → Nat} : ∀ (d p : Nat) (acc : WY) (ch be : Nat → Int32) (ls : Int32), p + d = P → (∀ i, i < 10 → ch i = nI (w i) ∧ w i < 2 ^ 31) → ACL n acc ls be → ∃ ch' be' ls', ev X 260 46 [.ref 40, .int (nI 10), .int (nI (pcs c w 10)), .int (nI p)] [] (AH B (nI n) (nI P) ls sd ch be cl) = some (none, (AH B (nI n) (nI P) ls' sd ch' be' cl)) ∧ (∀ i, i < 10 → ch' i = nI (w i)) ∧ ACL n (cmb acc (fol (fun p => if okr P 10 w p = true then bst P (okr P) (fun w => pcs c w n) (n - (10 + 1)) (10 + 1) (fu w 10 p) else none) d p)) ls' be' := by
  intro d
  induction d with
  | zero =>
    intro p acc ch be ls e hw hA
    have e : p = P := by omega
    have l := nI_nlt (Nat.le_refl P) (by omega)
    refine ⟨ch, be, ls, ?_, fun i hi => (hw i hi).1, by rw [fol, cmb_nr]; exact hA⟩
    rw [e, s260_46]
    simp only [s260_0, s260_1, s260_2, s260_5, s260_8, s260_9, s260_10, s260_11, s260_14, s260_17, s260_18, s260_20, s260_23, s260_24, s260_25, s260_28, s260_29, s260_32, s260_33, s260_34, s260_37, s260_38, s260_40, s260_43, s260_44, s260_45, s260_47, s260_48, s260_51, s260_54, s260_55, s260_56, s260_57, s260_60, s260_63, s260_64, s260_67, s260_68, s260_69, s260_70, s260_71, s260_72, s260_73, s260_74, s260_75, s260_76, s260_77, s260_78, s260_81, s260_82, s260_85, s260_88, s260_91, okF, okA, mcC_o, mcF_o, mcT_i, mcT_l, mcT_z, mcT_q, mcN_i, mcN_l, mcN_z, mcN_q, mcI_i, mcI_z, mcL_l, mcQ_q, hg_hp, hp_hp, List.getD_cons_zero, List.getD_cons_succ, List.set_cons_zero, List.set_cons_succ, List.length_cons, List.length_nil, Nat.reduceAdd, Nat.reduceLT, Nat.reduceEqDiff, Nat.lt_add_one, decide_true, decide_false, Bool.and_true, Bool.true_and, Bool.and_false, Bool.false_and, Bool.false_eq_true, if_true, if_false, ↓reduceIte, Option.bind_some, Option.bind_none, kont_v, kont_n, AH_40, l]
  | succ d ih =>
    intro p acc ch be ls e hw hA
    have l := nI_lt (show p < P by omega) (by omega)
    have p1 : nI p + 1 = nI (p + 1) := nI_add p 1
    have op := c_isOpen (X := X) (B := B) (mn := nI n) (ls := ls) (sd := sd) (ch := ch) (be := be) (cl := cl) (w := w) (k := 10) (p := p) (by omega) hP1 hP (by omega) hw
    rw [fol, ← cmb_assoc]
    by_cases o : okr P 10 w p = true
    · rw [if_pos o] at op
      rw [if_pos o]
      have r1 : inR (nI 10) 12 = true := by decide
      have c1 : (nI 10).toNatClampNeg = 10 := nI_clamp (by omega)
      have one0 : ¬ (1 : Int32) = 0 := by decide
      have hw' : ∀ i, i < 10 → upd ch 10 (nI p) i = nI (w i) ∧ w i < 2 ^ 31 := fun i hi => ⟨by rw [upd_ne (by omega)]; exact (hw i hi).1, (hw i hi).2⟩
      have cf := c_costOf (X := X) (B := B) (mn := nI n) (pl := nI P) (ls := ls) (sd := sd) (ch := upd ch 10 (nI p)) (be := be) (cl := cl) (w := w) (c := c) (k := 10) (p := p) h44 (by omega) (by omega) hw' (fun j hj => hc 10 j hk hj)
      obtain ⟨ch2, be2, ls2, e2, w2, A2⟩ := T (by omega) (fu w 10 p) acc (upd ch 10 (nI p)) be ls (fun i hi => by
        by_cases q : i = 10
        · rw [q, upd_eq, fu_s]; exact ⟨rfl, by omega⟩
        · rw [upd_ne q, fu_n _ _ q]; exact hw i (by omega)) hA
      rw [pcs_fu, ← nI_add (pcs c w 10) (cof c w 10 p 10), show 10 + 1 = 11 from rfl] at e2
      have d1 : nI 10 + 1 = nI 11 := nI_add 10 1
      obtain ⟨ch3, be3, ls3, e3, w3, A3⟩ := ih (p + 1) _ ch2 be2 ls2 (by omega) (fun i hi => ⟨by rw [w2 i (by omega), fu_n _ _ (by omega)], (hw i hi).2⟩) A2
      refine ⟨ch3, be3, ls3, ?_, w3, A3⟩
      rw [← e3, s260_46]
      simp only [s260_0, s260_1, s260_2, s260_5, s260_8, s260_9, s260_10, s260_11, s260_14, s260_17, s260_18, s260_20, s260_23, s260_24, s260_25, s260_28, s260_29, s260_32, s260_33, s260_34, s260_37, s260_38, s260_40, s260_43, s260_44, s260_45, s260_47, s260_48, s260_51, s260_54, s260_55, s260_56, s260_57, s260_60, s260_63, s260_64, s260_67, s260_68, s260_69, s260_70, s260_71, s260_72, s260_73, s260_74, s260_75, s260_76, s260_77, s260_78, s260_81, s260_82, s260_85, s260_88, s260_91, okF, okA, mcC_o, mcF_o, mcT_i, mcT_l, mcT_z, mcT_q, mcN_i, mcN_l, mcN_z, mcN_q, mcI_i, mcI_z, mcL_l, mcQ_q, hg_hp, hp_hp, List.getD_cons_zero, List.getD_cons_succ, List.set_cons_zero, List.set_cons_succ, List.length_cons, List.length_nil, Nat.reduceAdd, Nat.reduceLT, Nat.reduceEqDiff, Nat.lt_add_one, decide_true, decide_false, Bool.and_true, Bool.true_and, Bool.and_false, Bool.false_and, Bool.false_eq_true, if_true, if_false, ↓reduceIte, Option.bind_some, Option.bind_none, kont_v, kont_n, AH_40, AH_42, AHp_42, isO0_o, l, op, one0, r1, c1, cf, d1, e2, p1]
    · rw [if_neg o] at op
      rw [if_neg o, cmb_nr]
      obtain ⟨ch3, be3, ls3, e3, w3, A3⟩ := ih (p + 1) acc ch be ls (by omega) hw hA
      refine ⟨ch3, be3, ls3, ?_, w3, A3⟩
      rw [← e3, s260_46]
      simp only [s260_0, s260_1, s260_2, s260_5, s260_8, s260_9, s260_10, s260_11, s260_14, s260_17, s260_18, s260_20, s260_23, s260_24, s260_25, s260_28, s260_29, s260_32, s260_33, s260_34, s260_37, s260_38, s260_40, s260_43, s260_44, s260_45, s260_47, s260_48, s260_51, s260_54, s260_55, s260_56, s260_57, s260_60, s260_63, s260_64, s260_67, s260_68, s260_69, s260_70, s260_71, s260_72, s260_73, s260_74, s260_75, s260_76, s260_77, s260_78, s260_81, s260_82, s260_85, s260_88, s260_91, okF, okA, mcC_o, mcF_o, mcT_i, mcT_l, mcT_z, mcT_q, mcN_i, mcN_l, mcN_z, mcN_q, mcI_i, mcI_z, mcL_l, mcQ_q, hg_hp, hp_hp, List.getD_cons_zero, List.getD_cons_succ, List.set_cons_zero, List.set_cons_succ, List.length_cons, List.length_nil, Nat.reduceAdd, Nat.reduceLT, Nat.reduceEqDiff, Nat.lt_add_one, decide_true, decide_false, Bool.and_true, Bool.true_and, Bool.and_false, Bool.false_and, Bool.false_eq_true, if_true, if_false, ↓reduceIte, Option.bind_some, Option.bind_none, kont_v, kont_n, AH_40, l, op, p1]
theorem c_tf260 (hP1 : 1 ≤ P) (hP : P ≤ 3) (hn : n ≤ 12) (h44 : hg B 44 = oB 10 [.int (nI 12), .int (nI 12), .ref 45, .int (nI R)]) (hc3 : ∀ k j, c k j ≤ 3) (hc : ∀ k j, k < n → j < k → cl (k * 12 + j) = nI (c k j)) (T : TF X B P n c sd cl 261 (10 + 1)) : TF X B P n c sd cl 260 10 := by
  intro hk w acc ch be ls hw hA
  have pl := pcs_le hc3 (w := w) 10 (by omega)
  have leaf : 10 = n → nI (pcs c w 10) < ls → ∃ ch' be' ls', ev X 260 0 [.ref 40, .int (nI 10), .int (nI (pcs c w 10)), .float 0] [] (AH B (nI n) (nI P) ls sd ch be cl) = some (none, (AH B (nI n) (nI P) ls' sd ch' be' cl)) ∧ (∀ i, i < 10 → ch' i = nI (w i)) ∧ ACL n (some (pcs c w n, w)) ls' be' := fun en lt => by
    have l2 : ¬ nI 10 < nI n := nI_nlt (by omega) (by omega)
    have ok := okC_n (N := 12) (f := ch) (g := be) (by decide)
    have ok : okC (iA 12 ch) (iA 12 be) 0 0 12 = true := ok
    refine ⟨ch, cpf 12 ch be, nI (pcs c w 10), ?_, fun i hi => (hw i hi).1, by rw [← en], by rw [← en]; omega, fun i hi => by rw [cpf_lt (by omega)]; exact (hw i (by omega)).1⟩
    have cz : (0 : Int32).toNatClampNeg = 0 := by decide
    have c12 : (12 : Int32).toNatClampNeg = 12 := by decide
    simp only [s260_0, s260_1, s260_2, s260_5, s260_8, s260_9, s260_10, s260_11, s260_14, s260_17, s260_18, s260_20, s260_23, s260_24, s260_25, s260_28, s260_29, s260_32, s260_33, s260_34, s260_37, s260_38, s260_40, s260_43, s260_44, s260_45, s260_47, s260_48, s260_51, s260_54, s260_55, s260_56, s260_57, s260_60, s260_63, s260_64, s260_67, s260_68, s260_69, s260_70, s260_71, s260_72, s260_73, s260_74, s260_75, s260_76, s260_77, s260_78, s260_81, s260_82, s260_85, s260_88, s260_91, okF, okA, mcC_o, mcF_o, mcT_i, mcT_l, mcT_z, mcT_q, mcN_i, mcN_l, mcN_z, mcN_q, mcI_i, mcI_z, mcL_l, mcQ_q, hg_hp, hp_hp, List.getD_cons_zero, List.getD_cons_succ, List.set_cons_zero, List.set_cons_succ, List.length_cons, List.length_nil, Nat.reduceAdd, Nat.reduceLT, Nat.reduceEqDiff, Nat.lt_add_one, decide_true, decide_false, Bool.and_true, Bool.true_and, Bool.and_false, Bool.false_and, Bool.false_eq_true, if_true, if_false, ↓reduceIte, Option.bind_some, Option.bind_none, kont_v, kont_n, AH_40, AH_42, AH_43, AHp_40, lt, l2, ok, cz, c12]
    rw [AHp_43]
    rfl
  by_cases lt : nI (pcs c w 10) < ls
  · by_cases en : 10 = n
    · have eb : bst P (okr P) (fun w => pcs c w n) (n - 10) 10 w = some (pcs c w n, w) := by rw [show n - 10 = 0 by omega]; rfl
      obtain ⟨ch', be', ls', e1, e2, e3⟩ := leaf en lt
      refine ⟨ch', be', ls', e1, e2, ?_⟩
      rw [eb]
      cases acc with
      | none => exact e3
      | some y =>
        obtain ⟨a1, a2, a3⟩ := hA
        rw [a1] at lt
        have := (nI_ltI (by omega) (by omega)).mp lt
        rw [en] at this
        rw [cmb_ss, if_pos this]
        exact e3
    · obtain ⟨ch', be', ls', e1, e2, e3⟩ := c_tfl260 hP1 hP hn h44 hc T (by omega) (w := w) P 0 acc ch be ls (by omega) hw hA
      have l2 : nI 10 < nI n := nI_lt (by omega) (by omega)
      have l3 : nI 10 < (12 : Int32) := by decide
      rw [← TFL_done (m := n - 10 - 1) (by omega)] at e3
      refine ⟨ch', be', ls', ?_, e2, e3⟩
      have e1 : ev X 260 46 [.ref 40, .int (nI 10), .int (nI (pcs c w 10)), .int 0] [] (AH B (nI n) (nI P) ls sd ch be cl) = _ := e1
      simp only [s260_0, s260_1, s260_2, s260_5, s260_8, s260_9, s260_10, s260_11, s260_14, s260_17, s260_18, s260_20, s260_23, s260_24, s260_25, s260_28, s260_29, s260_32, s260_33, s260_34, s260_37, s260_38, s260_40, s260_43, s260_44, s260_45, s260_47, s260_48, s260_51, s260_54, s260_55, s260_56, s260_57, s260_60, s260_63, s260_64, s260_67, s260_68, s260_69, s260_70, s260_71, s260_72, s260_73, s260_74, s260_75, s260_76, s260_77, s260_78, s260_81, s260_82, s260_85, s260_88, s260_91, okF, okA, mcC_o, mcF_o, mcT_i, mcT_l, mcT_z, mcT_q, mcN_i, mcN_l, mcN_z, mcN_q, mcI_i, mcI_z, mcL_l, mcQ_q, hg_hp, hp_hp, List.getD_cons_zero, List.getD_cons_succ, List.set_cons_zero, List.set_cons_succ, List.length_cons, List.length_nil, Nat.reduceAdd, Nat.reduceLT, Nat.reduceEqDiff, Nat.lt_add_one, decide_true, decide_false, Bool.and_true, Bool.true_and, Bool.and_false, Bool.false_and, Bool.false_eq_true, if_true, if_false, ↓reduceIte, Option.bind_some, Option.bind_none, kont_v, kont_n, AH_40, lt, l2, l3, e1]
  · have nl := lt
    refine ⟨ch, be, ls, ?_, fun i hi => (hw i hi).1, ?_⟩
    · simp only [s260_0, s260_1, s260_2, s260_5, s260_8, s260_9, s260_10, s260_11, s260_14, s260_17, s260_18, s260_20, s260_23, s260_24, s260_25, s260_28, s260_29, s260_32, s260_33, s260_34, s260_37, s260_38, s260_40, s260_43, s260_44, s260_45, s260_47, s260_48, s260_51, s260_54, s260_55, s260_56, s260_57, s260_60, s260_63, s260_64, s260_67, s260_68, s260_69, s260_70, s260_71, s260_72, s260_73, s260_74, s260_75, s260_76, s260_77, s260_78, s260_81, s260_82, s260_85, s260_88, s260_91, okF, okA, mcC_o, mcF_o, mcT_i, mcT_l, mcT_z, mcT_q, mcN_i, mcN_l, mcN_z, mcN_q, mcI_i, mcI_z, mcL_l, mcQ_q, hg_hp, hp_hp, List.getD_cons_zero, List.getD_cons_succ, List.set_cons_zero, List.set_cons_succ, List.length_cons, List.length_nil, Nat.reduceAdd, Nat.reduceLT, Nat.reduceEqDiff, Nat.lt_add_one, decide_true, decide_false, Bool.and_true, Bool.true_and, Bool.and_false, Bool.false_and, Bool.false_eq_true, if_true, if_false, ↓reduceIte, Option.bind_some, Option.bind_none, kont_v, kont_n, AH_40, nl]
    · cases acc with
      | none =>
        have hA : ls = 1000000 := hA
        exact absurd (by rw [hA]; exact nI_lt (b := 1000000) (by omega) (by decide)) nl
      | some y =>
        obtain ⟨a1, a2, a3⟩ := hA
        have : y.1 ≤ pcs c w 10 := by
          by_cases q : y.1 ≤ pcs c w 10
          · exact q
          · exact absurd (by rw [a1]; exact nI_lt (by omega) (by omega)) nl
        cases eb : bst P (okr P) (fun w => pcs c w n) (n - 10) 10 w with
        | none => rw [cmb_nr]; exact ⟨a1, a2, a3⟩
        | some z =>
          have := bst_lo (n - 10) 10 w z (by omega) eb
          rw [cmb_ss, if_neg (by omega)]
          exact ⟨a1, a2, a3⟩
end TF260
section TF259
variable {X : MX} {B : MH} {P n R : Nat} {c : Nat → Nat → Nat} {sd cl : Nat → Int32}
theorem c_tfl259 (hP1 : 1 ≤ P) (hP : P ≤ 3) (hn : n ≤ 12) (h44 : hg B 44 = oB 10 [.int (nI 12), .int (nI 12), .ref 45, .int (nI R)]) (hc : ∀ k j, k < n → j < k → cl (k * 12 + j) = nI (c k j)) (T : TF X B P n c sd cl 260 (9 + 1)) (hk : 9 < n) {w : Nat → Nat} : ∀ (d p : Nat) (acc : WY) (ch be : Nat → Int32) (ls : Int32), p + d = P → (∀ i, i < 9 → ch i = nI (w i) ∧ w i < 2 ^ 31) → ACL n acc ls be → ∃ ch' be' ls', ev X 259 46 [.ref 40, .int (nI 9), .int (nI (pcs c w 9)), .int (nI p)] [] (AH B (nI n) (nI P) ls sd ch be cl) = some (none, (AH B (nI n) (nI P) ls' sd ch' be' cl)) ∧ (∀ i, i < 9 → ch' i = nI (w i)) ∧ ACL n (cmb acc (fol (fun p => if okr P 9 w p = true then bst P (okr P) (fun w => pcs c w n) (n - (9 + 1)) (9 + 1) (fu w 9 p) else none) d p)) ls' be' := by
  intro d
  induction d with
  | zero =>
    intro p acc ch be ls e hw hA
    have e : p = P := by omega
    have l := nI_nlt (Nat.le_refl P) (by omega)
    refine ⟨ch, be, ls, ?_, fun i hi => (hw i hi).1, by rw [fol, cmb_nr]; exact hA⟩
    rw [e, s259_46]
    simp only [s259_0, s259_1, s259_2, s259_5, s259_8, s259_9, s259_10, s259_11, s259_14, s259_17, s259_18, s259_20, s259_23, s259_24, s259_25, s259_28, s259_29, s259_32, s259_33, s259_34, s259_37, s259_38, s259_40, s259_43, s259_44, s259_45, s259_47, s259_48, s259_51, s259_54, s259_55, s259_56, s259_57, s259_60, s259_63, s259_64, s259_67, s259_68, s259_69, s259_70, s259_71, s259_72, s259_73, s259_74, s259_75, s259_76, s259_77, s259_78, s259_81, s259_82, s259_85, s259_88, s259_91, okF, okA, mcC_o, mcF_o, mcT_i, mcT_l, mcT_z, mcT_q, mcN_i, mcN_l, mcN_z, mcN_q, mcI_i, mcI_z, mcL_l, mcQ_q, hg_hp, hp_hp, List.getD_cons_zero, List.getD_cons_succ, List.set_cons_zero, List.set_cons_succ, List.length_cons, List.length_nil, Nat.reduceAdd, Nat.reduceLT, Nat.reduceEqDiff, Nat.lt_add_one, decide_true, decide_false, Bool.and_true, Bool.true_and, Bool.and_false, Bool.false_and, Bool.false_eq_true, if_true, if_false, ↓reduceIte, Option.bind_some, Option.bind_none, kont_v, kont_n, AH_40, l]
  | succ d ih =>
    intro p acc ch be ls e hw hA
    have l := nI_lt (show p < P by omega) (by omega)
    have p1 : nI p + 1 = nI (p + 1) := nI_add p 1
    have op := c_isOpen (X := X) (B := B) (mn := nI n) (ls := ls) (sd := sd) (ch := ch) (be := be) (cl := cl) (w := w) (k := 9) (p := p) (by omega) hP1 hP (by omega) hw
    rw [fol, ← cmb_assoc]
    by_cases o : okr P 9 w p = true
    · rw [if_pos o] at op
      rw [if_pos o]
      have r1 : inR (nI 9) 12 = true := by decide
      have c1 : (nI 9).toNatClampNeg = 9 := nI_clamp (by omega)
      have one0 : ¬ (1 : Int32) = 0 := by decide
      have hw' : ∀ i, i < 9 → upd ch 9 (nI p) i = nI (w i) ∧ w i < 2 ^ 31 := fun i hi => ⟨by rw [upd_ne (by omega)]; exact (hw i hi).1, (hw i hi).2⟩
      have cf := c_costOf (X := X) (B := B) (mn := nI n) (pl := nI P) (ls := ls) (sd := sd) (ch := upd ch 9 (nI p)) (be := be) (cl := cl) (w := w) (c := c) (k := 9) (p := p) h44 (by omega) (by omega) hw' (fun j hj => hc 9 j hk hj)
      obtain ⟨ch2, be2, ls2, e2, w2, A2⟩ := T (by omega) (fu w 9 p) acc (upd ch 9 (nI p)) be ls (fun i hi => by
        by_cases q : i = 9
        · rw [q, upd_eq, fu_s]; exact ⟨rfl, by omega⟩
        · rw [upd_ne q, fu_n _ _ q]; exact hw i (by omega)) hA
      rw [pcs_fu, ← nI_add (pcs c w 9) (cof c w 9 p 9), show 9 + 1 = 10 from rfl] at e2
      have d1 : nI 9 + 1 = nI 10 := nI_add 9 1
      obtain ⟨ch3, be3, ls3, e3, w3, A3⟩ := ih (p + 1) _ ch2 be2 ls2 (by omega) (fun i hi => ⟨by rw [w2 i (by omega), fu_n _ _ (by omega)], (hw i hi).2⟩) A2
      refine ⟨ch3, be3, ls3, ?_, w3, A3⟩
      rw [← e3, s259_46]
      simp only [s259_0, s259_1, s259_2, s259_5, s259_8, s259_9, s259_10, s259_11, s259_14, s259_17, s259_18, s259_20, s259_23, s259_24, s259_25, s259_28, s259_29, s259_32, s259_33, s259_34, s259_37, s259_38, s259_40, s259_43, s259_44, s259_45, s259_47, s259_48, s259_51, s259_54, s259_55, s259_56, s259_57, s259_60, s259_63, s259_64, s259_67, s259_68, s259_69, s259_70, s259_71, s259_72, s259_73, s259_74, s259_75, s259_76, s259_77, s259_78, s259_81, s259_82, s259_85, s259_88, s259_91, okF, okA, mcC_o, mcF_o, mcT_i, mcT_l, mcT_z, mcT_q, mcN_i, mcN_l, mcN_z, mcN_q, mcI_i, mcI_z, mcL_l, mcQ_q, hg_hp, hp_hp, List.getD_cons_zero, List.getD_cons_succ, List.set_cons_zero, List.set_cons_succ, List.length_cons, List.length_nil, Nat.reduceAdd, Nat.reduceLT, Nat.reduceEqDiff, Nat.lt_add_one, decide_true, decide_false, Bool.and_true, Bool.true_and, Bool.and_false, Bool.false_and, Bool.false_eq_true, if_true, if_false, ↓reduceIte, Option.bind_some, Option.bind_none, kont_v, kont_n, AH_40, AH_42, AHp_42, isO0_o, l, op, one0, r1, c1, cf, d1, e2, p1]
    · rw [if_neg o] at op
      rw [if_neg o, cmb_nr]
      obtain ⟨ch3, be3, ls3, e3, w3, A3⟩ := ih (p + 1) acc ch be ls (by omega) hw hA
      refine ⟨ch3, be3, ls3, ?_, w3, A3⟩
      rw [← e3, s259_46]
      simp only [s259_0, s259_1, s259_2, s259_5, s259_8, s259_9, s259_10, s259_11, s259_14, s259_17, s259_18, s259_20, s259_23, s259_24, s259_25, s259_28, s259_29, s259_32, s259_33, s259_34, s259_37, s259_38, s259_40, s259_43, s259_44, s259_45, s259_47, s259_48, s259_51, s259_54, s259_55, s259_56, s259_57, s259_60, s259_63, s259_64, s259_67, s259_68, s259_69, s259_70, s259_71, s259_72, s259_73, s259_74, s259_75, s259_76, s259_77, s259_78, s259_81, s259_82, s259_85, s259_88, s259_91, okF, okA, mcC_o, mcF_o, mcT_i, mcT_l, mcT_z, mcT_q, mcN_i, mcN_l, mcN_z, mcN_q, mcI_i, mcI_z, mcL_l, mcQ_q, hg_hp, hp_hp, List.getD_cons_zero, List.getD_cons_succ, List.set_cons_zero, List.set_cons_succ, List.length_cons, List.length_nil, Nat.reduceAdd, Nat.reduceLT, Nat.reduceEqDiff, Nat.lt_add_one, decide_true, decide_false, Bool.and_true, Bool.true_and, Bool.and_false, Bool.false_and, Bool.false_eq_true, if_true, if_false, ↓reduceIte, Option.bind_some, Option.bind_none, kont_v, kont_n, AH_40, l, op, p1]
theorem c_tf259 (hP1 : 1 ≤ P) (hP : P ≤ 3) (hn : n ≤ 12) (h44 : hg B 44 = oB 10 [.int (nI 12), .int (nI 12), .ref 45, .int (nI R)]) (hc3 : ∀ k j, c k j ≤ 3) (hc : ∀ k j, k < n → j < k → cl (k * 12 + j) = nI (c k j)) (T : TF X B P n c sd cl 260 (9 + 1)) : TF X B P n c sd cl 259 9 := by
  intro hk w acc ch be ls hw hA
  have pl := pcs_le hc3 (w := w) 9 (by omega)
  have leaf : 9 = n → nI (pcs c w 9) < ls → ∃ ch' be' ls', ev X 259 0 [.ref 40, .int (nI 9), .int (nI (pcs c w 9)), .float 0] [] (AH B (nI n) (nI P) ls sd ch be cl) = some (none, (AH B (nI n) (nI P) ls' sd ch' be' cl)) ∧ (∀ i, i < 9 → ch' i = nI (w i)) ∧ ACL n (some (pcs c w n, w)) ls' be' := fun en lt => by
    have l2 : ¬ nI 9 < nI n := nI_nlt (by omega) (by omega)
    have ok := okC_n (N := 12) (f := ch) (g := be) (by decide)
    have ok : okC (iA 12 ch) (iA 12 be) 0 0 12 = true := ok
    refine ⟨ch, cpf 12 ch be, nI (pcs c w 9), ?_, fun i hi => (hw i hi).1, by rw [← en], by rw [← en]; omega, fun i hi => by rw [cpf_lt (by omega)]; exact (hw i (by omega)).1⟩
    have cz : (0 : Int32).toNatClampNeg = 0 := by decide
    have c12 : (12 : Int32).toNatClampNeg = 12 := by decide
    simp only [s259_0, s259_1, s259_2, s259_5, s259_8, s259_9, s259_10, s259_11, s259_14, s259_17, s259_18, s259_20, s259_23, s259_24, s259_25, s259_28, s259_29, s259_32, s259_33, s259_34, s259_37, s259_38, s259_40, s259_43, s259_44, s259_45, s259_47, s259_48, s259_51, s259_54, s259_55, s259_56, s259_57, s259_60, s259_63, s259_64, s259_67, s259_68, s259_69, s259_70, s259_71, s259_72, s259_73, s259_74, s259_75, s259_76, s259_77, s259_78, s259_81, s259_82, s259_85, s259_88, s259_91, okF, okA, mcC_o, mcF_o, mcT_i, mcT_l, mcT_z, mcT_q, mcN_i, mcN_l, mcN_z, mcN_q, mcI_i, mcI_z, mcL_l, mcQ_q, hg_hp, hp_hp, List.getD_cons_zero, List.getD_cons_succ, List.set_cons_zero, List.set_cons_succ, List.length_cons, List.length_nil, Nat.reduceAdd, Nat.reduceLT, Nat.reduceEqDiff, Nat.lt_add_one, decide_true, decide_false, Bool.and_true, Bool.true_and, Bool.and_false, Bool.false_and, Bool.false_eq_true, if_true, if_false, ↓reduceIte, Option.bind_some, Option.bind_none, kont_v, kont_n, AH_40, AH_42, AH_43, AHp_40, lt, l2, ok, cz, c12]
    rw [AHp_43]
    rfl
  by_cases lt : nI (pcs c w 9) < ls
  · by_cases en : 9 = n
    · have eb : bst P (okr P) (fun w => pcs c w n) (n - 9) 9 w = some (pcs c w n, w) := by rw [show n - 9 = 0 by omega]; rfl
      obtain ⟨ch', be', ls', e1, e2, e3⟩ := leaf en lt
      refine ⟨ch', be', ls', e1, e2, ?_⟩
      rw [eb]
      cases acc with
      | none => exact e3
      | some y =>
        obtain ⟨a1, a2, a3⟩ := hA
        rw [a1] at lt
        have := (nI_ltI (by omega) (by omega)).mp lt
        rw [en] at this
        rw [cmb_ss, if_pos this]
        exact e3
    · obtain ⟨ch', be', ls', e1, e2, e3⟩ := c_tfl259 hP1 hP hn h44 hc T (by omega) (w := w) P 0 acc ch be ls (by omega) hw hA
      have l2 : nI 9 < nI n := nI_lt (by omega) (by omega)
      have l3 : nI 9 < (12 : Int32) := by decide
      rw [← TFL_done (m := n - 9 - 1) (by omega)] at e3
      refine ⟨ch', be', ls', ?_, e2, e3⟩
      have e1 : ev X 259 46 [.ref 40, .int (nI 9), .int (nI (pcs c w 9)), .int 0] [] (AH B (nI n) (nI P) ls sd ch be cl) = _ := e1
      simp only [s259_0, s259_1, s259_2, s259_5, s259_8, s259_9, s259_10, s259_11, s259_14, s259_17, s259_18, s259_20, s259_23, s259_24, s259_25, s259_28, s259_29, s259_32, s259_33, s259_34, s259_37, s259_38, s259_40, s259_43, s259_44, s259_45, s259_47, s259_48, s259_51, s259_54, s259_55, s259_56, s259_57, s259_60, s259_63, s259_64, s259_67, s259_68, s259_69, s259_70, s259_71, s259_72, s259_73, s259_74, s259_75, s259_76, s259_77, s259_78, s259_81, s259_82, s259_85, s259_88, s259_91, okF, okA, mcC_o, mcF_o, mcT_i, mcT_l, mcT_z, mcT_q, mcN_i, mcN_l, mcN_z, mcN_q, mcI_i, mcI_z, mcL_l, mcQ_q, hg_hp, hp_hp, List.getD_cons_zero, List.getD_cons_succ, List.set_cons_zero, List.set_cons_succ, List.length_cons, List.length_nil, Nat.reduceAdd, Nat.reduceLT, Nat.reduceEqDiff, Nat.lt_add_one, decide_true, decide_false, Bool.and_true, Bool.true_and, Bool.and_false, Bool.false_and, Bool.false_eq_true, if_true, if_false, ↓reduceIte, Option.bind_some, Option.bind_none, kont_v, kont_n, AH_40, lt, l2, l3, e1]
  · have nl := lt
    refine ⟨ch, be, ls, ?_, fun i hi => (hw i hi).1, ?_⟩
    · simp only [s259_0, s259_1, s259_2, s259_5, s259_8, s259_9, s259_10, s259_11, s259_14, s259_17, s259_18, s259_20, s259_23, s259_24, s259_25, s259_28, s259_29, s259_32, s259_33, s259_34, s259_37, s259_38, s259_40, s259_43, s259_44, s259_45, s259_47, s259_48, s259_51, s259_54, s259_55, s259_56, s259_57, s259_60, s259_63, s259_64, s259_67, s259_68, s259_69, s259_70, s259_71, s259_72, s259_73, s259_74, s259_75, s259_76, s259_77, s259_78, s259_81, s259_82, s259_85, s259_88, s259_91, okF, okA, mcC_o, mcF_o, mcT_i, mcT_l, mcT_z, mcT_q, mcN_i, mcN_l, mcN_z, mcN_q, mcI_i, mcI_z, mcL_l, mcQ_q, hg_hp, hp_hp, List.getD_cons_zero, List.getD_cons_succ, List.set_cons_zero, List.set_cons_succ, List.length_cons, List.length_nil, Nat.reduceAdd, Nat.reduceLT, Nat.reduceEqDiff, Nat.lt_add_one, decide_true, decide_false, Bool.and_true, Bool.true_and, Bool.and_false, Bool.false_and, Bool.false_eq_true, if_true, if_false, ↓reduceIte, Option.bind_some, Option.bind_none, kont_v, kont_n, AH_40, nl]
    · cases acc with
      | none =>
        have hA : ls = 1000000 := hA
        exact absurd (by rw [hA]; exact nI_lt (b := 1000000) (by omega) (by decide)) nl
      | some y =>
        obtain ⟨a1, a2, a3⟩ := hA
        have : y.1 ≤ pcs c w 9 := by
          by_cases q : y.1 ≤ pcs c w 9
          · exact q
          · exact absurd (by rw [a1]; exact nI_lt (by omega) (by omega)) nl
        cases eb : bst P (okr P) (fun w => pcs c w n) (n - 9) 9 w with
        | none => rw [cmb_nr]; exact ⟨a1, a2, a3⟩
        | some z =>
          have := bst_lo (n - 9) 9 w z (by omega) eb
          rw [cmb_ss, if_neg (by omega)]
          exact ⟨a1, a2, a3⟩
end TF259
section TF258
variable {X : MX} {B : MH} {P n R : Nat} {c : Nat → Nat → Nat} {sd cl : Nat → Int32}
theorem c_tfl258 (hP1 : 1 ≤ P) (hP : P ≤ 3) (hn : n ≤ 12) (h44 : hg B 44 = oB 10 [.int (nI 12), .int (nI 12), .ref 45, .int (nI R)]) (hc : ∀ k j, k < n → j < k → cl (k * 12 + j) = nI (c k j)) (T : TF X B P n c sd cl 259 (8 + 1)) (hk : 8 < n) {w : Nat → Nat} : ∀ (d p : Nat) (acc : WY) (ch be : Nat → Int32) (ls : Int32), p + d = P → (∀ i, i < 8 → ch i = nI (w i) ∧ w i < 2 ^ 31) → ACL n acc ls be → ∃ ch' be' ls', ev X 258 46 [.ref 40, .int (nI 8), .int (nI (pcs c w 8)), .int (nI p)] [] (AH B (nI n) (nI P) ls sd ch be cl) = some (none, (AH B (nI n) (nI P) ls' sd ch' be' cl)) ∧ (∀ i, i < 8 → ch' i = nI (w i)) ∧ ACL n (cmb acc (fol (fun p => if okr P 8 w p = true then bst P (okr P) (fun w => pcs c w n) (n - (8 + 1)) (8 + 1) (fu w 8 p) else none) d p)) ls' be' := by
  intro d
  induction d with
  | zero =>
    intro p acc ch be ls e hw hA
    have e : p = P := by omega
    have l := nI_nlt (Nat.le_refl P) (by omega)
    refine ⟨ch, be, ls, ?_, fun i hi => (hw i hi).1, by rw [fol, cmb_nr]; exact hA⟩
    rw [e, s258_46]
    simp only [s258_0, s258_1, s258_2, s258_5, s258_8, s258_9, s258_10, s258_11, s258_14, s258_17, s258_18, s258_20, s258_23, s258_24, s258_25, s258_28, s258_29, s258_32, s258_33, s258_34, s258_37, s258_38, s258_40, s258_43, s258_44, s258_45, s258_47, s258_48, s258_51, s258_54, s258_55, s258_56, s258_57, s258_60, s258_63, s258_64, s258_67, s258_68, s258_69, s258_70, s258_71, s258_72, s258_73, s258_74, s258_75, s258_76, s258_77, s258_78, s258_81, s258_82, s258_85, s258_88, s258_91, okF, okA, mcC_o, mcF_o, mcT_i, mcT_l, mcT_z, mcT_q, mcN_i, mcN_l, mcN_z, mcN_q, mcI_i, mcI_z, mcL_l, mcQ_q, hg_hp, hp_hp, List.getD_cons_zero, List.getD_cons_succ, List.set_cons_zero, List.set_cons_succ, List.length_cons, List.length_nil, Nat.reduceAdd, Nat.reduceLT, Nat.reduceEqDiff, Nat.lt_add_one, decide_true, decide_false, Bool.and_true, Bool.true_and, Bool.and_false, Bool.false_and, Bool.false_eq_true, if_true, if_false, ↓reduceIte, Option.bind_some, Option.bind_none, kont_v, kont_n, AH_40, l]
  | succ d ih =>
    intro p acc ch be ls e hw hA
    have l := nI_lt (show p < P by omega) (by omega)
    have p1 : nI p + 1 = nI (p + 1) := nI_add p 1
    have op := c_isOpen (X := X) (B := B) (mn := nI n) (ls := ls) (sd := sd) (ch := ch) (be := be) (cl := cl) (w := w) (k := 8) (p := p) (by omega) hP1 hP (by omega) hw
    rw [fol, ← cmb_assoc]
    by_cases o : okr P 8 w p = true
    · rw [if_pos o] at op
      rw [if_pos o]
      have r1 : inR (nI 8) 12 = true := by decide
      have c1 : (nI 8).toNatClampNeg = 8 := nI_clamp (by omega)
      have one0 : ¬ (1 : Int32) = 0 := by decide
      have hw' : ∀ i, i < 8 → upd ch 8 (nI p) i = nI (w i) ∧ w i < 2 ^ 31 := fun i hi => ⟨by rw [upd_ne (by omega)]; exact (hw i hi).1, (hw i hi).2⟩
      have cf := c_costOf (X := X) (B := B) (mn := nI n) (pl := nI P) (ls := ls) (sd := sd) (ch := upd ch 8 (nI p)) (be := be) (cl := cl) (w := w) (c := c) (k := 8) (p := p) h44 (by omega) (by omega) hw' (fun j hj => hc 8 j hk hj)
      obtain ⟨ch2, be2, ls2, e2, w2, A2⟩ := T (by omega) (fu w 8 p) acc (upd ch 8 (nI p)) be ls (fun i hi => by
        by_cases q : i = 8
        · rw [q, upd_eq, fu_s]; exact ⟨rfl, by omega⟩
        · rw [upd_ne q, fu_n _ _ q]; exact hw i (by omega)) hA
      rw [pcs_fu, ← nI_add (pcs c w 8) (cof c w 8 p 8), show 8 + 1 = 9 from rfl] at e2
      have d1 : nI 8 + 1 = nI 9 := nI_add 8 1
      obtain ⟨ch3, be3, ls3, e3, w3, A3⟩ := ih (p + 1) _ ch2 be2 ls2 (by omega) (fun i hi => ⟨by rw [w2 i (by omega), fu_n _ _ (by omega)], (hw i hi).2⟩) A2
      refine ⟨ch3, be3, ls3, ?_, w3, A3⟩
      rw [← e3, s258_46]
      simp only [s258_0, s258_1, s258_2, s258_5, s258_8, s258_9, s258_10, s258_11, s258_14, s258_17, s258_18, s258_20, s258_23, s258_24, s258_25, s258_28, s258_29, s258_32, s258_33, s258_34, s258_37, s258_38, s258_40, s258_43, s258_44, s258_45, s258_47, s258_48, s258_51, s258_54, s258_55, s258_56, s258_57, s258_60, s258_63, s258_64, s258_67, s258_68, s258_69, s258_70, s258_71, s258_72, s258_73, s258_74, s258_75, s258_76, s258_77, s258_78, s258_81, s258_82, s258_85, s258_88, s258_91, okF, okA, mcC_o, mcF_o, mcT_i, mcT_l, mcT_z, mcT_q, mcN_i, mcN_l, mcN_z, mcN_q, mcI_i, mcI_z, mcL_l, mcQ_q, hg_hp, hp_hp, List.getD_cons_zero, List.getD_cons_succ, List.set_cons_zero, List.set_cons_succ, List.length_cons, List.length_nil, Nat.reduceAdd, Nat.reduceLT, Nat.reduceEqDiff, Nat.lt_add_one, decide_true, decide_false, Bool.and_true, Bool.true_and, Bool.and_false, Bool.false_and, Bool.false_eq_true, if_true, if_false, ↓reduceIte, Option.bind_some, Option.bind_none, kont_v, kont_n, AH_40, AH_42, AHp_42, isO0_o, l, op, one0, r1, c1, cf, d1, e2, p1]
    · rw [if_neg o] at op
      rw [if_neg o, cmb_nr]
      obtain ⟨ch3, be3, ls3, e3, w3, A3⟩ := ih (p + 1) acc ch be ls (by omega) hw hA
      refine ⟨ch3, be3, ls3, ?_, w3, A3⟩
      rw [← e3, s258_46]
      simp only [s258_0, s258_1, s258_2, s258_5, s258_8, s258_9, s258_10, s258_11, s258_14, s258_17, s258_18, s258_20, s258_23, s258_24, s258_25, s258_28, s258_29, s258_32, s258_33, s258_34, s258_37, s258_38, s258_40, s258_43, s258_44, s258_45, s258_47, s258_48, s258_51, s258_54, s258_55, s258_56, s258_57, s258_60, s258_63, s258_64, s258_67, s258_68, s258_69, s258_70, s258_71, s258_72, s258_73, s258_74, s258_75, s258_76, s258_77, s258_78, s258_81, s258_82, s258_85, s258_88, s258_91, okF, okA, mcC_o, mcF_o, mcT_i, mcT_l, mcT_z, mcT_q, mcN_i, mcN_l, mcN_z, mcN_q, mcI_i, mcI_z, mcL_l, mcQ_q, hg_hp, hp_hp, List.getD_cons_zero, List.getD_cons_succ, List.set_cons_zero, List.set_cons_succ, List.length_cons, List.length_nil, Nat.reduceAdd, Nat.reduceLT, Nat.reduceEqDiff, Nat.lt_add_one, decide_true, decide_false, Bool.and_true, Bool.true_and, Bool.and_false, Bool.false_and, Bool.false_eq_true, if_true, if_false, ↓reduceIte, Option.bind_some, Option.bind_none, kont_v, kont_n, AH_40, l, op, p1]
theorem c_tf258 (hP1 : 1 ≤ P) (hP : P ≤ 3) (hn : n ≤ 12) (h44 : hg B 44 = oB 10 [.int (nI 12), .int (nI 12), .ref 45, .int (nI R)]) (hc3 : ∀ k j, c k j ≤ 3) (hc : ∀ k j, k < n → j < k → cl (k * 12 + j) = nI (c k j)) (T : TF X B P n c sd cl 259 (8 + 1)) : TF X B P n c sd cl 258 8 := by
  intro hk w acc ch be ls hw hA
  have pl := pcs_le hc3 (w := w) 8 (by omega)
  have leaf : 8 = n → nI (pcs c w 8) < ls → ∃ ch' be' ls', ev X 258 0 [.ref 40, .int (nI 8), .int (nI (pcs c w 8)), .float 0] [] (AH B (nI n) (nI P) ls sd ch be cl) = some (none, (AH B (nI n) (nI P) ls' sd ch' be' cl)) ∧ (∀ i, i < 8 → ch' i = nI (w i)) ∧ ACL n (some (pcs c w n, w)) ls' be' := fun en lt => by
    have l2 : ¬ nI 8 < nI n := nI_nlt (by omega) (by omega)
    have ok := okC_n (N := 12) (f := ch) (g := be) (by decide)
    have ok : okC (iA 12 ch) (iA 12 be) 0 0 12 = true := ok
    refine ⟨ch, cpf 12 ch be, nI (pcs c w 8), ?_, fun i hi => (hw i hi).1, by rw [← en], by rw [← en]; omega, fun i hi => by rw [cpf_lt (by omega)]; exact (hw i (by omega)).1⟩
    have cz : (0 : Int32).toNatClampNeg = 0 := by decide
    have c12 : (12 : Int32).toNatClampNeg = 12 := by decide
    simp only [s258_0, s258_1, s258_2, s258_5, s258_8, s258_9, s258_10, s258_11, s258_14, s258_17, s258_18, s258_20, s258_23, s258_24, s258_25, s258_28, s258_29, s258_32, s258_33, s258_34, s258_37, s258_38, s258_40, s258_43, s258_44, s258_45, s258_47, s258_48, s258_51, s258_54, s258_55, s258_56, s258_57, s258_60, s258_63, s258_64, s258_67, s258_68, s258_69, s258_70, s258_71, s258_72, s258_73, s258_74, s258_75, s258_76, s258_77, s258_78, s258_81, s258_82, s258_85, s258_88, s258_91, okF, okA, mcC_o, mcF_o, mcT_i, mcT_l, mcT_z, mcT_q, mcN_i, mcN_l, mcN_z, mcN_q, mcI_i, mcI_z, mcL_l, mcQ_q, hg_hp, hp_hp, List.getD_cons_zero, List.getD_cons_succ, List.set_cons_zero, List.set_cons_succ, List.length_cons, List.length_nil, Nat.reduceAdd, Nat.reduceLT, Nat.reduceEqDiff, Nat.lt_add_one, decide_true, decide_false, Bool.and_true, Bool.true_and, Bool.and_false, Bool.false_and, Bool.false_eq_true, if_true, if_false, ↓reduceIte, Option.bind_some, Option.bind_none, kont_v, kont_n, AH_40, AH_42, AH_43, AHp_40, lt, l2, ok, cz, c12]
    rw [AHp_43]
    rfl
  by_cases lt : nI (pcs c w 8) < ls
  · by_cases en : 8 = n
    · have eb : bst P (okr P) (fun w => pcs c w n) (n - 8) 8 w = some (pcs c w n, w) := by rw [show n - 8 = 0 by omega]; rfl
      obtain ⟨ch', be', ls', e1, e2, e3⟩ := leaf en lt
      refine ⟨ch', be', ls', e1, e2, ?_⟩
      rw [eb]
      cases acc with
      | none => exact e3
      | some y =>
        obtain ⟨a1, a2, a3⟩ := hA
        rw [a1] at lt
        have := (nI_ltI (by omega) (by omega)).mp lt
        rw [en] at this
        rw [cmb_ss, if_pos this]
        exact e3
    · obtain ⟨ch', be', ls', e1, e2, e3⟩ := c_tfl258 hP1 hP hn h44 hc T (by omega) (w := w) P 0 acc ch be ls (by omega) hw hA
      have l2 : nI 8 < nI n := nI_lt (by omega) (by omega)
      have l3 : nI 8 < (12 : Int32) := by decide
      rw [← TFL_done (m := n - 8 - 1) (by omega)] at e3
      refine ⟨ch', be', ls', ?_, e2, e3⟩
      have e1 : ev X 258 46 [.ref 40, .int (nI 8), .int (nI (pcs c w 8)), .int 0] [] (AH B (nI n) (nI P) ls sd ch be cl) = _ := e1
      simp only [s258_0, s258_1, s258_2, s258_5, s258_8, s258_9, s258_10, s258_11, s258_14, s258_17, s258_18, s258_20, s258_23, s258_24, s258_25, s258_28, s258_29, s258_32, s258_33, s258_34, s258_37, s258_38, s258_40, s258_43, s258_44, s258_45, s258_47, s258_48, s258_51, s258_54, s258_55, s258_56, s258_57, s258_60, s258_63, s258_64, s258_67, s258_68, s258_69, s258_70, s258_71, s258_72, s258_73, s258_74, s258_75, s258_76, s258_77, s258_78, s258_81, s258_82, s258_85, s258_88, s258_91, okF, okA, mcC_o, mcF_o, mcT_i, mcT_l, mcT_z, mcT_q, mcN_i, mcN_l, mcN_z, mcN_q, mcI_i, mcI_z, mcL_l, mcQ_q, hg_hp, hp_hp, List.getD_cons_zero, List.getD_cons_succ, List.set_cons_zero, List.set_cons_succ, List.length_cons, List.length_nil, Nat.reduceAdd, Nat.reduceLT, Nat.reduceEqDiff, Nat.lt_add_one, decide_true, decide_false, Bool.and_true, Bool.true_and, Bool.and_false, Bool.false_and, Bool.false_eq_true, if_true, if_false, ↓reduceIte, Option.bind_some, Option.bind_none, kont_v, kont_n, AH_40, lt, l2, l3, e1]
  · have nl := lt
    refine ⟨ch, be, ls, ?_, fun i hi => (hw i hi).1, ?_⟩
    · simp only [s258_0, s258_1, s258_2, s258_5, s258_8, s258_9, s258_10, s258_11, s258_14, s258_17, s258_18, s258_20, s258_23, s258_24, s258_25, s258_28, s258_29, s258_32, s258_33, s258_34, s258_37, s258_38, s258_40, s258_43, s258_44, s258_45, s258_47, s258_48, s258_51, s258_54, s258_55, s258_56, s258_57, s258_60, s258_63, s258_64, s258_67, s258_68, s258_69, s258_70, s258_71, s258_72, s258_73, s258_74, s258_75, s258_76, s258_77, s258_78, s258_81, s258_82, s258_85, s258_88, s258_91, okF, okA, mcC_o, mcF_o, mcT_i, mcT_l, mcT_z, mcT_q, mcN_i, mcN_l, mcN_z, mcN_q, mcI_i, mcI_z, mcL_l, mcQ_q, hg_hp, hp_hp, List.getD_cons_zero, List.getD_cons_succ, List.set_cons_zero, List.set_cons_succ, List.length_cons, List.length_nil, Nat.reduceAdd, Nat.reduceLT, Nat.reduceEqDiff, Nat.lt_add_one, decide_true, decide_false, Bool.and_true, Bool.true_and, Bool.and_false, Bool.false_and, Bool.false_eq_true, if_true, if_false, ↓reduceIte, Option.bind_some, Option.bind_none, kont_v, kont_n, AH_40, nl]
    · cases acc with
      | none =>
        have hA : ls = 1000000 := hA
        exact absurd (by rw [hA]; exact nI_lt (b := 1000000) (by omega) (by decide)) nl
      | some y =>
        obtain ⟨a1, a2, a3⟩ := hA
        have : y.1 ≤ pcs c w 8 := by
          by_cases q : y.1 ≤ pcs c w 8
          · exact q
          · exact absurd (by rw [a1]; exact nI_lt (by omega) (by omega)) nl
        cases eb : bst P (okr P) (fun w => pcs c w n) (n - 8) 8 w with
        | none => rw [cmb_nr]; exact ⟨a1, a2, a3⟩
        | some z =>
          have := bst_lo (n - 8) 8 w z (by omega) eb
          rw [cmb_ss, if_neg (by omega)]
          exact ⟨a1, a2, a3⟩
end TF258
section TF257
variable {X : MX} {B : MH} {P n R : Nat} {c : Nat → Nat → Nat} {sd cl : Nat → Int32}
theorem c_tfl257 (hP1 : 1 ≤ P) (hP : P ≤ 3) (hn : n ≤ 12) (h44 : hg B 44 = oB 10 [.int (nI 12), .int (nI 12), .ref 45, .int (nI R)]) (hc : ∀ k j, k < n → j < k → cl (k * 12 + j) = nI (c k j)) (T : TF X B P n c sd cl 258 (7 + 1)) (hk : 7 < n) {w : Nat → Nat} : ∀ (d p : Nat) (acc : WY) (ch be : Nat → Int32) (ls : Int32), p + d = P → (∀ i, i < 7 → ch i = nI (w i) ∧ w i < 2 ^ 31) → ACL n acc ls be → ∃ ch' be' ls', ev X 257 46 [.ref 40, .int (nI 7), .int (nI (pcs c w 7)), .int (nI p)] [] (AH B (nI n) (nI P) ls sd ch be cl) = some (none, (AH B (nI n) (nI P) ls' sd ch' be' cl)) ∧ (∀ i, i < 7 → ch' i = nI (w i)) ∧ ACL n (cmb acc (fol (fun p => if okr P 7 w p = true then bst P (okr P) (fun w => pcs c w n) (n - (7 + 1)) (7 + 1) (fu w 7 p) else none) d p)) ls' be' := by
  intro d
  induction d with
  | zero =>
    intro p acc ch be ls e hw hA
    have e : p = P := by omega
    have l := nI_nlt (Nat.le_refl P) (by omega)
    refine ⟨ch, be, ls, ?_, fun i hi => (hw i hi).1, by rw [fol, cmb_nr]; exact hA⟩
    rw [e, s257_46]
    simp only [s257_0, s257_1, s257_2, s257_5, s257_8, s257_9, s257_10, s257_11, s257_14, s257_17, s257_18, s257_20, s257_23, s257_24, s257_25, s257_28, s257_29, s257_32, s257_33, s257_34, s257_37, s257_38, s257_40, s257_43, s257_44, s257_45, s257_47, s257_48, s257_51, s257_54, s257_55, s257_56, s257_57, s257_60, s257_63, s257_64, s257_67, s257_68, s257_69, s257_70, s257_71, s257_72, s257_73, s257_74, s257_75, s257_76, s257_77, s257_78, s257_81, s257_82, s257_85, s257_88, s257_91, okF, okA, mcC_o, mcF_o, mcT_i, mcT_l, mcT_z, mcT_q, mcN_i, mcN_l, mcN_z, mcN_q, mcI_i, mcI_z, mcL_l, mcQ_q, hg_hp, hp_hp, List.getD_cons_zero, List.getD_cons_succ, List.set_cons_zero, List.set_cons_succ, List.length_cons, List.length_nil, Nat.reduceAdd, Nat.reduceLT, Nat.reduceEqDiff, Nat.lt_add_one, decide_true, decide_false, Bool.and_true, Bool.true_and, Bool.and_false, Bool.false_and, Bool.false_eq_true, if_true, if_false, ↓reduceIte, Option.bind_some, Option.bind_none, kont_v, kont_n, AH_40, l]
  | succ d ih =>
    intro p acc ch be ls e hw hA
    have l := nI_lt (show p < P by omega) (by omega)
    have p1 : nI p + 1 = nI (p + 1) := nI_add p 1
    have op := c_isOpen (X := X) (B := B) (mn := nI n) (ls := ls) (sd := sd) (ch := ch) (be := be) (cl := cl) (w := w) (k := 7) (p := p) (by omega) hP1 hP (by omega) hw
    rw [fol, ← cmb_assoc]
    by_cases o : okr P 7 w p = true
    · rw [if_pos o] at op
      rw [if_pos o]
      have r1 : inR (nI 7) 12 = true := by decide
      have c1 : (nI 7).toNatClampNeg = 7 := nI_clamp (by omega)
      have one0 : ¬ (1 : Int32) = 0 := by decide
      have hw' : ∀ i, i < 7 → upd ch 7 (nI p) i = nI (w i) ∧ w i < 2 ^ 31 := fun i hi => ⟨by rw [upd_ne (by omega)]; exact (hw i hi).1, (hw i hi).2⟩
      have cf := c_costOf (X := X) (B := B) (mn := nI n) (pl := nI P) (ls := ls) (sd := sd) (ch := upd ch 7 (nI p)) (be := be) (cl := cl) (w := w) (c := c) (k := 7) (p := p) h44 (by omega) (by omega) hw' (fun j hj => hc 7 j hk hj)
      obtain ⟨ch2, be2, ls2, e2, w2, A2⟩ := T (by omega) (fu w 7 p) acc (upd ch 7 (nI p)) be ls (fun i hi => by
        by_cases q : i = 7
        · rw [q, upd_eq, fu_s]; exact ⟨rfl, by omega⟩
        · rw [upd_ne q, fu_n _ _ q]; exact hw i (by omega)) hA
      rw [pcs_fu, ← nI_add (pcs c w 7) (cof c w 7 p 7), show 7 + 1 = 8 from rfl] at e2
      have d1 : nI 7 + 1 = nI 8 := nI_add 7 1
      obtain ⟨ch3, be3, ls3, e3, w3, A3⟩ := ih (p + 1) _ ch2 be2 ls2 (by omega) (fun i hi => ⟨by rw [w2 i (by omega), fu_n _ _ (by omega)], (hw i hi).2⟩) A2
      refine ⟨ch3, be3, ls3, ?_, w3, A3⟩
      rw [← e3, s257_46]
      simp only [s257_0, s257_1, s257_2, s257_5, s257_8, s257_9, s257_10, s257_11, s257_14, s257_17, s257_18, s257_20, s257_23, s257_24, s257_25, s257_28, s257_29, s257_32, s257_33, s257_34, s257_37, s257_38, s257_40, s257_43, s257_44, s257_45, s257_47, s257_48, s257_51, s257_54, s257_55, s257_56, s257_57, s257_60, s257_63, s257_64, s257_67, s257_68, s257_69, s257_70, s257_71, s257_72, s257_73, s257_74, s257_75, s257_76, s257_77, s257_78, s257_81, s257_82, s257_85, s257_88, s257_91, okF, okA, mcC_o, mcF_o, mcT_i, mcT_l, mcT_z, mcT_q, mcN_i, mcN_l, mcN_z, mcN_q, mcI_i, mcI_z, mcL_l, mcQ_q, hg_hp, hp_hp, List.getD_cons_zero, List.getD_cons_succ, List.set_cons_zero, List.set_cons_succ, List.length_cons, List.length_nil, Nat.reduceAdd, Nat.reduceLT, Nat.reduceEqDiff, Nat.lt_add_one, decide_true, decide_false, Bool.and_true, Bool.true_and, Bool.and_false, Bool.false_and, Bool.false_eq_true, if_true, if_false, ↓reduceIte, Option.bind_some, Option.bind_none, kont_v, kont_n, AH_40, AH_42, AHp_42, isO0_o, l, op, one0, r1, c1, cf, d1, e2, p1]
    · rw [if_neg o] at op
      rw [if_neg o, cmb_nr]
      obtain ⟨ch3, be3, ls3, e3, w3, A3⟩ := ih (p + 1) acc ch be ls (by omega) hw hA
      refine ⟨ch3, be3, ls3, ?_, w3, A3⟩
      rw [← e3, s257_46]
      simp only [s257_0, s257_1, s257_2, s257_5, s257_8, s257_9, s257_10, s257_11, s257_14, s257_17, s257_18, s257_20, s257_23, s257_24, s257_25, s257_28, s257_29, s257_32, s257_33, s257_34, s257_37, s257_38, s257_40, s257_43, s257_44, s257_45, s257_47, s257_48, s257_51, s257_54, s257_55, s257_56, s257_57, s257_60, s257_63, s257_64, s257_67, s257_68, s257_69, s257_70, s257_71, s257_72, s257_73, s257_74, s257_75, s257_76, s257_77, s257_78, s257_81, s257_82, s257_85, s257_88, s257_91, okF, okA, mcC_o, mcF_o, mcT_i, mcT_l, mcT_z, mcT_q, mcN_i, mcN_l, mcN_z, mcN_q, mcI_i, mcI_z, mcL_l, mcQ_q, hg_hp, hp_hp, List.getD_cons_zero, List.getD_cons_succ, List.set_cons_zero, List.set_cons_succ, List.length_cons, List.length_nil, Nat.reduceAdd, Nat.reduceLT, Nat.reduceEqDiff, Nat.lt_add_one, decide_true, decide_false, Bool.and_true, Bool.true_and, Bool.and_false, Bool.false_and, Bool.false_eq_true, if_true, if_false, ↓reduceIte, Option.bind_some, Option.bind_none, kont_v, kont_n, AH_40, l, op, p1]
theorem c_tf257 (hP1 : 1 ≤ P) (hP : P ≤ 3) (hn : n ≤ 12) (h44 : hg B 44 = oB 10 [.int (nI 12), .int (nI 12), .ref 45, .int (nI R)]) (hc3 : ∀ k j, c k j ≤ 3) (hc : ∀ k j, k < n → j < k → cl (k * 12 + j) = nI (c k j)) (T : TF X B P n c sd cl 258 (7 + 1)) : TF X B P n c sd cl 257 7 := by
  intro hk w acc ch be ls hw hA
  have pl := pcs_le hc3 (w := w) 7 (by omega)
  have leaf : 7 = n → nI (pcs c w 7) < ls → ∃ ch' be' ls', ev X 257 0 [.ref 40, .int (nI 7), .int (nI (pcs c w 7)), .float 0] [] (AH B (nI n) (nI P) ls sd ch be cl) = some (none, (AH B (nI n) (nI P) ls' sd ch' be' cl)) ∧ (∀ i, i < 7 → ch' i = nI (w i)) ∧ ACL n (some (pcs c w n, w)) ls' be' := fun en lt => by
    have l2 : ¬ nI 7 < nI n := nI_nlt (by omega) (by omega)
    have ok := okC_n (N := 12) (f := ch) (g := be) (by decide)
    have ok : okC (iA 12 ch) (iA 12 be) 0 0 12 = true := ok
    refine ⟨ch, cpf 12 ch be, nI (pcs c w 7), ?_, fun i hi => (hw i hi).1, by rw [← en], by rw [← en]; omega, fun i hi => by rw [cpf_lt (by omega)]; exact (hw i (by omega)).1⟩
    have cz : (0 : Int32).toNatClampNeg = 0 := by decide
    have c12 : (12 : Int32).toNatClampNeg = 12 := by decide
    simp only [s257_0, s257_1, s257_2, s257_5, s257_8, s257_9, s257_10, s257_11, s257_14, s257_17, s257_18, s257_20, s257_23, s257_24, s257_25, s257_28, s257_29, s257_32, s257_33, s257_34, s257_37, s257_38, s257_40, s257_43, s257_44, s257_45, s257_47, s257_48, s257_51, s257_54, s257_55, s257_56, s257_57, s257_60, s257_63, s257_64, s257_67, s257_68, s257_69, s257_70, s257_71, s257_72, s257_73, s257_74, s257_75, s257_76, s257_77, s257_78, s257_81, s257_82, s257_85, s257_88, s257_91, okF, okA, mcC_o, mcF_o, mcT_i, mcT_l, mcT_z, mcT_q, mcN_i, mcN_l, mcN_z, mcN_q, mcI_i, mcI_z, mcL_l, mcQ_q, hg_hp, hp_hp, List.getD_cons_zero, List.getD_cons_succ, List.set_cons_zero, List.set_cons_succ, List.length_cons, List.length_nil, Nat.reduceAdd, Nat.reduceLT, Nat.reduceEqDiff, Nat.lt_add_one, decide_true, decide_false, Bool.and_true, Bool.true_and, Bool.and_false, Bool.false_and, Bool.false_eq_true, if_true, if_false, ↓reduceIte, Option.bind_some, Option.bind_none, kont_v, kont_n, AH_40, AH_42, AH_43, AHp_40, lt, l2, ok, cz, c12]
    rw [AHp_43]
    rfl
  by_cases lt : nI (pcs c w 7) < ls
  · by_cases en : 7 = n
    · have eb : bst P (okr P) (fun w => pcs c w n) (n - 7) 7 w = some (pcs c w n, w) := by rw [show n - 7 = 0 by omega]; rfl
      obtain ⟨ch', be', ls', e1, e2, e3⟩ := leaf en lt
      refine ⟨ch', be', ls', e1, e2, ?_⟩
      rw [eb]
      cases acc with
      | none => exact e3
      | some y =>
        obtain ⟨a1, a2, a3⟩ := hA
        rw [a1] at lt
        have := (nI_ltI (by omega) (by omega)).mp lt
        rw [en] at this
        rw [cmb_ss, if_pos this]
        exact e3
    · obtain ⟨ch', be', ls', e1, e2, e3⟩ := c_tfl257 hP1 hP hn h44 hc T (by omega) (w := w) P 0 acc ch be ls (by omega) hw hA
      have l2 : nI 7 < nI n := nI_lt (by omega) (by omega)
      have l3 : nI 7 < (12 : Int32) := by decide
      rw [← TFL_done (m := n - 7 - 1) (by omega)] at e3
      refine ⟨ch', be', ls', ?_, e2, e3⟩
      have e1 : ev X 257 46 [.ref 40, .int (nI 7), .int (nI (pcs c w 7)), .int 0] [] (AH B (nI n) (nI P) ls sd ch be cl) = _ := e1
      simp only [s257_0, s257_1, s257_2, s257_5, s257_8, s257_9, s257_10, s257_11, s257_14, s257_17, s257_18, s257_20, s257_23, s257_24, s257_25, s257_28, s257_29, s257_32, s257_33, s257_34, s257_37, s257_38, s257_40, s257_43, s257_44, s257_45, s257_47, s257_48, s257_51, s257_54, s257_55, s257_56, s257_57, s257_60, s257_63, s257_64, s257_67, s257_68, s257_69, s257_70, s257_71, s257_72, s257_73, s257_74, s257_75, s257_76, s257_77, s257_78, s257_81, s257_82, s257_85, s257_88, s257_91, okF, okA, mcC_o, mcF_o, mcT_i, mcT_l, mcT_z, mcT_q, mcN_i, mcN_l, mcN_z, mcN_q, mcI_i, mcI_z, mcL_l, mcQ_q, hg_hp, hp_hp, List.getD_cons_zero, List.getD_cons_succ, List.set_cons_zero, List.set_cons_succ, List.length_cons, List.length_nil, Nat.reduceAdd, Nat.reduceLT, Nat.reduceEqDiff, Nat.lt_add_one, decide_true, decide_false, Bool.and_true, Bool.true_and, Bool.and_false, Bool.false_and, Bool.false_eq_true, if_true, if_false, ↓reduceIte, Option.bind_some, Option.bind_none, kont_v, kont_n, AH_40, lt, l2, l3, e1]
  · have nl := lt
    refine ⟨ch, be, ls, ?_, fun i hi => (hw i hi).1, ?_⟩
    · simp only [s257_0, s257_1, s257_2, s257_5, s257_8, s257_9, s257_10, s257_11, s257_14, s257_17, s257_18, s257_20, s257_23, s257_24, s257_25, s257_28, s257_29, s257_32, s257_33, s257_34, s257_37, s257_38, s257_40, s257_43, s257_44, s257_45, s257_47, s257_48, s257_51, s257_54, s257_55, s257_56, s257_57, s257_60, s257_63, s257_64, s257_67, s257_68, s257_69, s257_70, s257_71, s257_72, s257_73, s257_74, s257_75, s257_76, s257_77, s257_78, s257_81, s257_82, s257_85, s257_88, s257_91, okF, okA, mcC_o, mcF_o, mcT_i, mcT_l, mcT_z, mcT_q, mcN_i, mcN_l, mcN_z, mcN_q, mcI_i, mcI_z, mcL_l, mcQ_q, hg_hp, hp_hp, List.getD_cons_zero, List.getD_cons_succ, List.set_cons_zero, List.set_cons_succ, List.length_cons, List.length_nil, Nat.reduceAdd, Nat.reduceLT, Nat.reduceEqDiff, Nat.lt_add_one, decide_true, decide_false, Bool.and_true, Bool.true_and, Bool.and_false, Bool.false_and, Bool.false_eq_true, if_true, if_false, ↓reduceIte, Option.bind_some, Option.bind_none, kont_v, kont_n, AH_40, nl]
    · cases acc with
      | none =>
        have hA : ls = 1000000 := hA
        exact absurd (by rw [hA]; exact nI_lt (b := 1000000) (by omega) (by decide)) nl
      | some y =>
        obtain ⟨a1, a2, a3⟩ := hA
        have : y.1 ≤ pcs c w 7 := by
          by_cases q : y.1 ≤ pcs c w 7
          · exact q
          · exact absurd (by rw [a1]; exact nI_lt (by omega) (by omega)) nl
        cases eb : bst P (okr P) (fun w => pcs c w n) (n - 7) 7 w with
        | none => rw [cmb_nr]; exact ⟨a1, a2, a3⟩
        | some z =>
          have := bst_lo (n - 7) 7 w z (by omega) eb
          rw [cmb_ss, if_neg (by omega)]
          exact ⟨a1, a2, a3⟩
end TF257
section TF256
variable {X : MX} {B : MH} {P n R : Nat} {c : Nat → Nat → Nat} {sd cl : Nat → Int32}
theorem c_tfl256 (hP1 : 1 ≤ P) (hP : P ≤ 3) (hn : n ≤ 12) (h44 : hg B 44 = oB 10 [.int (nI 12), .int (nI 12), .ref 45, .int (nI R)]) (hc : ∀ k j, k < n → j < k → cl (k * 12 + j) = nI (c k j)) (T : TF X B P n c sd cl 257 (6 + 1)) (hk : 6 < n) {w : Nat → Nat} : ∀ (d p : Nat) (acc : WY) (ch be : Nat → Int32) (ls : Int32), p + d = P → (∀ i, i < 6 → ch i = nI (w i) ∧ w i < 2 ^ 31) → ACL n acc ls be → ∃ ch' be' ls', ev X 256 46 [.ref 40, .int (nI 6), .int (nI (pcs c w 6)), .int (nI p)] [] (AH B (nI n) (nI P) ls sd ch be cl) = some (none, (AH B (nI n) (nI P) ls' sd ch' be' cl)) ∧ (∀ i, i < 6 → ch' i = nI (w i)) ∧ ACL n (cmb acc (fol (fun p => if okr P 6 w p = true then bst P (okr P) (fun w => pcs c w n) (n - (6 + 1)) (6 + 1) (fu w 6 p) else none) d p)) ls' be' := by
  intro d
  induction d with
  | zero =>
    intro p acc ch be ls e hw hA
    have e : p = P := by omega
    have l := nI_nlt (Nat.le_refl P) (by omega)
    refine ⟨ch, be, ls, ?_, fun i hi => (hw i hi).1, by rw [fol, cmb_nr]; exact hA⟩
    rw [e, s256_46]
    simp only [s256_0, s256_1, s256_2, s256_5, s256_8, s256_9, s256_10, s256_11, s256_14, s256_17, s256_18, s256_20, s256_23, s256_24, s256_25, s256_28, s256_29, s256_32, s256_33, s256_34, s256_37, s256_38, s256_40, s256_43, s256_44, s256_45, s256_47, s256_48, s256_51, s256_54, s256_55, s256_56, s256_57, s256_60, s256_63, s256_64, s256_67, s256_68, s256_69, s256_70, s256_71, s256_72, s256_73, s256_74, s256_75, s256_76, s256_77, s256_78, s256_81, s256_82, s256_85, s256_88, s256_91, okF, okA, mcC_o, mcF_o, mcT_i, mcT_l, mcT_z, mcT_q, mcN_i, mcN_l, mcN_z, mcN_q, mcI_i, mcI_z, mcL_l, mcQ_q, hg_hp, hp_hp, List.getD_cons_zero, List.getD_cons_succ, List.set_cons_zero, List.set_cons_succ, List.length_cons, List.length_nil, Nat.reduceAdd, Nat.reduceLT, Nat.reduceEqDiff, Nat.lt_add_one, decide_true, decide_false, Bool.and_true, Bool.true_and, Bool.and_false, Bool.false_and, Bool.false_eq_true, if_true, if_false, ↓reduceIte, Option.bind_some, Option.bind_none, kont_v, kont_n, AH_40, l]
  | succ d ih =>
    intro p acc ch be ls e hw hA
    have l := nI_lt (show p < P by omega) (by omega)
    have p1 : nI p + 1 = nI (p + 1) := nI_add p 1
    have op := c_isOpen (X := X) (B := B) (mn := nI n) (ls := ls) (sd := sd) (ch := ch) (be := be) (cl := cl) (w := w) (k := 6) (p := p) (by omega) hP1 hP (by omega) hw
    rw [fol, ← cmb_assoc]
    by_cases o : okr P 6 w p = true
    · rw [if_pos o] at op
      rw [if_pos o]
      have r1 : inR (nI 6) 12 = true := by decide
      have c1 : (nI 6).toNatClampNeg = 6 := nI_clamp (by omega)
      have one0 : ¬ (1 : Int32) = 0 := by decide
      have hw' : ∀ i, i < 6 → upd ch 6 (nI p) i = nI (w i) ∧ w i < 2 ^ 31 := fun i hi => ⟨by rw [upd_ne (by omega)]; exact (hw i hi).1, (hw i hi).2⟩
      have cf := c_costOf (X := X) (B := B) (mn := nI n) (pl := nI P) (ls := ls) (sd := sd) (ch := upd ch 6 (nI p)) (be := be) (cl := cl) (w := w) (c := c) (k := 6) (p := p) h44 (by omega) (by omega) hw' (fun j hj => hc 6 j hk hj)
      obtain ⟨ch2, be2, ls2, e2, w2, A2⟩ := T (by omega) (fu w 6 p) acc (upd ch 6 (nI p)) be ls (fun i hi => by
        by_cases q : i = 6
        · rw [q, upd_eq, fu_s]; exact ⟨rfl, by omega⟩
        · rw [upd_ne q, fu_n _ _ q]; exact hw i (by omega)) hA
      rw [pcs_fu, ← nI_add (pcs c w 6) (cof c w 6 p 6), show 6 + 1 = 7 from rfl] at e2
      have d1 : nI 6 + 1 = nI 7 := nI_add 6 1
      obtain ⟨ch3, be3, ls3, e3, w3, A3⟩ := ih (p + 1) _ ch2 be2 ls2 (by omega) (fun i hi => ⟨by rw [w2 i (by omega), fu_n _ _ (by omega)], (hw i hi).2⟩) A2
      refine ⟨ch3, be3, ls3, ?_, w3, A3⟩
      rw [← e3, s256_46]
      simp only [s256_0, s256_1, s256_2, s256_5, s256_8, s256_9, s256_10, s256_11, s256_14, s256_17, s256_18, s256_20, s256_23, s256_24, s256_25, s256_28, s256_29, s256_32, s256_33, s256_34, s256_37, s256_38, s256_40, s256_43, s256_44, s256_45, s256_47, s256_48, s256_51, s256_54, s256_55, s256_56, s256_57, s256_60, s256_63, s256_64, s256_67, s256_68, s256_69, s256_70, s256_71, s256_72, s256_73, s256_74, s256_75, s256_76, s256_77, s256_78, s256_81, s256_82, s256_85, s256_88, s256_91, okF, okA, mcC_o, mcF_o, mcT_i, mcT_l, mcT_z, mcT_q, mcN_i, mcN_l, mcN_z, mcN_q, mcI_i, mcI_z, mcL_l, mcQ_q, hg_hp, hp_hp, List.getD_cons_zero, List.getD_cons_succ, List.set_cons_zero, List.set_cons_succ, List.length_cons, List.length_nil, Nat.reduceAdd, Nat.reduceLT, Nat.reduceEqDiff, Nat.lt_add_one, decide_true, decide_false, Bool.and_true, Bool.true_and, Bool.and_false, Bool.false_and, Bool.false_eq_true, if_true, if_false, ↓reduceIte, Option.bind_some, Option.bind_none, kont_v, kont_n, AH_40, AH_42, AHp_42, isO0_o, l, op, one0, r1, c1, cf, d1, e2, p1]
    · rw [if_neg o] at op
      rw [if_neg o, cmb_nr]
      obtain ⟨ch3, be3, ls3, e3, w3, A3⟩ := ih (p + 1) acc ch be ls (by omega) hw hA
      refine ⟨ch3, be3, ls3, ?_, w3, A3⟩
      rw [← e3, s256_46]
      simp only [s256_0, s256_1, s256_2, s256_5, s256_8, s256_9, s256_10, s256_11, s256_14, s256_17, s256_18, s256_20, s256_23, s256_24, s256_25, s256_28, s256_29, s256_32, s256_33, s256_34, s256_37, s256_38, s256_40, s256_43, s256_44, s256_45, s256_47, s256_48, s256_51, s256_54, s256_55, s256_56, s256_57, s256_60, s256_63, s256_64, s256_67, s256_68, s256_69, s256_70, s256_71, s256_72, s256_73, s256_74, s256_75, s256_76, s256_77, s256_78, s256_81, s256_82, s256_85, s256_88, s256_91, okF, okA, mcC_o, mcF_o, mcT_i, mcT_l, mcT_z, mcT_q, mcN_i, mcN_l, mcN_z, mcN_q, mcI_i, mcI_z, mcL_l, mcQ_q, hg_hp, hp_hp, List.getD_cons_zero, List.getD_cons_succ, List.set_cons_zero, List.set_cons_succ, List.length_cons, List.length_nil, Nat.reduceAdd, Nat.reduceLT, Nat.reduceEqDiff, Nat.lt_add_one, decide_true, decide_false, Bool.and_true, Bool.true_and, Bool.and_false, Bool.false_and, Bool.false_eq_true, if_true, if_false, ↓reduceIte, Option.bind_some, Option.bind_none, kont_v, kont_n, AH_40, l, op, p1]
theorem c_tf256 (hP1 : 1 ≤ P) (hP : P ≤ 3) (hn : n ≤ 12) (h44 : hg B 44 = oB 10 [.int (nI 12), .int (nI 12), .ref 45, .int (nI R)]) (hc3 : ∀ k j, c k j ≤ 3) (hc : ∀ k j, k < n → j < k → cl (k * 12 + j) = nI (c k j)) (T : TF X B P n c sd cl 257 (6 + 1)) : TF X B P n c sd cl 256 6 := by
  intro hk w acc ch be ls hw hA
  have pl := pcs_le hc3 (w := w) 6 (by omega)
  have leaf : 6 = n → nI (pcs c w 6) < ls → ∃ ch' be' ls', ev X 256 0 [.ref 40, .int (nI 6), .int (nI (pcs c w 6)), .float 0] [] (AH B (nI n) (nI P) ls sd ch be cl) = some (none, (AH B (nI n) (nI P) ls' sd ch' be' cl)) ∧ (∀ i, i < 6 → ch' i = nI (w i)) ∧ ACL n (some (pcs c w n, w)) ls' be' := fun en lt => by
    have l2 : ¬ nI 6 < nI n := nI_nlt (by omega) (by omega)
    have ok := okC_n (N := 12) (f := ch) (g := be) (by decide)
    have ok : okC (iA 12 ch) (iA 12 be) 0 0 12 = true := ok
    refine ⟨ch, cpf 12 ch be, nI (pcs c w 6), ?_, fun i hi => (hw i hi).1, by rw [← en], by rw [← en]; omega, fun i hi => by rw [cpf_lt (by omega)]; exact (hw i (by omega)).1⟩
    have cz : (0 : Int32).toNatClampNeg = 0 := by decide
    have c12 : (12 : Int32).toNatClampNeg = 12 := by decide
    simp only [s256_0, s256_1, s256_2, s256_5, s256_8, s256_9, s256_10, s256_11, s256_14, s256_17, s256_18, s256_20, s256_23, s256_24, s256_25, s256_28, s256_29, s256_32, s256_33, s256_34, s256_37, s256_38, s256_40, s256_43, s256_44, s256_45, s256_47, s256_48, s256_51, s256_54, s256_55, s256_56, s256_57, s256_60, s256_63, s256_64, s256_67, s256_68, s256_69, s256_70, s256_71, s256_72, s256_73, s256_74, s256_75, s256_76, s256_77, s256_78, s256_81, s256_82, s256_85, s256_88, s256_91, okF, okA, mcC_o, mcF_o, mcT_i, mcT_l, mcT_z, mcT_q, mcN_i, mcN_l, mcN_z, mcN_q, mcI_i, mcI_z, mcL_l, mcQ_q, hg_hp, hp_hp, List.getD_cons_zero, List.getD_cons_succ, List.set_cons_zero, List.set_cons_succ, List.length_cons, List.length_nil, Nat.reduceAdd, Nat.reduceLT, Nat.reduceEqDiff, Nat.lt_add_one, decide_true, decide_false, Bool.and_true, Bool.true_and, Bool.and_false, Bool.false_and, Bool.false_eq_true, if_true, if_false, ↓reduceIte, Option.bind_some, Option.bind_none, kont_v, kont_n, AH_40, AH_42, AH_43, AHp_40, lt, l2, ok, cz, c12]
    rw [AHp_43]
    rfl
  by_cases lt : nI (pcs c w 6) < ls
  · by_cases en : 6 = n
    · have eb : bst P (okr P) (fun w => pcs c w n) (n - 6) 6 w = some (pcs c w n, w) := by rw [show n - 6 = 0 by omega]; rfl
      obtain ⟨ch', be', ls', e1, e2, e3⟩ := leaf en lt
      refine ⟨ch', be', ls', e1, e2, ?_⟩
      rw [eb]
      cases acc with
      | none => exact e3
      | some y =>
        obtain ⟨a1, a2, a3⟩ := hA
        rw [a1] at lt
        have := (nI_ltI (by omega) (by omega)).mp lt
        rw [en] at this
        rw [cmb_ss, if_pos this]
        exact e3
    · obtain ⟨ch', be', ls', e1, e2, e3⟩ := c_tfl256 hP1 hP hn h44 hc T (by omega) (w := w) P 0 acc ch be ls (by omega) hw hA
      have l2 : nI 6 < nI n := nI_lt (by omega) (by omega)
      have l3 : nI 6 < (12 : Int32) := by decide
      rw [← TFL_done (m := n - 6 - 1) (by omega)] at e3
      refine ⟨ch', be', ls', ?_, e2, e3⟩
      have e1 : ev X 256 46 [.ref 40, .int (nI 6), .int (nI (pcs c w 6)), .int 0] [] (AH B (nI n) (nI P) ls sd ch be cl) = _ := e1
      simp only [s256_0, s256_1, s256_2, s256_5, s256_8, s256_9, s256_10, s256_11, s256_14, s256_17, s256_18, s256_20, s256_23, s256_24, s256_25, s256_28, s256_29, s256_32, s256_33, s256_34, s256_37, s256_38, s256_40, s256_43, s256_44, s256_45, s256_47, s256_48, s256_51, s256_54, s256_55, s256_56, s256_57, s256_60, s256_63, s256_64, s256_67, s256_68, s256_69, s256_70, s256_71, s256_72, s256_73, s256_74, s256_75, s256_76, s256_77, s256_78, s256_81, s256_82, s256_85, s256_88, s256_91, okF, okA, mcC_o, mcF_o, mcT_i, mcT_l, mcT_z, mcT_q, mcN_i, mcN_l, mcN_z, mcN_q, mcI_i, mcI_z, mcL_l, mcQ_q, hg_hp, hp_hp, List.getD_cons_zero, List.getD_cons_succ, List.set_cons_zero, List.set_cons_succ, List.length_cons, List.length_nil, Nat.reduceAdd, Nat.reduceLT, Nat.reduceEqDiff, Nat.lt_add_one, decide_true, decide_false, Bool.and_true, Bool.true_and, Bool.and_false, Bool.false_and, Bool.false_eq_true, if_true, if_false, ↓reduceIte, Option.bind_some, Option.bind_none, kont_v, kont_n, AH_40, lt, l2, l3, e1]
  · have nl := lt
    refine ⟨ch, be, ls, ?_, fun i hi => (hw i hi).1, ?_⟩
    · simp only [s256_0, s256_1, s256_2, s256_5, s256_8, s256_9, s256_10, s256_11, s256_14, s256_17, s256_18, s256_20, s256_23, s256_24, s256_25, s256_28, s256_29, s256_32, s256_33, s256_34, s256_37, s256_38, s256_40, s256_43, s256_44, s256_45, s256_47, s256_48, s256_51, s256_54, s256_55, s256_56, s256_57, s256_60, s256_63, s256_64, s256_67, s256_68, s256_69, s256_70, s256_71, s256_72, s256_73, s256_74, s256_75, s256_76, s256_77, s256_78, s256_81, s256_82, s256_85, s256_88, s256_91, okF, okA, mcC_o, mcF_o, mcT_i, mcT_l, mcT_z, mcT_q, mcN_i, mcN_l, mcN_z, mcN_q, mcI_i, mcI_z, mcL_l, mcQ_q, hg_hp, hp_hp, List.getD_cons_zero, List.getD_cons_succ, List.set_cons_zero, List.set_cons_succ, List.length_cons, List.length_nil, Nat.reduceAdd, Nat.reduceLT, Nat.reduceEqDiff, Nat.lt_add_one, decide_true, decide_false, Bool.and_true, Bool.true_and, Bool.and_false, Bool.false_and, Bool.false_eq_true, if_true, if_false, ↓reduceIte, Option.bind_some, Option.bind_none, kont_v, kont_n, AH_40, nl]
    · cases acc with
      | none =>
        have hA : ls = 1000000 := hA
        exact absurd (by rw [hA]; exact nI_lt (b := 1000000) (by omega) (by decide)) nl
      | some y =>
        obtain ⟨a1, a2, a3⟩ := hA
        have : y.1 ≤ pcs c w 6 := by
          by_cases q : y.1 ≤ pcs c w 6
          · exact q
          · exact absurd (by rw [a1]; exact nI_lt (by omega) (by omega)) nl
        cases eb : bst P (okr P) (fun w => pcs c w n) (n - 6) 6 w with
        | none => rw [cmb_nr]; exact ⟨a1, a2, a3⟩
        | some z =>
          have := bst_lo (n - 6) 6 w z (by omega) eb
          rw [cmb_ss, if_neg (by omega)]
          exact ⟨a1, a2, a3⟩
end TF256
section TF255
variable {X : MX} {B : MH} {P n R : Nat} {c : Nat → Nat → Nat} {sd cl : Nat → Int32}
theorem c_tfl255 (hP1 : 1 ≤ P) (hP : P ≤ 3) (hn : n ≤ 12) (h44 : hg B 44 = oB 10 [.int (nI 12), .int (nI 12), .ref 45, .int (nI R)]) (hc : ∀ k j, k < n → j < k → cl (k * 12 + j) = nI (c k j)) (T : TF X B P n c sd cl 256 (5 + 1)) (hk : 5 < n) {w : Nat → Nat} : ∀ (d p : Nat) (acc : WY) (ch be : Nat → Int32) (ls : Int32), p + d = P → (∀ i, i < 5 → ch i = nI (w i) ∧ w i < 2 ^ 31) → ACL n acc ls be → ∃ ch' be' ls', ev X 255 46 [.ref 40, .int (nI 5), .int (nI (pcs c w 5)), .int (nI p)] [] (AH B (nI n) (nI P) ls sd ch be cl) = some (none, (AH B (nI n) (nI P) ls' sd ch' be' cl)) ∧ (∀ i, i < 5 → ch' i = nI (w i)) ∧ ACL n (cmb acc (fol (fun p => if okr P 5 w p = true then bst P (okr P) (fun w => pcs c w n) (n - (5 + 1)) (5 + 1) (fu w 5 p) else none) d p)) ls' be' := by
  intro d
  induction d with
  | zero =>
    intro p acc ch be ls e hw hA
    have e : p = P := by omega
    have l := nI_nlt (Nat.le_refl P) (by omega)
    refine ⟨ch, be, ls, ?_, fun i hi => (hw i hi).1, by rw [fol, cmb_nr]; exact hA⟩
    rw [e, s255_46]
    simp only [s255_0, s255_1, s255_2, s255_5, s255_8, s255_9, s255_10, s255_11, s255_14, s255_17, s255_18, s255_20, s255_23, s255_24, s255_25, s255_28, s255_29, s255_32, s255_33, s255_34, s255_37, s255_38, s255_40, s255_43, s255_44, s255_45, s255_47, s255_48, s255_51, s255_54, s255_55, s255_56, s255_57, s255_60, s255_63, s255_64, s255_67, s255_68, s255_69, s255_70, s255_71, s255_72, s255_73, s255_74, s255_75, s255_76, s255_77, s255_78, s255_81, s255_82, s255_85, s255_88, s255_91, okF, okA, mcC_o, mcF_o, mcT_i, mcT_l, mcT_z, mcT_q, mcN_i, mcN_l, mcN_z, mcN_q, mcI_i, mcI_z, mcL_l, mcQ_q, hg_hp, hp_hp, List.getD_cons_zero, List.getD_cons_succ, List.set_cons_zero, List.set_cons_succ, List.length_cons, List.length_nil, Nat.reduceAdd, Nat.reduceLT, Nat.reduceEqDiff, Nat.lt_add_one, decide_true, decide_false, Bool.and_true, Bool.true_and, Bool.and_false, Bool.false_and, Bool.false_eq_true, if_true, if_false, ↓reduceIte, Option.bind_some, Option.bind_none, kont_v, kont_n, AH_40, l]
  | succ d ih =>
    intro p acc ch be ls e hw hA
    have l := nI_lt (show p < P by omega) (by omega)
    have p1 : nI p + 1 = nI (p + 1) := nI_add p 1
    have op := c_isOpen (X := X) (B := B) (mn := nI n) (ls := ls) (sd := sd) (ch := ch) (be := be) (cl := cl) (w := w) (k := 5) (p := p) (by omega) hP1 hP (by omega) hw
    rw [fol, ← cmb_assoc]
    by_cases o : okr P 5 w p = true
    · rw [if_pos o] at op
      rw [if_pos o]
      have r1 : inR (nI 5) 12 = true := by decide
      have c1 : (nI 5).toNatClampNeg = 5 := nI_clamp (by omega)
      have one0 : ¬ (1 : Int32) = 0 := by decide
      have hw' : ∀ i, i < 5 → upd ch 5 (nI p) i = nI (w i) ∧ w i < 2 ^ 31 := fun i hi => ⟨by rw [upd_ne (by omega)]; exact (hw i hi).1, (hw i hi).2⟩
      have cf := c_costOf (X := X) (B := B) (mn := nI n) (pl := nI P) (ls := ls) (sd := sd) (ch := upd ch 5 (nI p)) (be := be) (cl := cl) (w := w) (c := c) (k := 5) (p := p) h44 (by omega) (by omega) hw' (fun j hj => hc 5 j hk hj)
      obtain ⟨ch2, be2, ls2, e2, w2, A2⟩ := T (by omega) (fu w 5 p) acc (upd ch 5 (nI p)) be ls (fun i hi => by
        by_cases q : i = 5
        · rw [q, upd_eq, fu_s]; exact ⟨rfl, by omega⟩
        · rw [upd_ne q, fu_n _ _ q]; exact hw i (by omega)) hA
      rw [pcs_fu, ← nI_add (pcs c w 5) (cof c w 5 p 5), show 5 + 1 = 6 from rfl] at e2
      have d1 : nI 5 + 1 = nI 6 := nI_add 5 1
      obtain ⟨ch3, be3, ls3, e3, w3, A3⟩ := ih (p + 1) _ ch2 be2 ls2 (by omega) (fun i hi => ⟨by rw [w2 i (by omega), fu_n _ _ (by omega)], (hw i hi).2⟩) A2
      refine ⟨ch3, be3, ls3, ?_, w3, A3⟩
      rw [← e3, s255_46]
      simp only [s255_0, s255_1, s255_2, s255_5, s255_8, s255_9, s255_10, s255_11, s255_14, s255_17, s255_18, s255_20, s255_23, s255_24, s255_25, s255_28, s255_29, s255_32, s255_33, s255_34, s255_37, s255_38, s255_40, s255_43, s255_44, s255_45, s255_47, s255_48, s255_51, s255_54, s255_55, s255_56, s255_57, s255_60, s255_63, s255_64, s255_67, s255_68, s255_69, s255_70, s255_71, s255_72, s255_73, s255_74, s255_75, s255_76, s255_77, s255_78, s255_81, s255_82, s255_85, s255_88, s255_91, okF, okA, mcC_o, mcF_o, mcT_i, mcT_l, mcT_z, mcT_q, mcN_i, mcN_l, mcN_z, mcN_q, mcI_i, mcI_z, mcL_l, mcQ_q, hg_hp, hp_hp, List.getD_cons_zero, List.getD_cons_succ, List.set_cons_zero, List.set_cons_succ, List.length_cons, List.length_nil, Nat.reduceAdd, Nat.reduceLT, Nat.reduceEqDiff, Nat.lt_add_one, decide_true, decide_false, Bool.and_true, Bool.true_and, Bool.and_false, Bool.false_and, Bool.false_eq_true, if_true, if_false, ↓reduceIte, Option.bind_some, Option.bind_none, kont_v, kont_n, AH_40, AH_42, AHp_42, isO0_o, l, op, one0, r1, c1, cf, d1, e2, p1]
    · rw [if_neg o] at op
      rw [if_neg o, cmb_nr]
      obtain ⟨ch3, be3, ls3, e3, w3, A3⟩ := ih (p + 1) acc ch be ls (by omega) hw hA
      refine ⟨ch3, be3, ls3, ?_, w3, A3⟩
      rw [← e3, s255_46]
      simp only [s255_0, s255_1, s255_2, s255_5, s255_8, s255_9, s255_10, s255_11, s255_14, s255_17, s255_18, s255_20, s255_23, s255_24, s255_25, s255_28, s255_29, s255_32, s255_33, s255_34, s255_37, s255_38, s255_40, s255_43, s255_44, s255_45, s255_47, s255_48, s255_51, s255_54, s255_55, s255_56, s255_57, s255_60, s255_63, s255_64, s255_67, s255_68, s255_69, s255_70, s255_71, s255_72, s255_73, s255_74, s255_75, s255_76, s255_77, s255_78, s255_81, s255_82, s255_85, s255_88, s255_91, okF, okA, mcC_o, mcF_o, mcT_i, mcT_l, mcT_z, mcT_q, mcN_i, mcN_l, mcN_z, mcN_q, mcI_i, mcI_z, mcL_l, mcQ_q, hg_hp, hp_hp, List.getD_cons_zero, List.getD_cons_succ, List.set_cons_zero, List.set_cons_succ, List.length_cons, List.length_nil, Nat.reduceAdd, Nat.reduceLT, Nat.reduceEqDiff, Nat.lt_add_one, decide_true, decide_false, Bool.and_true, Bool.true_and, Bool.and_false, Bool.false_and, Bool.false_eq_true, if_true, if_false, ↓reduceIte, Option.bind_some, Option.bind_none, kont_v, kont_n, AH_40, l, op, p1]
theorem c_tf255 (hP1 : 1 ≤ P) (hP : P ≤ 3) (hn : n ≤ 12) (h44 : hg B 44 = oB 10 [.int (nI 12), .int (nI 12), .ref 45, .int (nI R)]) (hc3 : ∀ k j, c k j ≤ 3) (hc : ∀ k j, k < n → j < k → cl (k * 12 + j) = nI (c k j)) (T : TF X B P n c sd cl 256 (5 + 1)) : TF X B P n c sd cl 255 5 := by
  intro hk w acc ch be ls hw hA
  have pl := pcs_le hc3 (w := w) 5 (by omega)
  have leaf : 5 = n → nI (pcs c w 5) < ls → ∃ ch' be' ls', ev X 255 0 [.ref 40, .int (nI 5), .int (nI (pcs c w 5)), .float 0] [] (AH B (nI n) (nI P) ls sd ch be cl) = some (none, (AH B (nI n) (nI P) ls' sd ch' be' cl)) ∧ (∀ i, i < 5 → ch' i = nI (w i)) ∧ ACL n (some (pcs c w n, w)) ls' be' := fun en lt => by
    have l2 : ¬ nI 5 < nI n := nI_nlt (by omega) (by omega)
    have ok := okC_n (N := 12) (f := ch) (g := be) (by decide)
    have ok : okC (iA 12 ch) (iA 12 be) 0 0 12 = true := ok
    refine ⟨ch, cpf 12 ch be, nI (pcs c w 5), ?_, fun i hi => (hw i hi).1, by rw [← en], by rw [← en]; omega, fun i hi => by rw [cpf_lt (by omega)]; exact (hw i (by omega)).1⟩
    have cz : (0 : Int32).toNatClampNeg = 0 := by decide
    have c12 : (12 : Int32).toNatClampNeg = 12 := by decide
    simp only [s255_0, s255_1, s255_2, s255_5, s255_8, s255_9, s255_10, s255_11, s255_14, s255_17, s255_18, s255_20, s255_23, s255_24, s255_25, s255_28, s255_29, s255_32, s255_33, s255_34, s255_37, s255_38, s255_40, s255_43, s255_44, s255_45, s255_47, s255_48, s255_51, s255_54, s255_55, s255_56, s255_57, s255_60, s255_63, s255_64, s255_67, s255_68, s255_69, s255_70, s255_71, s255_72, s255_73, s255_74, s255_75, s255_76, s255_77, s255_78, s255_81, s255_82, s255_85, s255_88, s255_91, okF, okA, mcC_o, mcF_o, mcT_i, mcT_l, mcT_z, mcT_q, mcN_i, mcN_l, mcN_z, mcN_q, mcI_i, mcI_z, mcL_l, mcQ_q, hg_hp, hp_hp, List.getD_cons_zero, List.getD_cons_succ, List.set_cons_zero, List.set_cons_succ, List.length_cons, List.length_nil, Nat.reduceAdd, Nat.reduceLT, Nat.reduceEqDiff, Nat.lt_add_one, decide_true, decide_false, Bool.and_true, Bool.true_and, Bool.and_false, Bool.false_and, Bool.false_eq_true, if_true, if_false, ↓reduceIte, Option.bind_some, Option.bind_none, kont_v, kont_n, AH_40, AH_42, AH_43, AHp_40, lt, l2, ok, cz, c12]
    rw [AHp_43]
    rfl
  by_cases lt : nI (pcs c w 5) < ls
  · by_cases en : 5 = n
    · have eb : bst P (okr P) (fun w => pcs c w n) (n - 5) 5 w = some (pcs c w n, w) := by rw [show n - 5 = 0 by omega]; rfl
      obtain ⟨ch', be', ls', e1, e2, e3⟩ := leaf en lt
      refine ⟨ch', be', ls', e1, e2, ?_⟩
      rw [eb]
      cases acc with
      | none => exact e3
      | some y =>
        obtain ⟨a1, a2, a3⟩ := hA
        rw [a1] at lt
        have := (nI_ltI (by omega) (by omega)).mp lt
        rw [en] at this
        rw [cmb_ss, if_pos this]
        exact e3
    · obtain ⟨ch', be', ls', e1, e2, e3⟩ := c_tfl255 hP1 hP hn h44 hc T (by omega) (w := w) P 0 acc ch be ls (by omega) hw hA
      have l2 : nI 5 < nI n := nI_lt (by omega) (by omega)
      have l3 : nI 5 < (12 : Int32) := by decide
      rw [← TFL_done (m := n - 5 - 1) (by omega)] at e3
      refine ⟨ch', be', ls', ?_, e2, e3⟩
      have e1 : ev X 255 46 [.ref 40, .int (nI 5), .int (nI (pcs c w 5)), .int 0] [] (AH B (nI n) (nI P) ls sd ch be cl) = _ := e1
      simp only [s255_0, s255_1, s255_2, s255_5, s255_8, s255_9, s255_10, s255_11, s255_14, s255_17, s255_18, s255_20, s255_23, s255_24, s255_25, s255_28, s255_29, s255_32, s255_33, s255_34, s255_37, s255_38, s255_40, s255_43, s255_44, s255_45, s255_47, s255_48, s255_51, s255_54, s255_55, s255_56, s255_57, s255_60, s255_63, s255_64, s255_67, s255_68, s255_69, s255_70, s255_71, s255_72, s255_73, s255_74, s255_75, s255_76, s255_77, s255_78, s255_81, s255_82, s255_85, s255_88, s255_91, okF, okA, mcC_o, mcF_o, mcT_i, mcT_l, mcT_z, mcT_q, mcN_i, mcN_l, mcN_z, mcN_q, mcI_i, mcI_z, mcL_l, mcQ_q, hg_hp, hp_hp, List.getD_cons_zero, List.getD_cons_succ, List.set_cons_zero, List.set_cons_succ, List.length_cons, List.length_nil, Nat.reduceAdd, Nat.reduceLT, Nat.reduceEqDiff, Nat.lt_add_one, decide_true, decide_false, Bool.and_true, Bool.true_and, Bool.and_false, Bool.false_and, Bool.false_eq_true, if_true, if_false, ↓reduceIte, Option.bind_some, Option.bind_none, kont_v, kont_n, AH_40, lt, l2, l3, e1]
  · have nl := lt
    refine ⟨ch, be, ls, ?_, fun i hi => (hw i hi).1, ?_⟩
    · simp only [s255_0, s255_1, s255_2, s255_5, s255_8, s255_9, s255_10, s255_11, s255_14, s255_17, s255_18, s255_20, s255_23, s255_24, s255_25, s255_28, s255_29, s255_32, s255_33, s255_34, s255_37, s255_38, s255_40, s255_43, s255_44, s255_45, s255_47, s255_48, s255_51, s255_54, s255_55, s255_56, s255_57, s255_60, s255_63, s255_64, s255_67, s255_68, s255_69, s255_70, s255_71, s255_72, s255_73, s255_74, s255_75, s255_76, s255_77, s255_78, s255_81, s255_82, s255_85, s255_88, s255_91, okF, okA, mcC_o, mcF_o, mcT_i, mcT_l, mcT_z, mcT_q, mcN_i, mcN_l, mcN_z, mcN_q, mcI_i, mcI_z, mcL_l, mcQ_q, hg_hp, hp_hp, List.getD_cons_zero, List.getD_cons_succ, List.set_cons_zero, List.set_cons_succ, List.length_cons, List.length_nil, Nat.reduceAdd, Nat.reduceLT, Nat.reduceEqDiff, Nat.lt_add_one, decide_true, decide_false, Bool.and_true, Bool.true_and, Bool.and_false, Bool.false_and, Bool.false_eq_true, if_true, if_false, ↓reduceIte, Option.bind_some, Option.bind_none, kont_v, kont_n, AH_40, nl]
    · cases acc with
      | none =>
        have hA : ls = 1000000 := hA
        exact absurd (by rw [hA]; exact nI_lt (b := 1000000) (by omega) (by decide)) nl
      | some y =>
        obtain ⟨a1, a2, a3⟩ := hA
        have : y.1 ≤ pcs c w 5 := by
          by_cases q : y.1 ≤ pcs c w 5
          · exact q
          · exact absurd (by rw [a1]; exact nI_lt (by omega) (by omega)) nl
        cases eb : bst P (okr P) (fun w => pcs c w n) (n - 5) 5 w with
        | none => rw [cmb_nr]; exact ⟨a1, a2, a3⟩
        | some z =>
          have := bst_lo (n - 5) 5 w z (by omega) eb
          rw [cmb_ss, if_neg (by omega)]
          exact ⟨a1, a2, a3⟩
end TF255
section TF254
variable {X : MX} {B : MH} {P n R : Nat} {c : Nat → Nat → Nat} {sd cl : Nat → Int32}
theorem c_tfl254 (hP1 : 1 ≤ P) (hP : P ≤ 3) (hn : n ≤ 12) (h44 : hg B 44 = oB 10 [.int (nI 12), .int (nI 12), .ref 45, .int (nI R)]) (hc : ∀ k j, k < n → j < k → cl (k * 12 + j) = nI (c k j)) (T : TF X B P n c sd cl 255 (4 + 1)) (hk : 4 < n) {w : Nat → Nat} : ∀ (d p : Nat) (acc : WY) (ch be : Nat → Int32) (ls : Int32), p + d = P → (∀ i, i < 4 → ch i = nI (w i) ∧ w i < 2 ^ 31) → ACL n acc ls be → ∃ ch' be' ls', ev X 254 46 [.ref 40, .int (nI 4), .int (nI (pcs c w 4)), .int (nI p)] [] (AH B (nI n) (nI P) ls sd ch be cl) = some (none, (AH B (nI n) (nI P) ls' sd ch' be' cl)) ∧ (∀ i, i < 4 → ch' i = nI (w i)) ∧ ACL n (cmb acc (fol (fun p => if okr P 4 w p = true then bst P (okr P) (fun w => pcs c w n) (n - (4 + 1)) (4 + 1) (fu w 4 p) else none) d p)) ls' be' := by
  intro d
  induction d with
  | zero =>
    intro p acc ch be ls e hw hA
    have e : p = P := by omega
    have l := nI_nlt (Nat.le_refl P) (by omega)
    refine ⟨ch, be, ls, ?_, fun i hi => (hw i hi).1, by rw [fol, cmb_nr]; exact hA⟩
    rw [e, s254_46]
    simp only [s254_0, s254_1, s254_2, s254_5, s254_8, s254_9, s254_10, s254_11, s254_14, s254_17, s254_18, s254_20, s254_23, s254_24, s254_25, s254_28, s254_29, s254_32, s254_33, s254_34, s254_37, s254_38, s254_40, s254_43, s254_44, s254_45, s254_47, s254_48, s254_51, s254_54, s254_55, s254_56, s254_57, s254_60, s254_63, s254_64, s254_67, s254_68, s254_69, s254_70, s254_71, s254_72, s254_73, s254_74, s254_75, s254_76, s254_77, s254_78, s254_81, s254_82, s254_85, s254_88, s254_91, okF, okA, mcC_o, mcF_o, mcT_i, mcT_l, mcT_z, mcT_q, mcN_i, mcN_l, mcN_z, mcN_q, mcI_i, mcI_z, mcL_l, mcQ_q, hg_hp, hp_hp, List.getD_cons_zero, List.getD_cons_succ, List.set_cons_zero, List.set_cons_succ, List.length_cons, List.length_nil, Nat.reduceAdd, Nat.reduceLT, Nat.reduceEqDiff, Nat.lt_add_one, decide_true, decide_false, Bool.and_true, Bool.true_and, Bool.and_false, Bool.false_and, Bool.false_eq_true, if_true, if_false, ↓reduceIte, Option.bind_some, Option.bind_none, kont_v, kont_n, AH_40, l]
  | succ d ih =>
    intro p acc ch be ls e hw hA
    have l := nI_lt (show p < P by omega) (by omega)
    have p1 : nI p + 1 = nI (p + 1) := nI_add p 1
    have op := c_isOpen (X := X) (B := B) (mn := nI n) (ls := ls) (sd := sd) (ch := ch) (be := be) (cl := cl) (w := w) (k := 4) (p := p) (by omega) hP1 hP (by omega) hw
    rw [fol, ← cmb_assoc]
    by_cases o : okr P 4 w p = true
    · rw [if_pos o] at op
      rw [if_pos o]
      have r1 : inR (nI 4) 12 = true := by decide
      have c1 : (nI 4).toNatClampNeg = 4 := nI_clamp (by omega)
      have one0 : ¬ (1 : Int32) = 0 := by decide
      have hw' : ∀ i, i < 4 → upd ch 4 (nI p) i = nI (w i) ∧ w i < 2 ^ 31 := fun i hi => ⟨by rw [upd_ne (by omega)]; exact (hw i hi).1, (hw i hi).2⟩
      have cf := c_costOf (X := X) (B := B) (mn := nI n) (pl := nI P) (ls := ls) (sd := sd) (ch := upd ch 4 (nI p)) (be := be) (cl := cl) (w := w) (c := c) (k := 4) (p := p) h44 (by omega) (by omega) hw' (fun j hj => hc 4 j hk hj)
      obtain ⟨ch2, be2, ls2, e2, w2, A2⟩ := T (by omega) (fu w 4 p) acc (upd ch 4 (nI p)) be ls (fun i hi => by
        by_cases q : i = 4
        · rw [q, upd_eq, fu_s]; exact ⟨rfl, by omega⟩
        · rw [upd_ne q, fu_n _ _ q]; exact hw i (by omega)) hA
      rw [pcs_fu, ← nI_add (pcs c w 4) (cof c w 4 p 4), show 4 + 1 = 5 from rfl] at e2
      have d1 : nI 4 + 1 = nI 5 := nI_add 4 1
      obtain ⟨ch3, be3, ls3, e3, w3, A3⟩ := ih (p + 1) _ ch2 be2 ls2 (by omega) (fun i hi => ⟨by rw [w2 i (by omega), fu_n _ _ (by omega)], (hw i hi).2⟩) A2
      refine ⟨ch3, be3, ls3, ?_, w3, A3⟩
      rw [← e3, s254_46]
      simp only [s254_0, s254_1, s254_2, s254_5, s254_8, s254_9, s254_10, s254_11, s254_14, s254_17, s254_18, s254_20, s254_23, s254_24, s254_25, s254_28, s254_29, s254_32, s254_33, s254_34, s254_37, s254_38, s254_40, s254_43, s254_44, s254_45, s254_47, s254_48, s254_51, s254_54, s254_55, s254_56, s254_57, s254_60, s254_63, s254_64, s254_67, s254_68, s254_69, s254_70, s254_71, s254_72, s254_73, s254_74, s254_75, s254_76, s254_77, s254_78, s254_81, s254_82, s254_85, s254_88, s254_91, okF, okA, mcC_o, mcF_o, mcT_i, mcT_l, mcT_z, mcT_q, mcN_i, mcN_l, mcN_z, mcN_q, mcI_i, mcI_z, mcL_l, mcQ_q, hg_hp, hp_hp, List.getD_cons_zero, List.getD_cons_succ, List.set_cons_zero, List.set_cons_succ, List.length_cons, List.length_nil, Nat.reduceAdd, Nat.reduceLT, Nat.reduceEqDiff, Nat.lt_add_one, decide_true, decide_false, Bool.and_true, Bool.true_and, Bool.and_false, Bool.false_and, Bool.false_eq_true, if_true, if_false, ↓reduceIte, Option.bind_some, Option.bind_none, kont_v, kont_n, AH_40, AH_42, AHp_42, isO0_o, l, op, one0, r1, c1, cf, d1, e2, p1]
    · rw [if_neg o] at op
      rw [if_neg o, cmb_nr]
      obtain ⟨ch3, be3, ls3, e3, w3, A3⟩ := ih (p + 1) acc ch be ls (by omega) hw hA
      refine ⟨ch3, be3, ls3, ?_, w3, A3⟩
      rw [← e3, s254_46]
      simp only [s254_0, s254_1, s254_2, s254_5, s254_8, s254_9, s254_10, s254_11, s254_14, s254_17, s254_18, s254_20, s254_23, s254_24, s254_25, s254_28, s254_29, s254_32, s254_33, s254_34, s254_37, s254_38, s254_40, s254_43, s254_44, s254_45, s254_47, s254_48, s254_51, s254_54, s254_55, s254_56, s254_57, s254_60, s254_63, s254_64, s254_67, s254_68, s254_69, s254_70, s254_71, s254_72, s254_73, s254_74, s254_75, s254_76, s254_77, s254_78, s254_81, s254_82, s254_85, s254_88, s254_91, okF, okA, mcC_o, mcF_o, mcT_i, mcT_l, mcT_z, mcT_q, mcN_i, mcN_l, mcN_z, mcN_q, mcI_i, mcI_z, mcL_l, mcQ_q, hg_hp, hp_hp, List.getD_cons_zero, List.getD_cons_succ, List.set_cons_zero, List.set_cons_succ, List.length_cons, List.length_nil, Nat.reduceAdd, Nat.reduceLT, Nat.reduceEqDiff, Nat.lt_add_one, decide_true, decide_false, Bool.and_true, Bool.true_and, Bool.and_false, Bool.false_and, Bool.false_eq_true, if_true, if_false, ↓reduceIte, Option.bind_some, Option.bind_none, kont_v, kont_n, AH_40, l, op, p1]
theorem c_tf254 (hP1 : 1 ≤ P) (hP : P ≤ 3) (hn : n ≤ 12) (h44 : hg B 44 = oB 10 [.int (nI 12), .int (nI 12), .ref 45, .int (nI R)]) (hc3 : ∀ k j, c k j ≤ 3) (hc : ∀ k j, k < n → j < k → cl (k * 12 + j) = nI (c k j)) (T : TF X B P n c sd cl 255 (4 + 1)) : TF X B P n c sd cl 254 4 := by
  intro hk w acc ch be ls hw hA
  have pl := pcs_le hc3 (w := w) 4 (by omega)
  have leaf : 4 = n → nI (pcs c w 4) < ls → ∃ ch' be' ls', ev X 254 0 [.ref 40, .int (nI 4), .int (nI (pcs c w 4)), .float 0] [] (AH B (nI n) (nI P) ls sd ch be cl) = some (none, (AH B (nI n) (nI P) ls' sd ch' be' cl)) ∧ (∀ i, i < 4 → ch' i = nI (w i)) ∧ ACL n (some (pcs c w n, w)) ls' be' := fun en lt => by
    have l2 : ¬ nI 4 < nI n := nI_nlt (by omega) (by omega)
    have ok := okC_n (N := 12) (f := ch) (g := be) (by decide)
    have ok : okC (iA 12 ch) (iA 12 be) 0 0 12 = true := ok
    refine ⟨ch, cpf 12 ch be, nI (pcs c w 4), ?_, fun i hi => (hw i hi).1, by rw [← en], by rw [← en]; omega, fun i hi => by rw [cpf_lt (by omega)]; exact (hw i (by omega)).1⟩
    have cz : (0 : Int32).toNatClampNeg = 0 := by decide
    have c12 : (12 : Int32).toNatClampNeg = 12 := by decide
    simp only [s254_0, s254_1, s254_2, s254_5, s254_8, s254_9, s254_10, s254_11, s254_14, s254_17, s254_18, s254_20, s254_23, s254_24, s254_25, s254_28, s254_29, s254_32, s254_33, s254_34, s254_37, s254_38, s254_40, s254_43, s254_44, s254_45, s254_47, s254_48, s254_51, s254_54, s254_55, s254_56, s254_57, s254_60, s254_63, s254_64, s254_67, s254_68, s254_69, s254_70, s254_71, s254_72, s254_73, s254_74, s254_75, s254_76, s254_77, s254_78, s254_81, s254_82, s254_85, s254_88, s254_91, okF, okA, mcC_o, mcF_o, mcT_i, mcT_l, mcT_z, mcT_q, mcN_i, mcN_l, mcN_z, mcN_q, mcI_i, mcI_z, mcL_l, mcQ_q, hg_hp, hp_hp, List.getD_cons_zero, List.getD_cons_succ, List.set_cons_zero, List.set_cons_succ, List.length_cons, List.length_nil, Nat.reduceAdd, Nat.reduceLT, Nat.reduceEqDiff, Nat.lt_add_one, decide_true, decide_false, Bool.and_true, Bool.true_and, Bool.and_false, Bool.false_and, Bool.false_eq_true, if_true, if_false, ↓reduceIte, Option.bind_some, Option.bind_none, kont_v, kont_n, AH_40, AH_42, AH_43, AHp_40, lt, l2, ok, cz, c12]
    rw [AHp_43]
    rfl
  by_cases lt : nI (pcs c w 4) < ls
  · by_cases en : 4 = n
    · have eb : bst P (okr P) (fun w => pcs c w n) (n - 4) 4 w = some (pcs c w n, w) := by rw [show n - 4 = 0 by omega]; rfl
      obtain ⟨ch', be', ls', e1, e2, e3⟩ := leaf en lt
      refine ⟨ch', be', ls', e1, e2, ?_⟩
      rw [eb]
      cases acc with
      | none => exact e3
      | some y =>
        obtain ⟨a1, a2, a3⟩ := hA
        rw [a1] at lt
        have := (nI_ltI (by omega) (by omega)).mp lt
        rw [en] at this
        rw [cmb_ss, if_pos this]
        exact e3
    · obtain ⟨ch', be', ls', e1, e2, e3⟩ := c_tfl254 hP1 hP hn h44 hc T (by omega) (w := w) P 0 acc ch be ls (by omega) hw hA
      have l2 : nI 4 < nI n := nI_lt (by omega) (by omega)
      have l3 : nI 4 < (12 : Int32) := by decide
      rw [← TFL_done (m := n - 4 - 1) (by omega)] at e3
      refine ⟨ch', be', ls', ?_, e2, e3⟩
      have e1 : ev X 254 46 [.ref 40, .int (nI 4), .int (nI (pcs c w 4)), .int 0] [] (AH B (nI n) (nI P) ls sd ch be cl) = _ := e1
      simp only [s254_0, s254_1, s254_2, s254_5, s254_8, s254_9, s254_10, s254_11, s254_14, s254_17, s254_18, s254_20, s254_23, s254_24, s254_25, s254_28, s254_29, s254_32, s254_33, s254_34, s254_37, s254_38, s254_40, s254_43, s254_44, s254_45, s254_47, s254_48, s254_51, s254_54, s254_55, s254_56, s254_57, s254_60, s254_63, s254_64, s254_67, s254_68, s254_69, s254_70, s254_71, s254_72, s254_73, s254_74, s254_75, s254_76, s254_77, s254_78, s254_81, s254_82, s254_85, s254_88, s254_91, okF, okA, mcC_o, mcF_o, mcT_i, mcT_l, mcT_z, mcT_q, mcN_i, mcN_l, mcN_z, mcN_q, mcI_i, mcI_z, mcL_l, mcQ_q, hg_hp, hp_hp, List.getD_cons_zero, List.getD_cons_succ, List.set_cons_zero, List.set_cons_succ, List.length_cons, List.length_nil, Nat.reduceAdd, Nat.reduceLT, Nat.reduceEqDiff, Nat.lt_add_one, decide_true, decide_false, Bool.and_true, Bool.true_and, Bool.and_false, Bool.false_and, Bool.false_eq_true, if_true, if_false, ↓reduceIte, Option.bind_some, Option.bind_none, kont_v, kont_n, AH_40, lt, l2, l3, e1]
  · have nl := lt
    refine ⟨ch, be, ls, ?_, fun i hi => (hw i hi).1, ?_⟩
    · simp only [s254_0, s254_1, s254_2, s254_5, s254_8, s254_9, s254_10, s254_11, s254_14, s254_17, s254_18, s254_20, s254_23, s254_24, s254_25, s254_28, s254_29, s254_32, s254_33, s254_34, s254_37, s254_38, s254_40, s254_43, s254_44, s254_45, s254_47, s254_48, s254_51, s254_54, s254_55, s254_56, s254_57, s254_60, s254_63, s254_64, s254_67, s254_68, s254_69, s254_70, s254_71, s254_72, s254_73, s254_74, s254_75, s254_76, s254_77, s254_78, s254_81, s254_82, s254_85, s254_88, s254_91, okF, okA, mcC_o, mcF_o, mcT_i, mcT_l, mcT_z, mcT_q, mcN_i, mcN_l, mcN_z, mcN_q, mcI_i, mcI_z, mcL_l, mcQ_q, hg_hp, hp_hp, List.getD_cons_zero, List.getD_cons_succ, List.set_cons_zero, List.set_cons_succ, List.length_cons, List.length_nil, Nat.reduceAdd, Nat.reduceLT, Nat.reduceEqDiff, Nat.lt_add_one, decide_true, decide_false, Bool.and_true, Bool.true_and, Bool.and_false, Bool.false_and, Bool.false_eq_true, if_true, if_false, ↓reduceIte, Option.bind_some, Option.bind_none, kont_v, kont_n, AH_40, nl]
    · cases acc with
      | none =>
        have hA : ls = 1000000 := hA
        exact absurd (by rw [hA]; exact nI_lt (b := 1000000) (by omega) (by decide)) nl
      | some y =>
        obtain ⟨a1, a2, a3⟩ := hA
        have : y.1 ≤ pcs c w 4 := by
          by_cases q : y.1 ≤ pcs c w 4
          · exact q
          · exact absurd (by rw [a1]; exact nI_lt (by omega) (by omega)) nl
        cases eb : bst P (okr P) (fun w => pcs c w n) (n - 4) 4 w with
        | none => rw [cmb_nr]; exact ⟨a1, a2, a3⟩
        | some z =>
          have := bst_lo (n - 4) 4 w z (by omega) eb
          rw [cmb_ss, if_neg (by omega)]
          exact ⟨a1, a2, a3⟩
end TF254
section TF253
variable {X : MX} {B : MH} {P n R : Nat} {c : Nat → Nat → Nat} {sd cl : Nat → Int32}
theorem c_tfl253 (hP1 : 1 ≤ P) (hP : P ≤ 3) (hn : n ≤ 12) (h44 : hg B 44 = oB 10 [.int (nI 12), .int (nI 12), .ref 45, .int (nI R)]) (hc : ∀ k j, k < n → j < k → cl (k * 12 + j) = nI (c k j)) (T : TF X B P n c sd cl 254 (3 + 1)) (hk : 3 < n) {w : Nat → Nat} : ∀ (d p : Nat) (acc : WY) (ch be : Nat → Int32) (ls : Int32), p + d = P → (∀ i, i < 3 → ch i = nI (w i) ∧ w i < 2 ^ 31) → ACL n acc ls be → ∃ ch' be' ls', ev X 253 46 [.ref 40, .int (nI 3), .int (nI (pcs c w 3)), .int (nI p)] [] (AH B (nI n) (nI P) ls sd ch be cl) = some (none, (AH B (nI n) (nI P) ls' sd ch' be' cl)) ∧ (∀ i, i < 3 → ch' i = nI (w i)) ∧ ACL n (cmb acc (fol (fun p => if okr P 3 w p = true then bst P (okr P) (fun w => pcs c w n) (n - (3 + 1)) (3 + 1) (fu w 3 p) else none) d p)) ls' be' := by
  intro d
  induction d with
  | zero =>
    intro p acc ch be ls e hw hA
    have e : p = P := by omega
    have l := nI_nlt (Nat.le_refl P) (by omega)
    refine ⟨ch, be, ls, ?_, fun i hi => (hw i hi).1, by rw [fol, cmb_nr]; exact hA⟩
    rw [e, s253_46]
    simp only [s253_0, s253_1, s253_2, s253_5, s253_8, s253_9, s253_10, s253_11, s253_14, s253_17, s253_18, s253_20, s253_23, s253_24, s253_25, s253_28, s253_29, s253_32, s253_33, s253_34, s253_37, s253_38, s253_40, s253_43, s253_44, s253_45, s253_47, s253_48, s253_51, s253_54, s253_55, s253_56, s253_57, s253_60, s253_63, s253_64, s253_67, s253_68, s253_69, s253_70, s253_71, s253_72, s253_73, s253_74, s253_75, s253_76, s253_77, s253_78, s253_81, s253_82, s253_85, s253_88, s253_91, okF, okA, mcC_o, mcF_o, mcT_i, mcT_l, mcT_z, mcT_q, mcN_i, mcN_l, mcN_z, mcN_q, mcI_i, mcI_z, mcL_l, mcQ_q, hg_hp, hp_hp, List.getD_cons_zero, List.getD_cons_succ, List.set_cons_zero, List.set_cons_succ, List.length_cons, List.length_nil, Nat.reduceAdd, Nat.reduceLT, Nat.reduceEqDiff, Nat.lt_add_one, decide_true, decide_false, Bool.and_true, Bool.true_and, Bool.and_false, Bool.false_and, Bool.false_eq_true, if_true, if_false, ↓reduceIte, Option.bind_some, Option.bind_none, kont_v, kont_n, AH_40, l]
  | succ d ih =>
    intro p acc ch be ls e hw hA
    have l := nI_lt (show p < P by omega) (by omega)
    have p1 : nI p + 1 = nI (p + 1) := nI_add p 1
    have op := c_isOpen (X := X) (B := B) (mn := nI n) (ls := ls) (sd := sd) (ch := ch) (be := be) (cl := cl) (w := w) (k := 3) (p := p) (by omega) hP1 hP (by omega) hw
    rw [fol, ← cmb_assoc]
    by_cases o : okr P 3 w p = true
    · rw [if_pos o] at op
      rw [if_pos o]
      have r1 : inR (nI 3) 12 = true := by decide
      have c1 : (nI 3).toNatClampNeg = 3 := nI_clamp (by omega)
      have one0 : ¬ (1 : Int32) = 0 := by decide
      have hw' : ∀ i, i < 3 → upd ch 3 (nI p) i = nI (w i) ∧ w i < 2 ^ 31 := fun i hi => ⟨by rw [upd_ne (by omega)]; exact (hw i hi).1, (hw i hi).2⟩
      have cf := c_costOf (X := X) (B := B) (mn := nI n) (pl := nI P) (ls := ls) (sd := sd) (ch := upd ch 3 (nI p)) (be := be) (cl := cl) (w := w) (c := c) (k := 3) (p := p) h44 (by omega) (by omega) hw' (fun j hj => hc 3 j hk hj)
      obtain ⟨ch2, be2, ls2, e2, w2, A2⟩ := T (by omega) (fu w 3 p) acc (upd ch 3 (nI p)) be ls (fun i hi => by
        by_cases q : i = 3
        · rw [q, upd_eq, fu_s]; exact ⟨rfl, by omega⟩
        · rw [upd_ne q, fu_n _ _ q]; exact hw i (by omega)) hA
      rw [pcs_fu, ← nI_add (pcs c w 3) (cof c w 3 p 3), show 3 + 1 = 4 from rfl] at e2
      have d1 : nI 3 + 1 = nI 4 := nI_add 3 1
      obtain ⟨ch3, be3, ls3, e3, w3, A3⟩ := ih (p + 1) _ ch2 be2 ls2 (by omega) (fun i hi => ⟨by rw [w2 i (by omega), fu_n _ _ (by omega)], (hw i hi).2⟩) A2
      refine ⟨ch3, be3, ls3, ?_, w3, A3⟩
      rw [← e3, s253_46]
      simp only [s253_0, s253_1, s253_2, s253_5, s253_8, s253_9, s253_10, s253_11, s253_14, s253_17, s253_18, s253_20, s253_23, s253_24, s253_25, s253_28, s253_29, s253_32, s253_33, s253_34, s253_37, s253_38, s253_40, s253_43, s253_44, s253_45, s253_47, s253_48, s253_51, s253_54, s253_55, s253_56, s253_57, s253_60, s253_63, s253_64, s253_67, s253_68, s253_69, s253_70, s253_71, s253_72, s253_73, s253_74, s253_75, s253_76, s253_77, s253_78, s253_81, s253_82, s253_85, s253_88, s253_91, okF, okA, mcC_o, mcF_o, mcT_i, mcT_l, mcT_z, mcT_q, mcN_i, mcN_l, mcN_z, mcN_q, mcI_i, mcI_z, mcL_l, mcQ_q, hg_hp, hp_hp, List.getD_cons_zero, List.getD_cons_succ, List.set_cons_zero, List.set_cons_succ, List.length_cons, List.length_nil, Nat.reduceAdd, Nat.reduceLT, Nat.reduceEqDiff, Nat.lt_add_one, decide_true, decide_false, Bool.and_true, Bool.true_and, Bool.and_false, Bool.false_and, Bool.false_eq_true, if_true, if_false, ↓reduceIte, Option.bind_some, Option.bind_none, kont_v, kont_n, AH_40, AH_42, AHp_42, isO0_o, l, op, one0, r1, c1, cf, d1, e2, p1]
    · rw [if_neg o] at op
      rw [if_neg o, cmb_nr]
      obtain ⟨ch3, be3, ls3, e3, w3, A3⟩ := ih (p + 1) acc ch be ls (by omega) hw hA
      refine ⟨ch3, be3, ls3, ?_, w3, A3⟩
      rw [← e3, s253_46]
      simp only [s253_0, s253_1, s253_2, s253_5, s253_8, s253_9, s253_10, s253_11, s253_14, s253_17, s253_18, s253_20, s253_23, s253_24, s253_25, s253_28, s253_29, s253_32, s253_33, s253_34, s253_37, s253_38, s253_40, s253_43, s253_44, s253_45, s253_47, s253_48, s253_51, s253_54, s253_55, s253_56, s253_57, s253_60, s253_63, s253_64, s253_67, s253_68, s253_69, s253_70, s253_71, s253_72, s253_73, s253_74, s253_75, s253_76, s253_77, s253_78, s253_81, s253_82, s253_85, s253_88, s253_91, okF, okA, mcC_o, mcF_o, mcT_i, mcT_l, mcT_z, mcT_q, mcN_i, mcN_l, mcN_z, mcN_q, mcI_i, mcI_z, mcL_l, mcQ_q, hg_hp, hp_hp, List.getD_cons_zero, List.getD_cons_succ, List.set_cons_zero, List.set_cons_succ, List.length_cons, List.length_nil, Nat.reduceAdd, Nat.reduceLT, Nat.reduceEqDiff, Nat.lt_add_one, decide_true, decide_false, Bool.and_true, Bool.true_and, Bool.and_false, Bool.false_and, Bool.false_eq_true, if_true, if_false, ↓reduceIte, Option.bind_some, Option.bind_none, kont_v, kont_n, AH_40, l, op, p1]
theorem c_tf253 (hP1 : 1 ≤ P) (hP : P ≤ 3) (hn : n ≤ 12) (h44 : hg B 44 = oB 10 [.int (nI 12), .int (nI 12), .ref 45, .int (nI R)]) (hc3 : ∀ k j, c k j ≤ 3) (hc : ∀ k j, k < n → j < k → cl (k * 12 + j) = nI (c k j)) (T : TF X B P n c sd cl 254 (3 + 1)) : TF X B P n c sd cl 253 3 := by
  intro hk w acc ch be ls hw hA
  have pl := pcs_le hc3 (w := w) 3 (by omega)
  have leaf : 3 = n → nI (pcs c w 3) < ls → ∃ ch' be' ls', ev X 253 0 [.ref 40, .int (nI 3), .int (nI (pcs c w 3)), .float 0] [] (AH B (nI n) (nI P) ls sd ch be cl) = some (none, (AH B (nI n) (nI P) ls' sd ch' be' cl)) ∧ (∀ i, i < 3 → ch' i = nI (w i)) ∧ ACL n (some (pcs c w n, w)) ls' be' := fun en lt => by
    have l2 : ¬ nI 3 < nI n := nI_nlt (by omega) (by omega)
    have ok := okC_n (N := 12) (f := ch) (g := be) (by decide)
    have ok : okC (iA 12 ch) (iA 12 be) 0 0 12 = true := ok
    refine ⟨ch, cpf 12 ch be, nI (pcs c w 3), ?_, fun i hi => (hw i hi).1, by rw [← en], by rw [← en]; omega, fun i hi => by rw [cpf_lt (by omega)]; exact (hw i (by omega)).1⟩
    have cz : (0 : Int32).toNatClampNeg = 0 := by decide
    have c12 : (12 : Int32).toNatClampNeg = 12 := by decide
    simp only [s253_0, s253_1, s253_2, s253_5, s253_8, s253_9, s253_10, s253_11, s253_14, s253_17, s253_18, s253_20, s253_23, s253_24, s253_25, s253_28, s253_29, s253_32, s253_33, s253_34, s253_37, s253_38, s253_40, s253_43, s253_44, s253_45, s253_47, s253_48, s253_51, s253_54, s253_55, s253_56, s253_57, s253_60, s253_63, s253_64, s253_67, s253_68, s253_69, s253_70, s253_71, s253_72, s253_73, s253_74, s253_75, s253_76, s253_77, s253_78, s253_81, s253_82, s253_85, s253_88, s253_91, okF, okA, mcC_o, mcF_o, mcT_i, mcT_l, mcT_z, mcT_q, mcN_i, mcN_l, mcN_z, mcN_q, mcI_i, mcI_z, mcL_l, mcQ_q, hg_hp, hp_hp, List.getD_cons_zero, List.getD_cons_succ, List.set_cons_zero, List.set_cons_succ, List.length_cons, List.length_nil, Nat.reduceAdd, Nat.reduceLT, Nat.reduceEqDiff, Nat.lt_add_one, decide_true, decide_false, Bool.and_true, Bool.true_and, Bool.and_false, Bool.false_and, Bool.false_eq_true, if_true, if_false, ↓reduceIte, Option.bind_some, Option.bind_none, kont_v, kont_n, AH_40, AH_42, AH_43, AHp_40, lt, l2, ok, cz, c12]
    rw [AHp_43]
    rfl
  by_cases lt : nI (pcs c w 3) < ls
  · by_cases en : 3 = n
    · have eb : bst P (okr P) (fun w => pcs c w n) (n - 3) 3 w = some (pcs c w n, w) := by rw [show n - 3 = 0 by omega]; rfl
      obtain ⟨ch', be', ls', e1, e2, e3⟩ := leaf en lt
      refine ⟨ch', be', ls', e1, e2, ?_⟩
      rw [eb]
      cases acc with
      | none => exact e3
      | some y =>
        obtain ⟨a1, a2, a3⟩ := hA
        rw [a1] at lt
        have := (nI_ltI (by omega) (by omega)).mp lt
        rw [en] at this
        rw [cmb_ss, if_pos this]
        exact e3
    · obtain ⟨ch', be', ls', e1, e2, e3⟩ := c_tfl253 hP1 hP hn h44 hc T (by omega) (w := w) P 0 acc ch be ls (by omega) hw hA
      have l2 : nI 3 < nI n := nI_lt (by omega) (by omega)
      have l3 : nI 3 < (12 : Int32) := by decide
      rw [← TFL_done (m := n - 3 - 1) (by omega)] at e3
      refine ⟨ch', be', ls', ?_, e2, e3⟩
      have e1 : ev X 253 46 [.ref 40, .int (nI 3), .int (nI (pcs c w 3)), .int 0] [] (AH B (nI n) (nI P) ls sd ch be cl) = _ := e1
      simp only [s253_0, s253_1, s253_2, s253_5, s253_8, s253_9, s253_10, s253_11, s253_14, s253_17, s253_18, s253_20, s253_23, s253_24, s253_25, s253_28, s253_29, s253_32, s253_33, s253_34, s253_37, s253_38, s253_40, s253_43, s253_44, s253_45, s253_47, s253_48, s253_51, s253_54, s253_55, s253_56, s253_57, s253_60, s253_63, s253_64, s253_67, s253_68, s253_69, s253_70, s253_71, s253_72, s253_73, s253_74, s253_75, s253_76, s253_77, s253_78, s253_81, s253_82, s253_85, s253_88, s253_91, okF, okA, mcC_o, mcF_o, mcT_i, mcT_l, mcT_z, mcT_q, mcN_i, mcN_l, mcN_z, mcN_q, mcI_i, mcI_z, mcL_l, mcQ_q, hg_hp, hp_hp, List.getD_cons_zero, List.getD_cons_succ, List.set_cons_zero, List.set_cons_succ, List.length_cons, List.length_nil, Nat.reduceAdd, Nat.reduceLT, Nat.reduceEqDiff, Nat.lt_add_one, decide_true, decide_false, Bool.and_true, Bool.true_and, Bool.and_false, Bool.false_and, Bool.false_eq_true, if_true, if_false, ↓reduceIte, Option.bind_some, Option.bind_none, kont_v, kont_n, AH_40, lt, l2, l3, e1]
  · have nl := lt
    refine ⟨ch, be, ls, ?_, fun i hi => (hw i hi).1, ?_⟩
    · simp only [s253_0, s253_1, s253_2, s253_5, s253_8, s253_9, s253_10, s253_11, s253_14, s253_17, s253_18, s253_20, s253_23, s253_24, s253_25, s253_28, s253_29, s253_32, s253_33, s253_34, s253_37, s253_38, s253_40, s253_43, s253_44, s253_45, s253_47, s253_48, s253_51, s253_54, s253_55, s253_56, s253_57, s253_60, s253_63, s253_64, s253_67, s253_68, s253_69, s253_70, s253_71, s253_72, s253_73, s253_74, s253_75, s253_76, s253_77, s253_78, s253_81, s253_82, s253_85, s253_88, s253_91, okF, okA, mcC_o, mcF_o, mcT_i, mcT_l, mcT_z, mcT_q, mcN_i, mcN_l, mcN_z, mcN_q, mcI_i, mcI_z, mcL_l, mcQ_q, hg_hp, hp_hp, List.getD_cons_zero, List.getD_cons_succ, List.set_cons_zero, List.set_cons_succ, List.length_cons, List.length_nil, Nat.reduceAdd, Nat.reduceLT, Nat.reduceEqDiff, Nat.lt_add_one, decide_true, decide_false, Bool.and_true, Bool.true_and, Bool.and_false, Bool.false_and, Bool.false_eq_true, if_true, if_false, ↓reduceIte, Option.bind_some, Option.bind_none, kont_v, kont_n, AH_40, nl]
    · cases acc with
      | none =>
        have hA : ls = 1000000 := hA
        exact absurd (by rw [hA]; exact nI_lt (b := 1000000) (by omega) (by decide)) nl
      | some y =>
        obtain ⟨a1, a2, a3⟩ := hA
        have : y.1 ≤ pcs c w 3 := by
          by_cases q : y.1 ≤ pcs c w 3
          · exact q
          · exact absurd (by rw [a1]; exact nI_lt (by omega) (by omega)) nl
        cases eb : bst P (okr P) (fun w => pcs c w n) (n - 3) 3 w with
        | none => rw [cmb_nr]; exact ⟨a1, a2, a3⟩
        | some z =>
          have := bst_lo (n - 3) 3 w z (by omega) eb
          rw [cmb_ss, if_neg (by omega)]
          exact ⟨a1, a2, a3⟩
end TF253
section TF252
variable {X : MX} {B : MH} {P n R : Nat} {c : Nat → Nat → Nat} {sd cl : Nat → Int32}
theorem c_tfl252 (hP1 : 1 ≤ P) (hP : P ≤ 3) (hn : n ≤ 12) (h44 : hg B 44 = oB 10 [.int (nI 12), .int (nI 12), .ref 45, .int (nI R)]) (hc : ∀ k j, k < n → j < k → cl (k * 12 + j) = nI (c k j)) (T : TF X B P n c sd cl 253 (2 + 1)) (hk : 2 < n) {w : Nat → Nat} : ∀ (d p : Nat) (acc : WY) (ch be : Nat → Int32) (ls : Int32), p + d = P → (∀ i, i < 2 → ch i = nI (w i) ∧ w i < 2 ^ 31) → ACL n acc ls be → ∃ ch' be' ls', ev X 252 46 [.ref 40, .int (nI 2), .int (nI (pcs c w 2)), .int (nI p)] [] (AH B (nI n) (nI P) ls sd ch be cl) = some (none, (AH B (nI n) (nI P) ls' sd ch' be' cl)) ∧ (∀ i, i < 2 → ch' i = nI (w i)) ∧ ACL n (cmb acc (fol (fun p => if okr P 2 w p = true then bst P (okr P) (fun w => pcs c w n) (n - (2 + 1)) (2 + 1) (fu w 2 p) else none) d p)) ls' be' := by
  intro d
  induction d with
  | zero =>
    intro p acc ch be ls e hw hA
    have e : p = P := by omega
    have l := nI_nlt (Nat.le_refl P) (by omega)
    refine ⟨ch, be, ls, ?_, fun i hi => (hw i hi).1, by rw [fol, cmb_nr]; exact hA⟩
    rw [e, s252_46]
    simp only [s252_0, s252_1, s252_2, s252_5, s252_8, s252_9, s252_10, s252_11, s252_14, s252_17, s252_18, s252_20, s252_23, s252_24, s252_25, s252_28, s252_29, s252_32, s252_33, s252_34, s252_37, s252_38, s252_40, s252_43, s252_44, s252_45, s252_47, s252_48, s252_51, s252_54, s252_55, s252_56, s252_57, s252_60, s252_63, s252_64, s252_67, s252_68, s252_69, s252_70, s252_71, s252_72, s252_73, s252_74, s252_75, s252_76, s252_77, s252_78, s252_81, s252_82, s252_85, s252_88, s252_91, okF, okA, mcC_o, mcF_o, mcT_i, mcT_l, mcT_z, mcT_q, mcN_i, mcN_l, mcN_z, mcN_q, mcI_i, mcI_z, mcL_l, mcQ_q, hg_hp, hp_hp, List.getD_cons_zero, List.getD_cons_succ, List.set_cons_zero, List.set_cons_succ, List.length_cons, List.length_nil, Nat.reduceAdd, Nat.reduceLT, Nat.reduceEqDiff, Nat.lt_add_one, decide_true, decide_false, Bool.and_true, Bool.true_and, Bool.and_false, Bool.false_and, Bool.false_eq_true, if_true, if_false, ↓reduceIte, Option.bind_some, Option.bind_none, kont_v, kont_n, AH_40, l]
  | succ d ih =>
    intro p acc ch be ls e hw hA
    have l := nI_lt (show p < P by omega) (by omega)
    have p1 : nI p + 1 = nI (p + 1) := nI_add p 1
    have op := c_isOpen (X := X) (B := B) (mn := nI n) (ls := ls) (sd := sd) (ch := ch) (be := be) (cl := cl) (w := w) (k := 2) (p := p) (by omega) hP1 hP (by omega) hw
    rw [fol, ← cmb_assoc]
    by_cases o : okr P 2 w p = true
    · rw [if_pos o] at op
      rw [if_pos o]
      have r1 : inR (nI 2) 12 = true := by decide
      have c1 : (nI 2).toNatClampNeg = 2 := nI_clamp (by omega)
      have one0 : ¬ (1 : Int32) = 0 := by decide
      have hw' : ∀ i, i < 2 → upd ch 2 (nI p) i = nI (w i) ∧ w i < 2 ^ 31 := fun i hi => ⟨by rw [upd_ne (by omega)]; exact (hw i hi).1, (hw i hi).2⟩
      have cf := c_costOf (X := X) (B := B) (mn := nI n) (pl := nI P) (ls := ls) (sd := sd) (ch := upd ch 2 (nI p)) (be := be) (cl := cl) (w := w) (c := c) (k := 2) (p := p) h44 (by omega) (by omega) hw' (fun j hj => hc 2 j hk hj)
      obtain ⟨ch2, be2, ls2, e2, w2, A2⟩ := T (by omega) (fu w 2 p) acc (upd ch 2 (nI p)) be ls (fun i hi => by
        by_cases q : i = 2
        · rw [q, upd_eq, fu_s]; exact ⟨rfl, by omega⟩
        · rw [upd_ne q, fu_n _ _ q]; exact hw i (by omega)) hA
      rw [pcs_fu, ← nI_add (pcs c w 2) (cof c w 2 p 2), show 2 + 1 = 3 from rfl] at e2
      have d1 : nI 2 + 1 = nI 3 := nI_add 2 1
      obtain ⟨ch3, be3, ls3, e3, w3, A3⟩ := ih (p + 1) _ ch2 be2 ls2 (by omega) (fun i hi => ⟨by rw [w2 i (by omega), fu_n _ _ (by omega)], (hw i hi).2⟩) A2
      refine ⟨ch3, be3, ls3, ?_, w3, A3⟩
      rw [← e3, s252_46]
      simp only [s252_0, s252_1, s252_2, s252_5, s252_8, s252_9, s252_10, s252_11, s252_14, s252_17, s252_18, s252_20, s252_23, s252_24, s252_25, s252_28, s252_29, s252_32, s252_33, s252_34, s252_37, s252_38, s252_40, s252_43, s252_44, s252_45, s252_47, s252_48, s252_51, s252_54, s252_55, s252_56, s252_57, s252_60, s252_63, s252_64, s252_67, s252_68, s252_69, s252_70, s252_71, s252_72, s252_73, s252_74, s252_75, s252_76, s252_77, s252_78, s252_81, s252_82, s252_85, s252_88, s252_91, okF, okA, mcC_o, mcF_o, mcT_i, mcT_l, mcT_z, mcT_q, mcN_i, mcN_l, mcN_z, mcN_q, mcI_i, mcI_z, mcL_l, mcQ_q, hg_hp, hp_hp, List.getD_cons_zero, List.getD_cons_succ, List.set_cons_zero, List.set_cons_succ, List.length_cons, List.length_nil, Nat.reduceAdd, Nat.reduceLT, Nat.reduceEqDiff, Nat.lt_add_one, decide_true, decide_false, Bool.and_true, Bool.true_and, Bool.and_false, Bool.false_and, Bool.false_eq_true, if_true, if_false, ↓reduceIte, Option.bind_some, Option.bind_none, kont_v, kont_n, AH_40, AH_42, AHp_42, isO0_o, l, op, one0, r1, c1, cf, d1, e2, p1]
    · rw [if_neg o] at op
      rw [if_neg o, cmb_nr]
      obtain ⟨ch3, be3, ls3, e3, w3, A3⟩ := ih (p + 1) acc ch be ls (by omega) hw hA
      refine ⟨ch3, be3, ls3, ?_, w3, A3⟩
      rw [← e3, s252_46]
      simp only [s252_0, s252_1, s252_2, s252_5, s252_8, s252_9, s252_10, s252_11, s252_14, s252_17, s252_18, s252_20, s252_23, s252_24, s252_25, s252_28, s252_29, s252_32, s252_33, s252_34, s252_37, s252_38, s252_40, s252_43, s252_44, s252_45, s252_47, s252_48, s252_51, s252_54, s252_55, s252_56, s252_57, s252_60, s252_63, s252_64, s252_67, s252_68, s252_69, s252_70, s252_71, s252_72, s252_73, s252_74, s252_75, s252_76, s252_77, s252_78, s252_81, s252_82, s252_85, s252_88, s252_91, okF, okA, mcC_o, mcF_o, mcT_i, mcT_l, mcT_z, mcT_q, mcN_i, mcN_l, mcN_z, mcN_q, mcI_i, mcI_z, mcL_l, mcQ_q, hg_hp, hp_hp, List.getD_cons_zero, List.getD_cons_succ, List.set_cons_zero, List.set_cons_succ, List.length_cons, List.length_nil, Nat.reduceAdd, Nat.reduceLT, Nat.reduceEqDiff, Nat.lt_add_one, decide_true, decide_false, Bool.and_true, Bool.true_and, Bool.and_false, Bool.false_and, Bool.false_eq_true, if_true, if_false, ↓reduceIte, Option.bind_some, Option.bind_none, kont_v, kont_n, AH_40, l, op, p1]
theorem c_tf252 (hP1 : 1 ≤ P) (hP : P ≤ 3) (hn : n ≤ 12) (h44 : hg B 44 = oB 10 [.int (nI 12), .int (nI 12), .ref 45, .int (nI R)]) (hc3 : ∀ k j, c k j ≤ 3) (hc : ∀ k j, k < n → j < k → cl (k * 12 + j) = nI (c k j)) (T : TF X B P n c sd cl 253 (2 + 1)) : TF X B P n c sd cl 252 2 := by
  intro hk w acc ch be ls hw hA
  have pl := pcs_le hc3 (w := w) 2 (by omega)
  have leaf : 2 = n → nI (pcs c w 2) < ls → ∃ ch' be' ls', ev X 252 0 [.ref 40, .int (nI 2), .int (nI (pcs c w 2)), .float 0] [] (AH B (nI n) (nI P) ls sd ch be cl) = some (none, (AH B (nI n) (nI P) ls' sd ch' be' cl)) ∧ (∀ i, i < 2 → ch' i = nI (w i)) ∧ ACL n (some (pcs c w n, w)) ls' be' := fun en lt => by
    have l2 : ¬ nI 2 < nI n := nI_nlt (by omega) (by omega)
    have ok := okC_n (N := 12) (f := ch) (g := be) (by decide)
    have ok : okC (iA 12 ch) (iA 12 be) 0 0 12 = true := ok
    refine ⟨ch, cpf 12 ch be, nI (pcs c w 2), ?_, fun i hi => (hw i hi).1, by rw [← en], by rw [← en]; omega, fun i hi => by rw [cpf_lt (by omega)]; exact (hw i (by omega)).1⟩
    have cz : (0 : Int32).toNatClampNeg = 0 := by decide
    have c12 : (12 : Int32).toNatClampNeg = 12 := by decide
    simp only [s252_0, s252_1, s252_2, s252_5, s252_8, s252_9, s252_10, s252_11, s252_14, s252_17, s252_18, s252_20, s252_23, s252_24, s252_25, s252_28, s252_29, s252_32, s252_33, s252_34, s252_37, s252_38, s252_40, s252_43, s252_44, s252_45, s252_47, s252_48, s252_51, s252_54, s252_55, s252_56, s252_57, s252_60, s252_63, s252_64, s252_67, s252_68, s252_69, s252_70, s252_71, s252_72, s252_73, s252_74, s252_75, s252_76, s252_77, s252_78, s252_81, s252_82, s252_85, s252_88, s252_91, okF, okA, mcC_o, mcF_o, mcT_i, mcT_l, mcT_z, mcT_q, mcN_i, mcN_l, mcN_z, mcN_q, mcI_i, mcI_z, mcL_l, mcQ_q, hg_hp, hp_hp, List.getD_cons_zero, List.getD_cons_succ, List.set_cons_zero, List.set_cons_succ, List.length_cons, List.length_nil, Nat.reduceAdd, Nat.reduceLT, Nat.reduceEqDiff, Nat.lt_add_one, decide_true, decide_false, Bool.and_true, Bool.true_and, Bool.and_false, Bool.false_and, Bool.false_eq_true, if_true, if_false, ↓reduceIte, Option.bind_some, Option.bind_none, kont_v, kont_n, AH_40, AH_42, AH_43, AHp_40, lt, l2, ok, cz, c12]
    rw [AHp_43]
    rfl
  by_cases lt : nI (pcs c w 2) < ls
  · by_cases en : 2 = n
    · have eb : bst P (okr P) (fun w => pcs c w n) (n - 2) 2 w = some (pcs c w n, w) := by rw [show n - 2 = 0 by omega]; rfl
      obtain ⟨ch', be', ls', e1, e2, e3⟩ := leaf en lt
      refine ⟨ch', be', ls', e1, e2, ?_⟩
      rw [eb]
      cases acc with
      | none => exact e3
      | some y =>
        obtain ⟨a1, a2, a3⟩ := hA
        rw [a1] at lt
        have := (nI_ltI (by omega) (by omega)).mp lt
        rw [en] at this
        rw [cmb_ss, if_pos this]
        exact e3
    · obtain ⟨ch', be', ls', e1, e2, e3⟩ := c_tfl252 hP1 hP hn h44 hc T (by omega) (w := w) P 0 acc ch be ls (by omega) hw hA
      have l2 : nI 2 < nI n := nI_lt (by omega) (by omega)
      have l3 : nI 2 < (12 : Int32) := by decide
      rw [← TFL_done (m := n - 2 - 1) (by omega)] at e3
      refine ⟨ch', be', ls', ?_, e2, e3⟩
      have e1 : ev X 252 46 [.ref 40, .int (nI 2), .int (nI (pcs c w 2)), .int 0] [] (AH B (nI n) (nI P) ls sd ch be cl) = _ := e1
      simp only [s252_0, s252_1, s252_2, s252_5, s252_8, s252_9, s252_10, s252_11, s252_14, s252_17, s252_18, s252_20, s252_23, s252_24, s252_25, s252_28, s252_29, s252_32, s252_33, s252_34, s252_37, s252_38, s252_40, s252_43, s252_44, s252_45, s252_47, s252_48, s252_51, s252_54, s252_55, s252_56, s252_57, s252_60, s252_63, s252_64, s252_67, s252_68, s252_69, s252_70, s252_71, s252_72, s252_73, s252_74, s252_75, s252_76, s252_77, s252_78, s252_81, s252_82, s252_85, s252_88, s252_91, okF, okA, mcC_o, mcF_o, mcT_i, mcT_l, mcT_z, mcT_q, mcN_i, mcN_l, mcN_z, mcN_q, mcI_i, mcI_z, mcL_l, mcQ_q, hg_hp, hp_hp, List.getD_cons_zero, List.getD_cons_succ, List.set_cons_zero, List.set_cons_succ, List.length_cons, List.length_nil, Nat.reduceAdd, Nat.reduceLT, Nat.reduceEqDiff, Nat.lt_add_one, decide_true, decide_false, Bool.and_true, Bool.true_and, Bool.and_false, Bool.false_and, Bool.false_eq_true, if_true, if_false, ↓reduceIte, Option.bind_some, Option.bind_none, kont_v, kont_n, AH_40, lt, l2, l3, e1]
  · have nl := lt
    refine ⟨ch, be, ls, ?_, fun i hi => (hw i hi).1, ?_⟩
    · simp only [s252_0, s252_1, s252_2, s252_5, s252_8, s252_9, s252_10, s252_11, s252_14, s252_17, s252_18, s252_20, s252_23, s252_24, s252_25, s252_28, s252_29, s252_32, s252_33, s252_34, s252_37, s252_38, s252_40, s252_43, s252_44, s252_45, s252_47, s252_48, s252_51, s252_54, s252_55, s252_56, s252_57, s252_60, s252_63, s252_64, s252_67, s252_68, s252_69, s252_70, s252_71, s252_72, s252_73, s252_74, s252_75, s252_76, s252_77, s252_78, s252_81, s252_82, s252_85, s252_88, s252_91, okF, okA, mcC_o, mcF_o, mcT_i, mcT_l, mcT_z, mcT_q, mcN_i, mcN_l, mcN_z, mcN_q, mcI_i, mcI_z, mcL_l, mcQ_q, hg_hp, hp_hp, List.getD_cons_zero, List.getD_cons_succ, List.set_cons_zero, List.set_cons_succ, List.length_cons, List.length_nil, Nat.reduceAdd, Nat.reduceLT, Nat.reduceEqDiff, Nat.lt_add_one, decide_true, decide_false, Bool.and_true, Bool.true_and, Bool.and_false, Bool.false_and, Bool.false_eq_true, if_true, if_false, ↓reduceIte, Option.bind_some, Option.bind_none, kont_v, kont_n, AH_40, nl]
    · cases acc with
      | none =>
        have hA : ls = 1000000 := hA
        exact absurd (by rw [hA]; exact nI_lt (b := 1000000) (by omega) (by decide)) nl
      | some y =>
        obtain ⟨a1, a2, a3⟩ := hA
        have : y.1 ≤ pcs c w 2 := by
          by_cases q : y.1 ≤ pcs c w 2
          · exact q
          · exact absurd (by rw [a1]; exact nI_lt (by omega) (by omega)) nl
        cases eb : bst P (okr P) (fun w => pcs c w n) (n - 2) 2 w with
        | none => rw [cmb_nr]; exact ⟨a1, a2, a3⟩
        | some z =>
          have := bst_lo (n - 2) 2 w z (by omega) eb
          rw [cmb_ss, if_neg (by omega)]
          exact ⟨a1, a2, a3⟩
end TF252
section TF251
variable {X : MX} {B : MH} {P n R : Nat} {c : Nat → Nat → Nat} {sd cl : Nat → Int32}
theorem c_tfl251 (hP1 : 1 ≤ P) (hP : P ≤ 3) (hn : n ≤ 12) (h44 : hg B 44 = oB 10 [.int (nI 12), .int (nI 12), .ref 45, .int (nI R)]) (hc : ∀ k j, k < n → j < k → cl (k * 12 + j) = nI (c k j)) (T : TF X B P n c sd cl 252 (1 + 1)) (hk : 1 < n) {w : Nat → Nat} : ∀ (d p : Nat) (acc : WY) (ch be : Nat → Int32) (ls : Int32), p + d = P → (∀ i, i < 1 → ch i = nI (w i) ∧ w i < 2 ^ 31) → ACL n acc ls be → ∃ ch' be' ls', ev X 251 46 [.ref 40, .int (nI 1), .int (nI (pcs c w 1)), .int (nI p)] [] (AH B (nI n) (nI P) ls sd ch be cl) = some (none, (AH B (nI n) (nI P) ls' sd ch' be' cl)) ∧ (∀ i, i < 1 → ch' i = nI (w i)) ∧ ACL n (cmb acc (fol (fun p => if okr P 1 w p = true then bst P (okr P) (fun w => pcs c w n) (n - (1 + 1)) (1 + 1) (fu w 1 p) else none) d p)) ls' be' := by
  intro d
  induction d with
  | zero =>
    intro p acc ch be ls e hw hA
    have e : p = P := by omega
    have l := nI_nlt (Nat.le_refl P) (by omega)
    refine ⟨ch, be, ls, ?_, fun i hi => (hw i hi).1, by rw [fol, cmb_nr]; exact hA⟩
    rw [e, s251_46]
    simp only [s251_0, s251_1, s251_2, s251_5, s251_8, s251_9, s251_10, s251_11, s251_14, s251_17, s251_18, s251_20, s251_23, s251_24, s251_25, s251_28, s251_29, s251_32, s251_33, s251_34, s251_37, s251_38, s251_40, s251_43, s251_44, s251_45, s251_47, s251_48, s251_51, s251_54, s251_55, s251_56, s251_57, s251_60, s251_63, s251_64, s251_67, s251_68, s251_69, s251_70, s251_71, s251_72, s251_73, s251_74, s251_75, s251_76, s251_77, s251_78, s251_81, s251_82, s251_85, s251_88, s251_91, okF, okA, mcC_o, mcF_o, mcT_i, mcT_l, mcT_z, mcT_q, mcN_i, mcN_l, mcN_z, mcN_q, mcI_i, mcI_z, mcL_l, mcQ_q, hg_hp, hp_hp, List.getD_cons_zero, List.getD_cons_succ, List.set_cons_zero, List.set_cons_succ, List.length_cons, List.length_nil, Nat.reduceAdd, Nat.reduceLT, Nat.reduceEqDiff, Nat.lt_add_one, decide_true, decide_false, Bool.and_true, Bool.true_and, Bool.and_false, Bool.false_and, Bool.false_eq_true, if_true, if_false, ↓reduceIte, Option.bind_some, Option.bind_none, kont_v, kont_n, AH_40, l]
  | succ d ih =>
    intro p acc ch be ls e hw hA
    have l := nI_lt (show p < P by omega) (by omega)
    have p1 : nI p + 1 = nI (p + 1) := nI_add p 1
    have op := c_isOpen (X := X) (B := B) (mn := nI n) (ls := ls) (sd := sd) (ch := ch) (be := be) (cl := cl) (w := w) (k := 1) (p := p) (by omega) hP1 hP (by omega) hw
    rw [fol, ← cmb_assoc]
    by_cases o : okr P 1 w p = true
    · rw [if_pos o] at op
      rw [if_pos o]
      have r1 : inR (nI 1) 12 = true := by decide
      have c1 : (nI 1).toNatClampNeg = 1 := nI_clamp (by omega)
      have one0 : ¬ (1 : Int32) = 0 := by decide
      have hw' : ∀ i, i < 1 → upd ch 1 (nI p) i = nI (w i) ∧ w i < 2 ^ 31 := fun i hi => ⟨by rw [upd_ne (by omega)]; exact (hw i hi).1, (hw i hi).2⟩
      have cf := c_costOf (X := X) (B := B) (mn := nI n) (pl := nI P) (ls := ls) (sd := sd) (ch := upd ch 1 (nI p)) (be := be) (cl := cl) (w := w) (c := c) (k := 1) (p := p) h44 (by omega) (by omega) hw' (fun j hj => hc 1 j hk hj)
      obtain ⟨ch2, be2, ls2, e2, w2, A2⟩ := T (by omega) (fu w 1 p) acc (upd ch 1 (nI p)) be ls (fun i hi => by
        by_cases q : i = 1
        · rw [q, upd_eq, fu_s]; exact ⟨rfl, by omega⟩
        · rw [upd_ne q, fu_n _ _ q]; exact hw i (by omega)) hA
      rw [pcs_fu, ← nI_add (pcs c w 1) (cof c w 1 p 1), show 1 + 1 = 2 from rfl] at e2
      have d1 : nI 1 + 1 = nI 2 := nI_add 1 1
      obtain ⟨ch3, be3, ls3, e3, w3, A3⟩ := ih (p + 1) _ ch2 be2 ls2 (by omega) (fun i hi => ⟨by rw [w2 i (by omega), fu_n _ _ (by omega)], (hw i hi).2⟩) A2
      refine ⟨ch3, be3, ls3, ?_, w3, A3⟩
      rw [← e3, s251_46]
      simp only [s251_0, s251_1, s251_2, s251_5, s251_8, s251_9, s251_10, s251_11, s251_14, s251_17, s251_18, s251_20, s251_23, s251_24, s251_25, s251_28, s251_29, s251_32, s251_33, s251_34, s251_37, s251_38, s251_40, s251_43, s251_44, s251_45, s251_47, s251_48, s251_51, s251_54, s251_55, s251_56, s251_57, s251_60, s251_63, s251_64, s251_67, s251_68, s251_69, s251_70, s251_71, s251_72, s251_73, s251_74, s251_75, s251_76, s251_77, s251_78, s251_81, s251_82, s251_85, s251_88, s251_91, okF, okA, mcC_o, mcF_o, mcT_i, mcT_l, mcT_z, mcT_q, mcN_i, mcN_l, mcN_z, mcN_q, mcI_i, mcI_z, mcL_l, mcQ_q, hg_hp, hp_hp, List.getD_cons_zero, List.getD_cons_succ, List.set_cons_zero, List.set_cons_succ, List.length_cons, List.length_nil, Nat.reduceAdd, Nat.reduceLT, Nat.reduceEqDiff, Nat.lt_add_one, decide_true, decide_false, Bool.and_true, Bool.true_and, Bool.and_false, Bool.false_and, Bool.false_eq_true, if_true, if_false, ↓reduceIte, Option.bind_some, Option.bind_none, kont_v, kont_n, AH_40, AH_42, AHp_42, isO0_o, l, op, one0, r1, c1, cf, d1, e2, p1]
    · rw [if_neg o] at op
      rw [if_neg o, cmb_nr]
      obtain ⟨ch3, be3, ls3, e3, w3, A3⟩ := ih (p + 1) acc ch be ls (by omega) hw hA
      refine ⟨ch3, be3, ls3, ?_, w3, A3⟩
      rw [← e3, s251_46]
      simp only [s251_0, s251_1, s251_2, s251_5, s251_8, s251_9, s251_10, s251_11, s251_14, s251_17, s251_18, s251_20, s251_23, s251_24, s251_25, s251_28, s251_29, s251_32, s251_33, s251_34, s251_37, s251_38, s251_40, s251_43, s251_44, s251_45, s251_47, s251_48, s251_51, s251_54, s251_55, s251_56, s251_57, s251_60, s251_63, s251_64, s251_67, s251_68, s251_69, s251_70, s251_71, s251_72, s251_73, s251_74, s251_75, s251_76, s251_77, s251_78, s251_81, s251_82, s251_85, s251_88, s251_91, okF, okA, mcC_o, mcF_o, mcT_i, mcT_l, mcT_z, mcT_q, mcN_i, mcN_l, mcN_z, mcN_q, mcI_i, mcI_z, mcL_l, mcQ_q, hg_hp, hp_hp, List.getD_cons_zero, List.getD_cons_succ, List.set_cons_zero, List.set_cons_succ, List.length_cons, List.length_nil, Nat.reduceAdd, Nat.reduceLT, Nat.reduceEqDiff, Nat.lt_add_one, decide_true, decide_false, Bool.and_true, Bool.true_and, Bool.and_false, Bool.false_and, Bool.false_eq_true, if_true, if_false, ↓reduceIte, Option.bind_some, Option.bind_none, kont_v, kont_n, AH_40, l, op, p1]
theorem c_tf251 (hP1 : 1 ≤ P) (hP : P ≤ 3) (hn : n ≤ 12) (h44 : hg B 44 = oB 10 [.int (nI 12), .int (nI 12), .ref 45, .int (nI R)]) (hc3 : ∀ k j, c k j ≤ 3) (hc : ∀ k j, k < n → j < k → cl (k * 12 + j) = nI (c k j)) (T : TF X B P n c sd cl 252 (1 + 1)) : TF X B P n c sd cl 251 1 := by
  intro hk w acc ch be ls hw hA
  have pl := pcs_le hc3 (w := w) 1 (by omega)
  have leaf : 1 = n → nI (pcs c w 1) < ls → ∃ ch' be' ls', ev X 251 0 [.ref 40, .int (nI 1), .int (nI (pcs c w 1)), .float 0] [] (AH B (nI n) (nI P) ls sd ch be cl) = some (none, (AH B (nI n) (nI P) ls' sd ch' be' cl)) ∧ (∀ i, i < 1 → ch' i = nI (w i)) ∧ ACL n (some (pcs c w n, w)) ls' be' := fun en lt => by
    have l2 : ¬ nI 1 < nI n := nI_nlt (by omega) (by omega)
    have ok := okC_n (N := 12) (f := ch) (g := be) (by decide)
    have ok : okC (iA 12 ch) (iA 12 be) 0 0 12 = true := ok
    refine ⟨ch, cpf 12 ch be, nI (pcs c w 1), ?_, fun i hi => (hw i hi).1, by rw [← en], by rw [← en]; omega, fun i hi => by rw [cpf_lt (by omega)]; exact (hw i (by omega)).1⟩
    have cz : (0 : Int32).toNatClampNeg = 0 := by decide
    have c12 : (12 : Int32).toNatClampNeg = 12 := by decide
    simp only [s251_0, s251_1, s251_2, s251_5, s251_8, s251_9, s251_10, s251_11, s251_14, s251_17, s251_18, s251_20, s251_23, s251_24, s251_25, s251_28, s251_29, s251_32, s251_33, s251_34, s251_37, s251_38, s251_40, s251_43, s251_44, s251_45, s251_47, s251_48, s251_51, s251_54, s251_55, s251_56, s251_57, s251_60, s251_63, s251_64, s251_67, s251_68, s251_69, s251_70, s251_71, s251_72, s251_73, s251_74, s251_75, s251_76, s251_77, s251_78, s251_81, s251_82, s251_85, s251_88, s251_91, okF, okA, mcC_o, mcF_o, mcT_i, mcT_l, mcT_z, mcT_q, mcN_i, mcN_l, mcN_z, mcN_q, mcI_i, mcI_z, mcL_l, mcQ_q, hg_hp, hp_hp, List.getD_cons_zero, List.getD_cons_succ, List.set_cons_zero, List.set_cons_succ, List.length_cons, List.length_nil, Nat.reduceAdd, Nat.reduceLT, Nat.reduceEqDiff, Nat.lt_add_one, decide_true, decide_false, Bool.and_true, Bool.true_and, Bool.and_false, Bool.false_and, Bool.false_eq_true, if_true, if_false, ↓reduceIte, Option.bind_some, Option.bind_none, kont_v, kont_n, AH_40, AH_42, AH_43, AHp_40, lt, l2, ok, cz, c12]
    rw [AHp_43]
    rfl
  by_cases lt : nI (pcs c w 1) < ls
  · by_cases en : 1 = n
    · have eb : bst P (okr P) (fun w => pcs c w n) (n - 1) 1 w = some (pcs c w n, w) := by rw [show n - 1 = 0 by omega]; rfl
      obtain ⟨ch', be', ls', e1, e2, e3⟩ := leaf en lt
      refine ⟨ch', be', ls', e1, e2, ?_⟩
      rw [eb]
      cases acc with
      | none => exact e3
      | some y =>
        obtain ⟨a1, a2, a3⟩ := hA
        rw [a1] at lt
        have := (nI_ltI (by omega) (by omega)).mp lt
        rw [en] at this
        rw [cmb_ss, if_pos this]
        exact e3
    · obtain ⟨ch', be', ls', e1, e2, e3⟩ := c_tfl251 hP1 hP hn h44 hc T (by omega) (w := w) P 0 acc ch be ls (by omega) hw hA
      have l2 : nI 1 < nI n := nI_lt (by omega) (by omega)
      have l3 : nI 1 < (12 : Int32) := by decide
      rw [← TFL_done (m := n - 1 - 1) (by omega)] at e3
      refine ⟨ch', be', ls', ?_, e2, e3⟩
      have e1 : ev X 251 46 [.ref 40, .int (nI 1), .int (nI (pcs c w 1)), .int 0] [] (AH B (nI n) (nI P) ls sd ch be cl) = _ := e1
      simp only [s251_0, s251_1, s251_2, s251_5, s251_8, s251_9, s251_10, s251_11, s251_14, s251_17, s251_18, s251_20, s251_23, s251_24, s251_25, s251_28, s251_29, s251_32, s251_33, s251_34, s251_37, s251_38, s251_40, s251_43, s251_44, s251_45, s251_47, s251_48, s251_51, s251_54, s251_55, s251_56, s251_57, s251_60, s251_63, s251_64, s251_67, s251_68, s251_69, s251_70, s251_71, s251_72, s251_73, s251_74, s251_75, s251_76, s251_77, s251_78, s251_81, s251_82, s251_85, s251_88, s251_91, okF, okA, mcC_o, mcF_o, mcT_i, mcT_l, mcT_z, mcT_q, mcN_i, mcN_l, mcN_z, mcN_q, mcI_i, mcI_z, mcL_l, mcQ_q, hg_hp, hp_hp, List.getD_cons_zero, List.getD_cons_succ, List.set_cons_zero, List.set_cons_succ, List.length_cons, List.length_nil, Nat.reduceAdd, Nat.reduceLT, Nat.reduceEqDiff, Nat.lt_add_one, decide_true, decide_false, Bool.and_true, Bool.true_and, Bool.and_false, Bool.false_and, Bool.false_eq_true, if_true, if_false, ↓reduceIte, Option.bind_some, Option.bind_none, kont_v, kont_n, AH_40, lt, l2, l3, e1]
  · have nl := lt
    refine ⟨ch, be, ls, ?_, fun i hi => (hw i hi).1, ?_⟩
    · simp only [s251_0, s251_1, s251_2, s251_5, s251_8, s251_9, s251_10, s251_11, s251_14, s251_17, s251_18, s251_20, s251_23, s251_24, s251_25, s251_28, s251_29, s251_32, s251_33, s251_34, s251_37, s251_38, s251_40, s251_43, s251_44, s251_45, s251_47, s251_48, s251_51, s251_54, s251_55, s251_56, s251_57, s251_60, s251_63, s251_64, s251_67, s251_68, s251_69, s251_70, s251_71, s251_72, s251_73, s251_74, s251_75, s251_76, s251_77, s251_78, s251_81, s251_82, s251_85, s251_88, s251_91, okF, okA, mcC_o, mcF_o, mcT_i, mcT_l, mcT_z, mcT_q, mcN_i, mcN_l, mcN_z, mcN_q, mcI_i, mcI_z, mcL_l, mcQ_q, hg_hp, hp_hp, List.getD_cons_zero, List.getD_cons_succ, List.set_cons_zero, List.set_cons_succ, List.length_cons, List.length_nil, Nat.reduceAdd, Nat.reduceLT, Nat.reduceEqDiff, Nat.lt_add_one, decide_true, decide_false, Bool.and_true, Bool.true_and, Bool.and_false, Bool.false_and, Bool.false_eq_true, if_true, if_false, ↓reduceIte, Option.bind_some, Option.bind_none, kont_v, kont_n, AH_40, nl]
    · cases acc with
      | none =>
        have hA : ls = 1000000 := hA
        exact absurd (by rw [hA]; exact nI_lt (b := 1000000) (by omega) (by decide)) nl
      | some y =>
        obtain ⟨a1, a2, a3⟩ := hA
        have : y.1 ≤ pcs c w 1 := by
          by_cases q : y.1 ≤ pcs c w 1
          · exact q
          · exact absurd (by rw [a1]; exact nI_lt (by omega) (by omega)) nl
        cases eb : bst P (okr P) (fun w => pcs c w n) (n - 1) 1 w with
        | none => rw [cmb_nr]; exact ⟨a1, a2, a3⟩
        | some z =>
          have := bst_lo (n - 1) 1 w z (by omega) eb
          rw [cmb_ss, if_neg (by omega)]
          exact ⟨a1, a2, a3⟩
end TF251
section TF250
variable {X : MX} {B : MH} {P n R : Nat} {c : Nat → Nat → Nat} {sd cl : Nat → Int32}
theorem c_tfl250 (hP1 : 1 ≤ P) (hP : P ≤ 3) (hn : n ≤ 12) (h44 : hg B 44 = oB 10 [.int (nI 12), .int (nI 12), .ref 45, .int (nI R)]) (hc : ∀ k j, k < n → j < k → cl (k * 12 + j) = nI (c k j)) (T : TF X B P n c sd cl 251 (0 + 1)) (hk : 0 < n) {w : Nat → Nat} : ∀ (d p : Nat) (acc : WY) (ch be : Nat → Int32) (ls : Int32), p + d = P → (∀ i, i < 0 → ch i = nI (w i) ∧ w i < 2 ^ 31) → ACL n acc ls be → ∃ ch' be' ls', ev X 250 46 [.ref 40, .int (nI 0), .int (nI (pcs c w 0)), .int (nI p)] [] (AH B (nI n) (nI P) ls sd ch be cl) = some (none, (AH B (nI n) (nI P) ls' sd ch' be' cl)) ∧ (∀ i, i < 0 → ch' i = nI (w i)) ∧ ACL n (cmb acc (fol (fun p => if okr P 0 w p = true then bst P (okr P) (fun w => pcs c w n) (n - (0 + 1)) (0 + 1) (fu w 0 p) else none) d p)) ls' be' := by
  intro d
  induction d with
  | zero =>
    intro p acc ch be ls e hw hA
    have e : p = P := by omega
    have l := nI_nlt (Nat.le_refl P) (by omega)
    refine ⟨ch, be, ls, ?_, fun i hi => (hw i hi).1, by rw [fol, cmb_nr]; exact hA⟩
    rw [e, s250_46]
    simp only [s250_0, s250_1, s250_2, s250_5, s250_8, s250_9, s250_10, s250_11, s250_14, s250_17, s250_18, s250_20, s250_23, s250_24, s250_25, s250_28, s250_29, s250_32, s250_33, s250_34, s250_37, s250_38, s250_40, s250_43, s250_44, s250_45, s250_47, s250_48, s250_51, s250_54, s250_55, s250_56, s250_57, s250_60, s250_63, s250_64, s250_67, s250_68, s250_69, s250_70, s250_71, s250_72, s250_73, s250_74, s250_75, s250_76, s250_77, s250_78, s250_81, s250_82, s250_85, s250_88, s250_91, okF, okA, mcC_o, mcF_o, mcT_i, mcT_l, mcT_z, mcT_q, mcN_i, mcN_l, mcN_z, mcN_q, mcI_i, mcI_z, mcL_l, mcQ_q, hg_hp, hp_hp, List.getD_cons_zero, List.getD_cons_succ, List.set_cons_zero, List.set_cons_succ, List.length_cons, List.length_nil, Nat.reduceAdd, Nat.reduceLT, Nat.reduceEqDiff, Nat.lt_add_one, decide_true, decide_false, Bool.and_true, Bool.true_and, Bool.and_false, Bool.false_and, Bool.false_eq_true, if_true, if_false, ↓reduceIte, Option.bind_some, Option.bind_none, kont_v, kont_n, AH_40, l]
  | succ d ih =>
    intro p acc ch be ls e hw hA
    have l := nI_lt (show p < P by omega) (by omega)
    have p1 : nI p + 1 = nI (p + 1) := nI_add p 1
    have op := c_isOpen (X := X) (B := B) (mn := nI n) (ls := ls) (sd := sd) (ch := ch) (be := be) (cl := cl) (w := w) (k := 0) (p := p) (by omega) hP1 hP (by omega) hw
    rw [fol, ← cmb_assoc]
    by_cases o : okr P 0 w p = true
    · rw [if_pos o] at op
      rw [if_pos o]
      have r1 : inR (nI 0) 12 = true := by decide
      have c1 : (nI 0).toNatClampNeg = 0 := nI_clamp (by omega)
      have one0 : ¬ (1 : Int32) = 0 := by decide
      have hw' : ∀ i, i < 0 → upd ch 0 (nI p) i = nI (w i) ∧ w i < 2 ^ 31 := fun i hi => ⟨by rw [upd_ne (by omega)]; exact (hw i hi).1, (hw i hi).2⟩
      have cf := c_costOf (X := X) (B := B) (mn := nI n) (pl := nI P) (ls := ls) (sd := sd) (ch := upd ch 0 (nI p)) (be := be) (cl := cl) (w := w) (c := c) (k := 0) (p := p) h44 (by omega) (by omega) hw' (fun j hj => hc 0 j hk hj)
      obtain ⟨ch2, be2, ls2, e2, w2, A2⟩ := T (by omega) (fu w 0 p) acc (upd ch 0 (nI p)) be ls (fun i hi => by
        by_cases q : i = 0
        · rw [q, upd_eq, fu_s]; exact ⟨rfl, by omega⟩
        · rw [upd_ne q, fu_n _ _ q]; exact hw i (by omega)) hA
      rw [pcs_fu, ← nI_add (pcs c w 0) (cof c w 0 p 0), show 0 + 1 = 1 from rfl] at e2
      have d1 : nI 0 + 1 = nI 1 := nI_add 0 1
      obtain ⟨ch3, be3, ls3, e3, w3, A3⟩ := ih (p + 1) _ ch2 be2 ls2 (by omega) (fun i hi => ⟨by rw [w2 i (by omega), fu_n _ _ (by omega)], (hw i hi).2⟩) A2
      refine ⟨ch3, be3, ls3, ?_, w3, A3⟩
      rw [← e3, s250_46]
      simp only [s250_0, s250_1, s250_2, s250_5, s250_8, s250_9, s250_10, s250_11, s250_14, s250_17, s250_18, s250_20, s250_23, s250_24, s250_25, s250_28, s250_29, s250_32, s250_33, s250_34, s250_37, s250_38, s250_40, s250_43, s250_44, s250_45, s250_47, s250_48, s250_51, s250_54, s250_55, s250_56, s250_57, s250_60, s250_63, s250_64, s250_67, s250_68, s250_69, s250_70, s250_71, s250_72, s250_73, s250_74, s250_75, s250_76, s250_77, s250_78, s250_81, s250_82, s250_85, s250_88, s250_91, okF, okA, mcC_o, mcF_o, mcT_i, mcT_l, mcT_z, mcT_q, mcN_i, mcN_l, mcN_z, mcN_q, mcI_i, mcI_z, mcL_l, mcQ_q, hg_hp, hp_hp, List.getD_cons_zero, List.getD_cons_succ, List.set_cons_zero, List.set_cons_succ, List.length_cons, List.length_nil, Nat.reduceAdd, Nat.reduceLT, Nat.reduceEqDiff, Nat.lt_add_one, decide_true, decide_false, Bool.and_true, Bool.true_and, Bool.and_false, Bool.false_and, Bool.false_eq_true, if_true, if_false, ↓reduceIte, Option.bind_some, Option.bind_none, kont_v, kont_n, AH_40, AH_42, AHp_42, isO0_o, l, op, one0, r1, c1, cf, d1, e2, p1]
    · rw [if_neg o] at op
      rw [if_neg o, cmb_nr]
      obtain ⟨ch3, be3, ls3, e3, w3, A3⟩ := ih (p + 1) acc ch be ls (by omega) hw hA
      refine ⟨ch3, be3, ls3, ?_, w3, A3⟩
      rw [← e3, s250_46]
      simp only [s250_0, s250_1, s250_2, s250_5, s250_8, s250_9, s250_10, s250_11, s250_14, s250_17, s250_18, s250_20, s250_23, s250_24, s250_25, s250_28, s250_29, s250_32, s250_33, s250_34, s250_37, s250_38, s250_40, s250_43, s250_44, s250_45, s250_47, s250_48, s250_51, s250_54, s250_55, s250_56, s250_57, s250_60, s250_63, s250_64, s250_67, s250_68, s250_69, s250_70, s250_71, s250_72, s250_73, s250_74, s250_75, s250_76, s250_77, s250_78, s250_81, s250_82, s250_85, s250_88, s250_91, okF, okA, mcC_o, mcF_o, mcT_i, mcT_l, mcT_z, mcT_q, mcN_i, mcN_l, mcN_z, mcN_q, mcI_i, mcI_z, mcL_l, mcQ_q, hg_hp, hp_hp, List.getD_cons_zero, List.getD_cons_succ, List.set_cons_zero, List.set_cons_succ, List.length_cons, List.length_nil, Nat.reduceAdd, Nat.reduceLT, Nat.reduceEqDiff, Nat.lt_add_one, decide_true, decide_false, Bool.and_true, Bool.true_and, Bool.and_false, Bool.false_and, Bool.false_eq_true, if_true, if_false, ↓reduceIte, Option.bind_some, Option.bind_none, kont_v, kont_n, AH_40, l, op, p1]
theorem c_tf250 (hP1 : 1 ≤ P) (hP : P ≤ 3) (hn : n ≤ 12) (h44 : hg B 44 = oB 10 [.int (nI 12), .int (nI 12), .ref 45, .int (nI R)]) (hc3 : ∀ k j, c k j ≤ 3) (hc : ∀ k j, k < n → j < k → cl (k * 12 + j) = nI (c k j)) (T : TF X B P n c sd cl 251 (0 + 1)) : TF X B P n c sd cl 250 0 := by
  intro hk w acc ch be ls hw hA
  have pl := pcs_le hc3 (w := w) 0 (by omega)
  have leaf : 0 = n → nI (pcs c w 0) < ls → ∃ ch' be' ls', ev X 250 0 [.ref 40, .int (nI 0), .int (nI (pcs c w 0)), .float 0] [] (AH B (nI n) (nI P) ls sd ch be cl) = some (none, (AH B (nI n) (nI P) ls' sd ch' be' cl)) ∧ (∀ i, i < 0 → ch' i = nI (w i)) ∧ ACL n (some (pcs c w n, w)) ls' be' := fun en lt => by
    have l2 : ¬ nI 0 < nI n := nI_nlt (by omega) (by omega)
    have ok := okC_n (N := 12) (f := ch) (g := be) (by decide)
    have ok : okC (iA 12 ch) (iA 12 be) 0 0 12 = true := ok
    refine ⟨ch, cpf 12 ch be, nI (pcs c w 0), ?_, fun i hi => (hw i hi).1, by rw [← en], by rw [← en]; omega, fun i hi => by rw [cpf_lt (by omega)]; exact (hw i (by omega)).1⟩
    have cz : (0 : Int32).toNatClampNeg = 0 := by decide
    have c12 : (12 : Int32).toNatClampNeg = 12 := by decide
    simp only [s250_0, s250_1, s250_2, s250_5, s250_8, s250_9, s250_10, s250_11, s250_14, s250_17, s250_18, s250_20, s250_23, s250_24, s250_25, s250_28, s250_29, s250_32, s250_33, s250_34, s250_37, s250_38, s250_40, s250_43, s250_44, s250_45, s250_47, s250_48, s250_51, s250_54, s250_55, s250_56, s250_57, s250_60, s250_63, s250_64, s250_67, s250_68, s250_69, s250_70, s250_71, s250_72, s250_73, s250_74, s250_75, s250_76, s250_77, s250_78, s250_81, s250_82, s250_85, s250_88, s250_91, okF, okA, mcC_o, mcF_o, mcT_i, mcT_l, mcT_z, mcT_q, mcN_i, mcN_l, mcN_z, mcN_q, mcI_i, mcI_z, mcL_l, mcQ_q, hg_hp, hp_hp, List.getD_cons_zero, List.getD_cons_succ, List.set_cons_zero, List.set_cons_succ, List.length_cons, List.length_nil, Nat.reduceAdd, Nat.reduceLT, Nat.reduceEqDiff, Nat.lt_add_one, decide_true, decide_false, Bool.and_true, Bool.true_and, Bool.and_false, Bool.false_and, Bool.false_eq_true, if_true, if_false, ↓reduceIte, Option.bind_some, Option.bind_none, kont_v, kont_n, AH_40, AH_42, AH_43, AHp_40, lt, l2, ok, cz, c12]
    rw [AHp_43]
    rfl
  by_cases lt : nI (pcs c w 0) < ls
  · by_cases en : 0 = n
    · have eb : bst P (okr P) (fun w => pcs c w n) (n - 0) 0 w = some (pcs c w n, w) := by rw [show n - 0 = 0 by omega]; rfl
      obtain ⟨ch', be', ls', e1, e2, e3⟩ := leaf en lt
      refine ⟨ch', be', ls', e1, e2, ?_⟩
      rw [eb]
      cases acc with
      | none => exact e3
      | some y =>
        obtain ⟨a1, a2, a3⟩ := hA
        rw [a1] at lt
        have := (nI_ltI (by omega) (by omega)).mp lt
        rw [en] at this
        rw [cmb_ss, if_pos this]
        exact e3
    · obtain ⟨ch', be', ls', e1, e2, e3⟩ := c_tfl250 hP1 hP hn h44 hc T (by omega) (w := w) P 0 acc ch be ls (by omega) hw hA
      have l2 : nI 0 < nI n := nI_lt (by omega) (by omega)
      have l3 : nI 0 < (12 : Int32) := by decide
      rw [← TFL_done (m := n - 0 - 1) (by omega)] at e3
      refine ⟨ch', be', ls', ?_, e2, e3⟩
      have e1 : ev X 250 46 [.ref 40, .int (nI 0), .int (nI (pcs c w 0)), .int 0] [] (AH B (nI n) (nI P) ls sd ch be cl) = _ := e1
      simp only [s250_0, s250_1, s250_2, s250_5, s250_8, s250_9, s250_10, s250_11, s250_14, s250_17, s250_18, s250_20, s250_23, s250_24, s250_25, s250_28, s250_29, s250_32, s250_33, s250_34, s250_37, s250_38, s250_40, s250_43, s250_44, s250_45, s250_47, s250_48, s250_51, s250_54, s250_55, s250_56, s250_57, s250_60, s250_63, s250_64, s250_67, s250_68, s250_69, s250_70, s250_71, s250_72, s250_73, s250_74, s250_75, s250_76, s250_77, s250_78, s250_81, s250_82, s250_85, s250_88, s250_91, okF, okA, mcC_o, mcF_o, mcT_i, mcT_l, mcT_z, mcT_q, mcN_i, mcN_l, mcN_z, mcN_q, mcI_i, mcI_z, mcL_l, mcQ_q, hg_hp, hp_hp, List.getD_cons_zero, List.getD_cons_succ, List.set_cons_zero, List.set_cons_succ, List.length_cons, List.length_nil, Nat.reduceAdd, Nat.reduceLT, Nat.reduceEqDiff, Nat.lt_add_one, decide_true, decide_false, Bool.and_true, Bool.true_and, Bool.and_false, Bool.false_and, Bool.false_eq_true, if_true, if_false, ↓reduceIte, Option.bind_some, Option.bind_none, kont_v, kont_n, AH_40, lt, l2, l3, e1]
  · have nl := lt
    refine ⟨ch, be, ls, ?_, fun i hi => (hw i hi).1, ?_⟩
    · simp only [s250_0, s250_1, s250_2, s250_5, s250_8, s250_9, s250_10, s250_11, s250_14, s250_17, s250_18, s250_20, s250_23, s250_24, s250_25, s250_28, s250_29, s250_32, s250_33, s250_34, s250_37, s250_38, s250_40, s250_43, s250_44, s250_45, s250_47, s250_48, s250_51, s250_54, s250_55, s250_56, s250_57, s250_60, s250_63, s250_64, s250_67, s250_68, s250_69, s250_70, s250_71, s250_72, s250_73, s250_74, s250_75, s250_76, s250_77, s250_78, s250_81, s250_82, s250_85, s250_88, s250_91, okF, okA, mcC_o, mcF_o, mcT_i, mcT_l, mcT_z, mcT_q, mcN_i, mcN_l, mcN_z, mcN_q, mcI_i, mcI_z, mcL_l, mcQ_q, hg_hp, hp_hp, List.getD_cons_zero, List.getD_cons_succ, List.set_cons_zero, List.set_cons_succ, List.length_cons, List.length_nil, Nat.reduceAdd, Nat.reduceLT, Nat.reduceEqDiff, Nat.lt_add_one, decide_true, decide_false, Bool.and_true, Bool.true_and, Bool.and_false, Bool.false_and, Bool.false_eq_true, if_true, if_false, ↓reduceIte, Option.bind_some, Option.bind_none, kont_v, kont_n, AH_40, nl]
    · cases acc with
      | none =>
        have hA : ls = 1000000 := hA
        exact absurd (by rw [hA]; exact nI_lt (b := 1000000) (by omega) (by decide)) nl
      | some y =>
        obtain ⟨a1, a2, a3⟩ := hA
        have : y.1 ≤ pcs c w 0 := by
          by_cases q : y.1 ≤ pcs c w 0
          · exact q
          · exact absurd (by rw [a1]; exact nI_lt (by omega) (by omega)) nl
        cases eb : bst P (okr P) (fun w => pcs c w n) (n - 0) 0 w with
        | none => rw [cmb_nr]; exact ⟨a1, a2, a3⟩
        | some z =>
          have := bst_lo (n - 0) 0 w z (by omega) eb
          rw [cmb_ss, if_neg (by omega)]
          exact ⟨a1, a2, a3⟩
end TF250

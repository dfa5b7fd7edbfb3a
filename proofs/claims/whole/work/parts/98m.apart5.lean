-- APART 5: all ways of the reference
def AG (X : MX) (B : MH) (Z : Nat → Int32) (P n m : Nat) (POST : Option (Option Value × MH) → Prop) (k : Nat) (w : Nat → Nat) (dg : Int32) (acc : WY) : Prop := (∀ i, i < k → w i < P) → ∀ (a4 : Value) (wa v : Nat → Int32) (bc : Int32), (∀ i, i < k → wa i = nI (w i)) → wa k = dg → ACC n acc bc v → POST (ev X 210 19 [.ref 55, .int (nI m), .int (nI P), .int (nI k), a4] [] (PWH B Z bc wa v))
def AB (X : MX) (B : MH) (Z : Nat → Int32) (P n m : Nat) (POST : Option (Option Value × MH) → Prop) (k : Nat) (w : Nat → Nat) (acc : WY) : Prop := (∀ i, i < k → w i < P) → ∀ (a4 : Value) (wa v : Nat → Int32) (bc : Int32), (∀ i, i < k → wa i = nI (w i)) → ACC n acc bc v → POST (ev X 210 19 [.ref 55, .int (nI m), .int (nI P), .int (kv k), a4] [] (PWH B Z bc wa v))
section AP5
variable {X : MX} {t : Nat} {h B : MH} {D : LD} {S : Nat → Int32} {Z : Nat → Int32} {sq : Nat → Int32} {sd : Nat → Nat} {n : Nat}
theorem m_aleaf (h56 : hg B 56 = iA 16450 S) (h77 : hg B 77 = iA 16 sq) (z5 : Z 5 = nI n) (R : REL D S) (hn : n ≤ 12) (hs : ∀ i, i < n → sq i = nI (sd i) ∧ sd i < 16) {k p : Nat} {w : Nat → Nat} {bc : Int32} {wa v : Nat → Int32} {a1 a2 a4 : Value} {acc : WY} (ww : ∀ j, j < n → wa j = nI (fu w k p j) ∧ fu w k p j < 4) (hA : ACC n acc bc v) : ∃ bc' v' a4', ACC n (cmb acc (some (pcs (fun k j => clN D (sd k) (sd j)) (fu w k p) n, fu w k p))) bc' v' ∧ ev X 210 81 [.ref 55, a1, a2, .int (nI k), a4] [] (PWH B Z bc wa v) = ev X 210 19 [.ref 55, a1, a2, .int (nI k), a4'] [] (PWH B Z bc' wa v') := by
  have cl := fun bc => m_clashes (X := X) (B := B) (Z := Z) (bc := bc) (v := v) h56 h77 z5 R hn hs ww
  have cp := fun bc => m_ac_lp (X := X) (B := B) (Z := Z) (bc := bc) (wa := wa) (v := v) (a1 := a1) (a2 := a2) (a3 := .int (nI k)) z5 hn n 0 (by omega)
  have pl := pcs_le (c := fun k j => clN D (sd k) (sd j)) (fun _ _ => clN_le D _ _) (w := fu w k p) n hn
  have pl2 : 36 * n ≤ 432 := by omega
  rw [cpj_0, nI_0] at cp
  generalize pcs (fun k j => clN D (sd k) (sd j)) (fu w k p) n = q at cl pl ⊢
  have new : ACC n (some (q, fu w k p)) (nI q) (cpj wa v n) := ⟨rfl, by show q < 1000000; omega, fun i hi => by unfold cpj; rw [if_pos hi]; exact (ww i hi).1⟩
  cases acc with
  | none =>
    have hA : bc = -1 := hA
    refine ⟨_, _, .int (nI n), new, ?_⟩
    subst hA
    simp only [s210_0, s210_1, s210_2, s210_5, s210_6, s210_7, s210_10, s210_11, s210_12, s210_13, s210_16, s210_17, s210_18, s210_20, s210_23, s210_24, s210_27, s210_28, s210_29, s210_30, s210_31, s210_32, s210_33, s210_34, s210_37, s210_38, s210_39, s210_40, s210_43, s210_46, s210_49, s210_50, s210_51, s210_52, s210_55, s210_58, s210_59, s210_60, s210_61, s210_62, s210_65, s210_68, s210_71, s210_72, s210_75, s210_76, s210_77, s210_78, s210_81, s210_82, s210_85, s210_86, s210_89, s210_90, s210_93, s210_94, s210_97, s210_100, s210_101, s210_102, s210_105, s210_108, s210_109, s210_113, s210_114, s210_117, s210_120, s210_121, s210_124, s210_126, s210_127, s210_130, s210_132, s210_133, s210_134, s210_137, s210_140, s210_143, okF, okA, mcC_o, mcF_o, mcT_i, mcT_l, mcT_z, mcT_q, mcN_i, mcN_l, mcN_z, mcN_q, mcI_i, mcI_z, mcL_l, mcQ_q, hg_hp, hp_hp, List.getD_cons_zero, List.getD_cons_succ, List.set_cons_zero, List.set_cons_succ, List.length_cons, List.length_nil, Nat.reduceAdd, Nat.reduceLT, Nat.reduceEqDiff, Nat.lt_add_one, decide_true, decide_false, Bool.and_true, Bool.true_and, Bool.and_false, Bool.false_and, Bool.false_eq_true, if_true, if_false, ↓reduceIte, Option.bind_some, Option.bind_none, kont_v, kont_n, PWH_55, PWHp_55, MO_len, MO_31, MOs_31, cl, cp]
  | some y =>
    obtain ⟨hA1, hA2, hA3⟩ := hA
    have nm : (nI y.1 = (-1 : Int32)) = False := eq_false (nI_m1 (by omega))
    rw [cmb_ss]
    by_cases lt : q < y.1
    · have l := nI_lt lt (by omega)
      refine ⟨_, _, .int (nI n), by rw [if_pos lt]; exact new, ?_⟩
      subst hA1
      simp only [s210_0, s210_1, s210_2, s210_5, s210_6, s210_7, s210_10, s210_11, s210_12, s210_13, s210_16, s210_17, s210_18, s210_20, s210_23, s210_24, s210_27, s210_28, s210_29, s210_30, s210_31, s210_32, s210_33, s210_34, s210_37, s210_38, s210_39, s210_40, s210_43, s210_46, s210_49, s210_50, s210_51, s210_52, s210_55, s210_58, s210_59, s210_60, s210_61, s210_62, s210_65, s210_68, s210_71, s210_72, s210_75, s210_76, s210_77, s210_78, s210_81, s210_82, s210_85, s210_86, s210_89, s210_90, s210_93, s210_94, s210_97, s210_100, s210_101, s210_102, s210_105, s210_108, s210_109, s210_113, s210_114, s210_117, s210_120, s210_121, s210_124, s210_126, s210_127, s210_130, s210_132, s210_133, s210_134, s210_137, s210_140, s210_143, okF, okA, mcC_o, mcF_o, mcT_i, mcT_l, mcT_z, mcT_q, mcN_i, mcN_l, mcN_z, mcN_q, mcI_i, mcI_z, mcL_l, mcQ_q, hg_hp, hp_hp, List.getD_cons_zero, List.getD_cons_succ, List.set_cons_zero, List.set_cons_succ, List.length_cons, List.length_nil, Nat.reduceAdd, Nat.reduceLT, Nat.reduceEqDiff, Nat.lt_add_one, decide_true, decide_false, Bool.and_true, Bool.true_and, Bool.and_false, Bool.false_and, Bool.false_eq_true, if_true, if_false, ↓reduceIte, Option.bind_some, Option.bind_none, kont_v, kont_n, PWH_55, PWHp_55, MO_len, MO_31, MOs_31, cl, cp, nm, l]
    · have l := nI_nlt (a := q) (b := y.1) (by omega) (by omega)
      refine ⟨bc, v, a4, by rw [if_neg lt]; exact ⟨hA1, hA2, hA3⟩, ?_⟩
      subst hA1
      simp only [s210_0, s210_1, s210_2, s210_5, s210_6, s210_7, s210_10, s210_11, s210_12, s210_13, s210_16, s210_17, s210_18, s210_20, s210_23, s210_24, s210_27, s210_28, s210_29, s210_30, s210_31, s210_32, s210_33, s210_34, s210_37, s210_38, s210_39, s210_40, s210_43, s210_46, s210_49, s210_50, s210_51, s210_52, s210_55, s210_58, s210_59, s210_60, s210_61, s210_62, s210_65, s210_68, s210_71, s210_72, s210_75, s210_76, s210_77, s210_78, s210_81, s210_82, s210_85, s210_86, s210_89, s210_90, s210_93, s210_94, s210_97, s210_100, s210_101, s210_102, s210_105, s210_108, s210_109, s210_113, s210_114, s210_117, s210_120, s210_121, s210_124, s210_126, s210_127, s210_130, s210_132, s210_133, s210_134, s210_137, s210_140, s210_143, okF, okA, mcC_o, mcF_o, mcT_i, mcT_l, mcT_z, mcT_q, mcN_i, mcN_l, mcN_z, mcN_q, mcI_i, mcI_z, mcL_l, mcQ_q, hg_hp, hp_hp, List.getD_cons_zero, List.getD_cons_succ, List.set_cons_zero, List.set_cons_succ, List.length_cons, List.length_nil, Nat.reduceAdd, Nat.reduceLT, Nat.reduceEqDiff, Nat.lt_add_one, decide_true, decide_false, Bool.and_true, Bool.true_and, Bool.and_false, Bool.false_and, Bool.false_eq_true, if_true, if_false, ↓reduceIte, Option.bind_some, Option.bind_none, kont_v, kont_n, PWH_55, PWHp_55, MO_len, MO_31, MOs_31, cl, nm, l]
theorem m_aodo (h56 : hg B 56 = iA 16450 S) (h77 : hg B 77 = iA 16 sq) (z5 : Z 5 = nI n) (R : REL D S) (hn : n ≤ 12) (hn1 : 1 ≤ n) (hs : ∀ i, i < n → sq i = nI (sd i) ∧ sd i < 16) {m P : Nat} (hP1 : 1 ≤ P) (hP : P ≤ 3) {POST : Option (Option Value × MH) → Prop} {w : Nat → Nat} (F : AB X B Z P n m POST 0 w (bst P (okf P) (fun w => pcs (fun k j => clN D (sd k) (sd j)) w n) n 0 w)) : AG X B Z P n m POST 0 w (-1) none := by
  have rk : ∀ k, k < n → inR (nI k) 12 = true ∧ (nI k).toNatClampNeg = k ∧ ¬ nI k < 0 := fun k hk => ⟨inR_n (by omega) (by decide), nI_clamp (by omega), nI_pos (by omega)⟩
  have one0 : ¬ (1 : Int32) = 0 := by decide
  have key := odo (P := P) (n := n) (ok := okf P) (cost := fun w => pcs (fun k j => clN D (sd k) (sd j)) w n) (G := AG X B Z P n m POST) (BK := AB X B Z P n m POST) ?_ ?_ ?_ ?_ ?_ (n - 1) 0 w (by omega) P 0 none (by omega)
  · rw [show nI 0 - 1 = (-1 : Int32) by decide] at key
    apply key
    rw [cmb_nl]
    have e : bst P (okf P) (fun w => pcs (fun k j => clN D (sd k) (sd j)) w n) n 0 w = bst P (okf P) (fun w => pcs (fun k j => clN D (sd k) (sd j)) w n) (n - 1 + 1) 0 w := by rw [Nat.sub_add_cancel hn1]
    rw [e] at F
    exact F
  · -- back
    intro k w p acc hk hp g w8 a4 wa v bc hw hA
    have ek : kv (k + 1) = nI k := rfl
    rw [ek]
    refine g (fun i hi => ?_) a4 wa v bc (fun i hi => ?_) ?_ hA
    · have := w8 i (by omega)
      rw [fu_n _ _ (by omega)] at this
      exact this
    · rw [hw i (by omega), fu_n _ _ (by omega)]
    · rw [hw k (by omega), fu_s]
  · -- no more at this depth
    intro k w acc hk b w8 a4 wa v bc hw hd hA
    obtain ⟨r1, c1, l1⟩ := rk k hk
    have p1 : nI k + -1 = kv k := by rw [← kv_pred, Int32.sub_eq_add_neg]
    have p2 : wa k + 1 = nI P := by rw [hd]; exact Int32.sub_add_cancel _ _
    have := b w8 a4 (upd wa k (nI P)) v bc (fun i hi => by rw [upd_ne (by omega)]; exact hw i hi) hA
    have e : ev X 210 19 [.ref 55, .int (nI m), .int (nI P), .int (nI k), a4] [] (PWH B Z bc wa v) = ev X 210 19 [.ref 55, .int (nI m), .int (nI P), .int (kv k), a4] [] (PWH B Z bc (upd wa k (nI P)) v) := by
      conv => lhs; rw [s210_19]
      simp only [s210_0, s210_1, s210_2, s210_5, s210_6, s210_7, s210_10, s210_11, s210_12, s210_13, s210_16, s210_17, s210_18, s210_20, s210_23, s210_24, s210_27, s210_28, s210_29, s210_30, s210_31, s210_32, s210_33, s210_34, s210_37, s210_38, s210_39, s210_40, s210_43, s210_46, s210_49, s210_50, s210_51, s210_52, s210_55, s210_58, s210_59, s210_60, s210_61, s210_62, s210_65, s210_68, s210_71, s210_72, s210_75, s210_76, s210_77, s210_78, s210_81, s210_82, s210_85, s210_86, s210_89, s210_90, s210_93, s210_94, s210_97, s210_100, s210_101, s210_102, s210_105, s210_108, s210_109, s210_113, s210_114, s210_117, s210_120, s210_121, s210_124, s210_126, s210_127, s210_130, s210_132, s210_133, s210_134, s210_137, s210_140, s210_143, okF, okA, mcC_o, mcF_o, mcT_i, mcT_l, mcT_z, mcT_q, mcN_i, mcN_l, mcN_z, mcN_q, mcI_i, mcI_z, mcL_l, mcQ_q, hg_hp, hp_hp, List.getD_cons_zero, List.getD_cons_succ, List.set_cons_zero, List.set_cons_succ, List.length_cons, List.length_nil, Nat.reduceAdd, Nat.reduceLT, Nat.reduceEqDiff, Nat.lt_add_one, decide_true, decide_false, Bool.and_true, Bool.true_and, Bool.and_false, Bool.false_and, Bool.false_eq_true, if_true, if_false, ↓reduceIte, Option.bind_some, Option.bind_none, kont_v, kont_n, PWH_55, PWH_79, PWHp_79, MO_len, MO_29, r1, c1, l1, p1, p2, upd_eq]
    rw [e]
    exact this
  · -- can not
    intro k w p acc hk hp o g w8 a4 wa v bc hw hd hA
    obtain ⟨r1, c1, l1⟩ := rk k hk
    have p2 : wa k + 1 = nI p := by rw [hd]; exact Int32.sub_add_cancel _ _
    have ne : (nI p = nI P) = False := eq_false (fun z => by have := (nI_eq (by omega) (by omega)).mp z; omega)
    have ms := m_isFree (X := X) (B := B) (Z := Z) (bc := bc) (v := v) (wa := upd wa k (nI p)) (w := w) (k := k) (p := p) (by omega) hP1 hP hp upd_eq (fun j hj => ⟨by rw [upd_ne (by omega)]; exact hw j hj, by have := w8 j hj; omega⟩)
    rw [if_neg o] at ms
    have := g w8 a4 (upd wa k (nI p)) v bc (fun i hi => by rw [upd_ne (by omega)]; exact hw i hi) upd_eq hA
    have e : ev X 210 19 [.ref 55, .int (nI m), .int (nI P), .int (nI k), a4] [] (PWH B Z bc wa v) = ev X 210 19 [.ref 55, .int (nI m), .int (nI P), .int (nI k), a4] [] (PWH B Z bc (upd wa k (nI p)) v) := by
      conv => lhs; rw [s210_19]
      simp only [s210_0, s210_1, s210_2, s210_5, s210_6, s210_7, s210_10, s210_11, s210_12, s210_13, s210_16, s210_17, s210_18, s210_20, s210_23, s210_24, s210_27, s210_28, s210_29, s210_30, s210_31, s210_32, s210_33, s210_34, s210_37, s210_38, s210_39, s210_40, s210_43, s210_46, s210_49, s210_50, s210_51, s210_52, s210_55, s210_58, s210_59, s210_60, s210_61, s210_62, s210_65, s210_68, s210_71, s210_72, s210_75, s210_76, s210_77, s210_78, s210_81, s210_82, s210_85, s210_86, s210_89, s210_90, s210_93, s210_94, s210_97, s210_100, s210_101, s210_102, s210_105, s210_108, s210_109, s210_113, s210_114, s210_117, s210_120, s210_121, s210_124, s210_126, s210_127, s210_130, s210_132, s210_133, s210_134, s210_137, s210_140, s210_143, okF, okA, mcC_o, mcF_o, mcT_i, mcT_l, mcT_z, mcT_q, mcN_i, mcN_l, mcN_z, mcN_q, mcI_i, mcI_z, mcL_l, mcQ_q, hg_hp, hp_hp, List.getD_cons_zero, List.getD_cons_succ, List.set_cons_zero, List.set_cons_succ, List.length_cons, List.length_nil, Nat.reduceAdd, Nat.reduceLT, Nat.reduceEqDiff, Nat.lt_add_one, decide_true, decide_false, Bool.and_true, Bool.true_and, Bool.and_false, Bool.false_and, Bool.false_eq_true, if_true, if_false, ↓reduceIte, Option.bind_some, Option.bind_none, kont_v, kont_n, PWH_55, PWH_79, PWHp_79, MO_len, MO_29, r1, c1, l1, p2, upd_eq, ne, ms]
    rw [e]
    exact this
  · -- one deeper
    intro k w p acc hk hp o g w8 a4 wa v bc hw hd hA
    obtain ⟨r1, c1, l1⟩ := rk k (by omega)
    obtain ⟨r2, c2, -⟩ := rk (k + 1) hk
    have p1 : nI k + 1 = nI (k + 1) := nI_add k 1
    have p2 : wa k + 1 = nI p := by rw [hd]; exact Int32.sub_add_cancel _ _
    have ne : (nI p = nI P) = False := eq_false (fun z => by have := (nI_eq (by omega) (by omega)).mp z; omega)
    have l2 := nI_lt hk (show n < 2 ^ 31 by omega)
    have ms := m_isFree (X := X) (B := B) (Z := Z) (bc := bc) (v := v) (wa := upd wa k (nI p)) (w := w) (k := k) (p := p) (by omega) hP1 hP hp upd_eq (fun j hj => ⟨by rw [upd_ne (by omega)]; exact hw j hj, by have := w8 j hj; omega⟩)
    rw [if_pos o] at ms
    have := g (fun i hi => by
      by_cases q : i = k
      · rw [q, fu_s]; omega
      · rw [fu_n _ _ q]; exact w8 i (by omega)) a4 (upd (upd wa k (nI p)) (k + 1) (-1)) v bc (fun i hi => by
      rw [upd_ne (by omega)]
      by_cases q : i = k
      · rw [q, upd_eq, fu_s]
      · rw [upd_ne q, fu_n _ _ q]; exact hw i (by omega)) upd_eq hA
    have e : ev X 210 19 [.ref 55, .int (nI m), .int (nI P), .int (nI k), a4] [] (PWH B Z bc wa v) = ev X 210 19 [.ref 55, .int (nI m), .int (nI P), .int (nI (k + 1)), a4] [] (PWH B Z bc (upd (upd wa k (nI p)) (k + 1) (-1)) v) := by
      conv => lhs; rw [s210_19]
      simp only [s210_0, s210_1, s210_2, s210_5, s210_6, s210_7, s210_10, s210_11, s210_12, s210_13, s210_16, s210_17, s210_18, s210_20, s210_23, s210_24, s210_27, s210_28, s210_29, s210_30, s210_31, s210_32, s210_33, s210_34, s210_37, s210_38, s210_39, s210_40, s210_43, s210_46, s210_49, s210_50, s210_51, s210_52, s210_55, s210_58, s210_59, s210_60, s210_61, s210_62, s210_65, s210_68, s210_71, s210_72, s210_75, s210_76, s210_77, s210_78, s210_81, s210_82, s210_85, s210_86, s210_89, s210_90, s210_93, s210_94, s210_97, s210_100, s210_101, s210_102, s210_105, s210_108, s210_109, s210_113, s210_114, s210_117, s210_120, s210_121, s210_124, s210_126, s210_127, s210_130, s210_132, s210_133, s210_134, s210_137, s210_140, s210_143, okF, okA, mcC_o, mcF_o, mcT_i, mcT_l, mcT_z, mcT_q, mcN_i, mcN_l, mcN_z, mcN_q, mcI_i, mcI_z, mcL_l, mcQ_q, hg_hp, hp_hp, List.getD_cons_zero, List.getD_cons_succ, List.set_cons_zero, List.set_cons_succ, List.length_cons, List.length_nil, Nat.reduceAdd, Nat.reduceLT, Nat.reduceEqDiff, Nat.lt_add_one, decide_true, decide_false, Bool.and_true, Bool.true_and, Bool.and_false, Bool.false_and, Bool.false_eq_true, if_true, if_false, ↓reduceIte, Option.bind_some, Option.bind_none, kont_v, kont_n, PWH_55, PWH_79, PWHp_79, MO_len, MO_26, MO_29, z5, r1, c1, r2, c2, l1, p1, p2, upd_eq, ne, l2, ms, one0]
    rw [e]
    exact this
  · -- a whole way
    intro k w p acc hk hp o g w8 a4 wa v bc hw hd hA
    obtain ⟨r1, c1, l1⟩ := rk k (by omega)
    have p1 : nI k + 1 = nI n := by rw [← hk]; exact nI_add k 1
    have p2 : wa k + 1 = nI p := by rw [hd]; exact Int32.sub_add_cancel _ _
    have ne : (nI p = nI P) = False := eq_false (fun z => by have := (nI_eq (by omega) (by omega)).mp z; omega)
    have l2 := nI_nlt (Nat.le_refl n) (show n < 2 ^ 31 by omega)
    have ms := m_isFree (X := X) (B := B) (Z := Z) (bc := bc) (v := v) (wa := upd wa k (nI p)) (w := w) (k := k) (p := p) (by omega) hP1 hP hp upd_eq (fun j hj => ⟨by rw [upd_ne (by omega)]; exact hw j hj, by have := w8 j hj; omega⟩)
    rw [if_pos o] at ms
    obtain ⟨bc', v', a4', A', e2⟩ := m_aleaf (X := X) (Z := Z) (B := B) (a1 := .int (nI m)) (a2 := .int (nI P)) (a4 := a4) (wa := upd wa k (nI p)) (w := w) (k := k) (p := p) h56 h77 z5 R hn hs (fun i hi => by
      by_cases q : i = k
      · rw [q, upd_eq, fu_s]; exact ⟨rfl, by omega⟩
      · rw [upd_ne q, fu_n _ _ q]; exact ⟨hw i (by omega), by have := w8 i (by omega); omega⟩) hA
    have := g w8 a4' (upd wa k (nI p)) v' bc' (fun i hi => by rw [upd_ne (by omega)]; exact hw i hi) upd_eq A'
    have e : ev X 210 19 [.ref 55, .int (nI m), .int (nI P), .int (nI k), a4] [] (PWH B Z bc wa v) = ev X 210 81 [.ref 55, .int (nI m), .int (nI P), .int (nI k), a4] [] (PWH B Z bc (upd wa k (nI p)) v) := by
      conv => lhs; rw [s210_19]
      simp only [s210_0, s210_1, s210_2, s210_5, s210_6, s210_7, s210_10, s210_11, s210_12, s210_13, s210_16, s210_17, s210_18, s210_20, s210_23, s210_24, s210_27, s210_28, s210_29, s210_30, s210_31, s210_32, s210_33, s210_34, s210_37, s210_38, s210_39, s210_40, s210_43, s210_46, s210_49, s210_50, s210_51, s210_52, s210_55, s210_58, s210_59, s210_60, s210_61, s210_62, s210_65, s210_68, s210_71, s210_72, s210_75, s210_76, s210_77, s210_78, s210_82, s210_85, s210_86, s210_89, s210_90, s210_93, s210_94, s210_97, s210_100, s210_101, s210_102, s210_105, s210_108, s210_109, s210_113, s210_114, s210_117, s210_120, s210_121, s210_124, s210_126, s210_127, s210_130, s210_132, s210_133, s210_134, s210_137, s210_140, s210_143, okF, okA, mcC_o, mcF_o, mcT_i, mcT_l, mcT_z, mcT_q, mcN_i, mcN_l, mcN_z, mcN_q, mcI_i, mcI_z, mcL_l, mcQ_q, hg_hp, hp_hp, List.getD_cons_zero, List.getD_cons_succ, List.set_cons_zero, List.set_cons_succ, List.length_cons, List.length_nil, Nat.reduceAdd, Nat.reduceLT, Nat.reduceEqDiff, Nat.lt_add_one, decide_true, decide_false, Bool.and_true, Bool.true_and, Bool.and_false, Bool.false_and, Bool.false_eq_true, if_true, if_false, ↓reduceIte, Option.bind_some, Option.bind_none, kont_v, kont_n, PWH_55, PWH_79, PWHp_79, MO_len, MO_26, MO_29, z5, r1, c1, l1, p1, p2, upd_eq, ne, l2, ms, one0]
    rw [e, e2]
    exact this
theorem m_arun (h56 : hg B 56 = iA 16450 S) (h77 : hg B 77 = iA 16 sq) (z5 : Z 5 = nI n) (R : REL D S) (hn : n ≤ 12) (hn1 : 1 ≤ n) (hs : ∀ i, i < n → sq i = nI (sd i) ∧ sd i < 16) {m P : Nat} (hP1 : 1 ≤ P) (hP : P ≤ 3) {wa v : Nat → Int32} (h0 : wa 0 = -1) {RES : WY} (hR : RES = apw D sd P n) : ∃ w' v' bc', ev X 210 19 [.ref 55, .int (nI m), .int (nI P), .int 0, .float 0] [] (PWH B Z (-1) wa v) = some (none, (PWH B Z bc' w' v')) ∧ ACC n RES bc' v' := by
  have ng : (-1 : Int32) < 0 := by decide
  have od := m_aodo (X := X) (B := B) (Z := Z) (m := m) (w := w99 0) (POST := fun o => ∃ w' v' bc', o = some (none, (PWH B Z bc' w' v')) ∧ ACC n RES bc' v') h56 h77 z5 R hn hn1 hs hP1 hP
  unfold apw at hR
  rw [← hR] at od
  refine od ?_ (fun i hi => absurd hi (Nat.not_lt_zero i)) (.float 0) wa v (-1) (fun i hi => absurd hi (Nat.not_lt_zero i)) h0 rfl
  intro _ a4 wa v bc _ hA
  refine ⟨wa, v, bc, ?_, hA⟩
  show ev X 210 19 [.ref 55, .int (nI m), .int (nI P), .int (-1), a4] [] _ = _
  rw [s210_19]
  simp only [s210_0, s210_1, s210_2, s210_5, s210_6, s210_7, s210_10, s210_11, s210_12, s210_13, s210_16, s210_17, s210_18, s210_20, s210_23, s210_24, s210_27, s210_28, s210_29, s210_30, s210_31, s210_32, s210_33, s210_34, s210_37, s210_38, s210_39, s210_40, s210_43, s210_46, s210_49, s210_50, s210_51, s210_52, s210_55, s210_58, s210_59, s210_60, s210_61, s210_62, s210_65, s210_68, s210_71, s210_72, s210_75, s210_76, s210_77, s210_78, s210_81, s210_82, s210_85, s210_86, s210_89, s210_90, s210_93, s210_94, s210_97, s210_100, s210_101, s210_102, s210_105, s210_108, s210_109, s210_113, s210_114, s210_117, s210_120, s210_121, s210_124, s210_126, s210_127, s210_130, s210_132, s210_133, s210_134, s210_137, s210_140, s210_143, okF, okA, mcC_o, mcF_o, mcT_i, mcT_l, mcT_z, mcT_q, mcN_i, mcN_l, mcN_z, mcN_q, mcI_i, mcI_z, mcL_l, mcQ_q, hg_hp, hp_hp, List.getD_cons_zero, List.getD_cons_succ, List.set_cons_zero, List.set_cons_succ, List.length_cons, List.length_nil, Nat.reduceAdd, Nat.reduceLT, Nat.reduceEqDiff, Nat.lt_add_one, decide_true, decide_false, Bool.and_true, Bool.true_and, Bool.and_false, Bool.false_and, Bool.false_eq_true, if_true, if_false, ↓reduceIte, Option.bind_some, Option.bind_none, kont_v, kont_n, ng]
theorem m_ap_lp {j0 : Nat} {x : Int32} {bc : Int32} {wa v : Nat → Int32} {a1 a2 : Value} (h77 : hg B 77 = iA 16 sq) (hj : j0 < 12) (a0 : sq j0 = x) (al : ∀ i, i < j0 → ¬ sq i = x) : ∀ (d j : Nat), j + d = j0 → ev X 209 78 [.ref 55, a1, a2, .int x, .int (nI j)] [] (PWH B Z bc wa v) = some (some (.int (v j0)), (PWH B Z bc wa v)) := by
  intro d
  induction d with
  | zero =>
    intro j q
    have q : j = j0 := by omega
    have r1 : inR (nI j) 12 = true := inR_n (by omega) (by decide)
    have r2 : inR (nI j) 16 = true := inR_n (by omega) (by decide)
    have c1 : (nI j).toNatClampNeg = j := nI_clamp (by omega)
    subst q
    rw [s209_78]
    simp only [s209_0, s209_1, s209_2, s209_3, s209_6, s209_9, s209_12, s209_13, s209_16, s209_17, s209_19, s209_22, s209_25, s209_26, s209_27, s209_28, s209_31, s209_34, s209_35, s209_36, s209_39, s209_40, s209_41, s209_42, s209_45, s209_48, s209_49, s209_50, s209_51, s209_52, s209_53, s209_56, s209_58, s209_59, s209_60, s209_61, s209_62, s209_65, s209_66, s209_67, s209_70, s209_71, s209_74, s209_75, s209_76, s209_79, s209_82, s209_84, s209_85, s209_86, s209_89, s209_92, s209_95, s209_96, s209_99, s209_101, s209_102, okF, okA, mcC_o, mcF_o, mcT_i, mcT_l, mcT_z, mcT_q, mcN_i, mcN_l, mcN_z, mcN_q, mcI_i, mcI_z, mcL_l, mcQ_q, hg_hp, hp_hp, List.getD_cons_zero, List.getD_cons_succ, List.set_cons_zero, List.set_cons_succ, List.length_cons, List.length_nil, Nat.reduceAdd, Nat.reduceLT, Nat.reduceEqDiff, Nat.lt_add_one, decide_true, decide_false, Bool.and_true, Bool.true_and, Bool.and_false, Bool.false_and, Bool.false_eq_true, if_true, if_false, ↓reduceIte, Option.bind_some, Option.bind_none, kont_v, kont_n, PWH_55, PWH_77, h77, PWH_80, MO_len, MO_27, MO_30, r1, r2, c1, a0]
  | succ d ih =>
    intro j q
    have p1 : nI j + 1 = nI (j + 1) := nI_add j 1
    have r2 : inR (nI j) 16 = true := inR_n (by omega) (by decide)
    have c1 : (nI j).toNatClampNeg = j := nI_clamp (by omega)
    have ea := eq_false (al j (by omega))
    rw [← ih (j + 1) (by omega), s209_78]
    simp only [s209_0, s209_1, s209_2, s209_3, s209_6, s209_9, s209_12, s209_13, s209_16, s209_17, s209_19, s209_22, s209_25, s209_26, s209_27, s209_28, s209_31, s209_34, s209_35, s209_36, s209_39, s209_40, s209_41, s209_42, s209_45, s209_48, s209_49, s209_50, s209_51, s209_52, s209_53, s209_56, s209_58, s209_59, s209_60, s209_61, s209_62, s209_65, s209_66, s209_67, s209_70, s209_71, s209_74, s209_75, s209_76, s209_79, s209_82, s209_84, s209_85, s209_86, s209_89, s209_92, s209_95, s209_96, s209_99, s209_101, s209_102, okF, okA, mcC_o, mcF_o, mcT_i, mcT_l, mcT_z, mcT_q, mcN_i, mcN_l, mcN_z, mcN_q, mcI_i, mcI_z, mcL_l, mcQ_q, hg_hp, hp_hp, List.getD_cons_zero, List.getD_cons_succ, List.set_cons_zero, List.set_cons_succ, List.length_cons, List.length_nil, Nat.reduceAdd, Nat.reduceLT, Nat.reduceEqDiff, Nat.lt_add_one, decide_true, decide_false, Bool.and_true, Bool.true_and, Bool.and_false, Bool.false_and, Bool.false_eq_true, if_true, if_false, ↓reduceIte, Option.bind_some, Option.bind_none, kont_v, kont_n, PWH_55, PWH_77, h77, MO_len, MO_27, r2, c1, ea, p1]
end AP5

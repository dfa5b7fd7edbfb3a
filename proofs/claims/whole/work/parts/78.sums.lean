-- RANKINGS: the sums
def rcd (f : Nat → Int32) (fe we kn : Int32) (i : Nat) : Prop := f (i * 4) = fe ∧ ¬ kn < f (i * 4 + 3) ∧ ¬ wi (we - f (i * 4 + 1)) 0 51 = 0
noncomputable def rgs (f : Nat → Int32) (q : Nat) (fe we kn : Int32) : Nat → Nat × (Nat → Nat)
  | 0 => (0, fun _ => 0)
  | i + 1 => @ite _ (rcd f fe we kn i) (Classical.propDecidable _) (rst q (fnn (f (i * 4 + 2))) (rgs f q fe we kn i)) (rgs f q fe we kn i)
def sumN (g : Nat → Nat) : Nat → Nat
  | 0 => 0
  | i + 1 => sumN g i + g i
theorem sumN_z {g : Nat → Nat} {n : Nat} : ∀ d, (∀ j, n ≤ j → j < n + d → g j = 0) → sumN g (n + d) = sumN g n
  | 0, _ => rfl
  | d + 1, h => by
    show sumN g (n + d) + g (n + d) = _
    rw [h (n + d) (by omega) (by omega), sumN_z d (fun j h1 h2 => h j h1 (by omega))]
    rfl
def RSR (f : Nat → Int32) (R : Nat) : Prop := ∀ i, i < R → ∃ w p k, w < 1000 ∧ p ≤ 1000 ∧ k < 1000 ∧ f (i * 4 + 1) = nI w ∧ f (i * 4 + 2) = nI p ∧ f (i * 4 + 3) = nI k
theorem fnn_n {k : Nat} (h : k < 2 ^ 31) : fnn (nI k) = k := nI_clamp h
theorem rgs_ok {f : Nat → Int32} {R q : Nat} {fe we kn : Int32} (hq : 1 ≤ q) (hR : RSR f R) : ∀ i, i ≤ R → RIN q (rgs f q fe we kn i)
  | 0, _ => ⟨Nat.zero_le q, fun j _ => Nat.le_refl 0, fun j _ => Nat.zero_le _, fun j _ _ => rfl⟩
  | i + 1, h => by
    have ih := rgs_ok (fe := fe) (we := we) (kn := kn) hq hR i (by omega)
    obtain ⟨w, p, k, h1, h2, h3, h4, h5, h6⟩ := hR i (by omega)
    show RIN q (@ite _ _ (Classical.propDecidable _) _ _)
    by_cases c : rcd f fe we kn i
    · rw [if_pos c, h5, fnn_n (by omega)]; exact (rst_ok hq h2 ih).1
    · rw [if_neg c]; exact ih
theorem wi_wk {w v : Nat} (hw : w < 1000) (hv : v < 1000) : wi (nI v) (nI w - 51) (nI w) = wi (nI w - nI v) 0 51 := by
  have a1 : (nI w).toInt = (w : Int) := nI_toInt (by omega)
  have a2 : (nI v).toInt = (v : Int) := nI_toInt (by omega)
  have a3 : (51 : Int32).toInt = 51 := by decide
  have a4 : (nI w - 51).toInt = (w : Int) - 51 := by rw [sub_sm (by omega) (by omega) (by omega) (by omega), a1, a3]
  have a5 : (nI w - nI v).toInt = (w : Int) - v := by rw [sub_sm (by omega) (by omega) (by omega) (by omega), a1, a2]
  unfold wi
  simp only [Int32.lt_iff_toInt_lt, a1, a2, a3, a4, a5, z_toInt]
  by_cases c1 : w < v
  · rw [if_neg (show ¬ (v : Int) < (w : Int) - 51 by omega), if_pos (show (w : Int) < v by omega), if_pos (show (w : Int) - v < 0 by omega)]
  · rw [if_neg (show ¬ (w : Int) - v < 0 by omega)]
    by_cases c2 : v + 51 < w
    · rw [if_pos (show (v : Int) < (w : Int) - 51 by omega), if_pos (show (51 : Int) < (w : Int) - v by omega)]
    · rw [if_neg (show ¬ (v : Int) < (w : Int) - 51 by omega), if_neg (show ¬ (w : Int) < v by omega), if_neg (show ¬ (51 : Int) < (w : Int) - v by omega)]
section SUM
variable {X : MX} {t : Nat} {h B : MH} {D : LD} {S IM KP : Nat → Int32}
theorem c_zr_lp (h53 : hg h 53 = oB 7 [.ref 1, .ref 54]) {q : Nat} (hq : q ≤ 10) {a1 a2 a3 a6 a7 : Value} : ∀ (d i : Nat) (A : Nat → Int32), i + d = q → (∀ j, j < i → A j = nI 0) → ∃ A' : Nat → Int32, (∀ j, j < q → A' j = nI 0) ∧ ev X 74 17 [.ref 53, a1, a2, a3, .int (nI q), .int (nI i), a6, a7] [] (hp h 54 (iA 10 A)) = ev X 74 38 [.ref 53, a1, a2, a3, .int (nI q), .int (nI q), a6, a7] [] (hp h 54 (iA 10 A'))
  | 0, i, A, e, h1 => by
    have e : i = q := by omega
    subst e
    have l := nI_nlt (Nat.le_refl i) (show i < 2 ^ 31 by omega)
    refine ⟨A, h1, ?_⟩
    rw [s74_17]
    simp only [s74_0, s74_1, s74_4, s74_7, s74_9, s74_12, s74_14, s74_15, s74_19, s74_21, s74_24, s74_25, s74_28, s74_30, s74_31, s74_32, s74_35, s74_39, s74_42, s74_45, s74_47, s74_48, s74_50, s74_52, s74_54, s74_57, s74_60, s74_62, s74_64, s74_65, s74_68, s74_69, s74_72, s74_74, s74_76, s74_77, s74_80, s74_81, s74_84, s74_86, s74_88, s74_89, s74_92, s74_93, s74_95, s74_96, s74_97, s74_100, s74_103, s74_104, s74_106, s74_108, s74_109, s74_112, s74_114, s74_117, s74_120, s74_123, s74_124, s74_126, s74_127, s74_129, s74_131, s74_133, s74_136, s74_138, s74_139, s74_142, s74_144, s74_145, s74_146, s74_148, s74_151, s74_154, s74_156, okF, okA, mcC_o, mcF_o, mcT_i, mcT_l, mcT_z, mcT_q, mcN_i, mcN_l, mcN_z, mcN_q, mcI_i, mcI_z, mcL_l, mcQ_q, hg_hp, hp_hp, List.getD_cons_zero, List.getD_cons_succ, List.set_cons_zero, List.set_cons_succ, List.length_cons, List.length_nil, Nat.reduceAdd, Nat.reduceLT, Nat.reduceEqDiff, Nat.lt_add_one, decide_true, decide_false, Bool.and_true, Bool.true_and, Bool.and_false, Bool.false_and, Bool.false_eq_true, if_true, if_false, ↓reduceIte, Option.bind_some, Option.bind_none, kont_v, kont_n, l]
  | d + 1, i, A, e, h1 => by
    have l := nI_lt (show i < q by omega) (show q < 2 ^ 31 by omega)
    have p1 : nI i + 1 = nI (i + 1) := nI_add i 1
    obtain ⟨A', g1, g2⟩ := c_zr_lp h53 hq (a1 := a1) (a2 := a2) (a3 := a3) (a6 := a6) (a7 := a7) d (i + 1) (upd A i 0) (by omega) (fun j hj => by
      by_cases z : j = i
      · subst z; rw [upd_eq]; rfl
      · rw [upd_ne z]; exact h1 j (by omega))
    refine ⟨A', g1, ?_⟩
    rw [← g2, s74_17]
    simp (disch := omega) only [s74_0, s74_1, s74_4, s74_7, s74_9, s74_12, s74_14, s74_15, s74_19, s74_21, s74_24, s74_25, s74_28, s74_30, s74_31, s74_32, s74_35, s74_39, s74_42, s74_45, s74_47, s74_48, s74_50, s74_52, s74_54, s74_57, s74_60, s74_62, s74_64, s74_65, s74_68, s74_69, s74_72, s74_74, s74_76, s74_77, s74_80, s74_81, s74_84, s74_86, s74_88, s74_89, s74_92, s74_93, s74_95, s74_96, s74_97, s74_100, s74_103, s74_104, s74_106, s74_108, s74_109, s74_112, s74_114, s74_117, s74_120, s74_123, s74_124, s74_126, s74_127, s74_129, s74_131, s74_133, s74_136, s74_138, s74_139, s74_142, s74_144, s74_145, s74_146, s74_148, s74_151, s74_154, s74_156, okF, okA, mcC_o, mcF_o, mcT_i, mcT_l, mcT_z, mcT_q, mcN_i, mcN_l, mcN_z, mcN_q, mcI_i, mcI_z, mcL_l, mcQ_q, hg_hp, hp_hp, List.getD_cons_zero, List.getD_cons_succ, List.set_cons_zero, List.set_cons_succ, List.length_cons, List.length_nil, Nat.reduceAdd, Nat.reduceLT, Nat.reduceEqDiff, Nat.lt_add_one, decide_true, decide_false, Bool.and_true, Bool.true_and, Bool.and_false, Bool.false_and, Bool.false_eq_true, if_true, if_false, ↓reduceIte, Option.bind_some, Option.bind_none, kont_v, kont_n, h53, l, p1, nI_clamp, inR_n]
theorem c_rw_lp (L : LG h 1 D) (F : FIX h) {q we : Nat} {fe kn : Int32} {a7 : Value} (hq1 : 1 ≤ q) (hq : q ≤ 10) (hw : we < 1000) (hR : RSR (D.2.1 7) (D.1 7)) : ∀ (d i : Nat) (A : Nat → Int32), i + d = D.1 7 → (∀ j, j < q → A j = nI ((rgs (D.2.1 7) q fe (nI we) kn i).2 j)) → ∃ A' : Nat → Int32, (∀ j, j < q → A' j = nI ((rgs (D.2.1 7) q fe (nI we) kn (D.1 7)).2 j)) ∧ ev X 74 50 [.ref 53, .int fe, .int (nI we), .int kn, .int (nI q), .ref 16, .int (nI i), a7] [] (hp h 54 (iA 10 A)) = ev X 74 123 [.ref 53, .int fe, .int (nI we), .int kn, .int (nI q), .ref 16, .int (nI (D.1 7)), a7] [] (hp h 54 (iA 10 A'))
  | 0, i, A, e, h1 => by
    have b7 := (LBD L).2.2.2.2.2.2
    have e : i = D.1 7 := by omega
    have l := nI_nlt (Nat.le_refl (D.1 7)) (show D.1 7 < 2 ^ 31 by omega)
    subst e
    refine ⟨A, h1, ?_⟩
    rw [s74_50]
    simp only [s74_0, s74_1, s74_4, s74_7, s74_9, s74_12, s74_14, s74_15, s74_17, s74_19, s74_21, s74_24, s74_25, s74_28, s74_30, s74_31, s74_32, s74_35, s74_38, s74_39, s74_42, s74_45, s74_47, s74_48, s74_52, s74_54, s74_57, s74_60, s74_62, s74_64, s74_65, s74_68, s74_69, s74_72, s74_74, s74_76, s74_77, s74_80, s74_81, s74_84, s74_86, s74_88, s74_89, s74_92, s74_93, s74_95, s74_96, s74_97, s74_100, s74_103, s74_104, s74_106, s74_108, s74_109, s74_112, s74_114, s74_117, s74_120, s74_124, s74_126, s74_127, s74_129, s74_131, s74_133, s74_136, s74_138, s74_139, s74_142, s74_144, s74_145, s74_146, s74_148, s74_151, s74_154, s74_156, okF, okA, mcC_o, mcF_o, mcT_i, mcT_l, mcT_z, mcT_q, mcN_i, mcN_l, mcN_z, mcN_q, mcI_i, mcI_z, mcL_l, mcQ_q, hg_hp, hp_hp, List.getD_cons_zero, List.getD_cons_succ, List.set_cons_zero, List.set_cons_succ, List.length_cons, List.length_nil, Nat.reduceAdd, Nat.reduceLT, Nat.reduceEqDiff, Nat.lt_add_one, decide_true, decide_false, Bool.and_true, Bool.true_and, Bool.and_false, Bool.false_and, Bool.false_eq_true, if_true, if_false, ↓reduceIte, Option.bind_some, Option.bind_none, kont_v, kont_n, (lt7 L).1, l]
  | d + 1, i, A, e, h1 => by
    have b7 := (LBD L).2.2.2.2.2.2
    have T := lt7 (hp_lg (c := 54) (d := iA 10 A) L (by decide))
    have l := nI_lt (show i < D.1 7 by omega) (show D.1 7 < 2 ^ 31 by omega)
    have p1 : nI i + 1 = nI (i + 1) := nI_add i 1
    have g0 : (ev X 103 0 [.ref 16, .int (nI i), .int 0, .float 0] [] (hp h 54 (iA 10 A))) = some (some (.int (D.2.1 7 (i * 4))), (hp h 54 (iA 10 A))) := T.get (r := i) (q := 0) (by omega) (by decide)
    have g1 : (ev X 103 0 [.ref 16, .int (nI i), .int 1, .float 0] [] (hp h 54 (iA 10 A))) = some (some (.int (D.2.1 7 (i * 4 + 1))), (hp h 54 (iA 10 A))) := T.get (r := i) (q := 1) (by omega) (by decide)
    have g2 : (ev X 103 0 [.ref 16, .int (nI i), .int 2, .float 0] [] (hp h 54 (iA 10 A))) = some (some (.int (D.2.1 7 (i * 4 + 2))), (hp h 54 (iA 10 A))) := T.get (r := i) (q := 2) (by omega) (by decide)
    have g3 : (ev X 103 0 [.ref 16, .int (nI i), .int 3, .float 0] [] (hp h 54 (iA 10 A))) = some (some (.int (D.2.1 7 (i * 4 + 3))), (hp h 54 (iA 10 A))) := T.get (r := i) (q := 3) (by omega) (by decide)
    obtain ⟨w, p, k, k1, k2, k3, k4, k5, k6⟩ := hR i (by omega)
    have ew : wi (D.2.1 7 (i * 4 + 1)) (nI we - 51) (nI we) = wi (nI we - D.2.1 7 (i * 4 + 1)) 0 51 := by rw [k4]; exact wi_wk hw k1
    have er : rgs (D.2.1 7) q fe (nI we) kn (i + 1) = @ite _ (rcd (D.2.1 7) fe (nI we) kn i) (Classical.propDecidable _) (rst q (fnn (D.2.1 7 (i * 4 + 2))) (rgs (D.2.1 7) q fe (nI we) kn i)) (rgs (D.2.1 7) q fe (nI we) kn i) := rfl
    by_cases c : rcd (D.2.1 7) fe (nI we) kn i
    · have ok := rgs_ok (fe := fe) (we := nI we) (kn := kn) hq1 hR i (by omega)
      obtain ⟨-, p', hP, hE⟩ := rst_ok hq1 k2 ok
      rw [if_pos c, k5, fnn_n (by omega)] at er
      obtain ⟨A1, u1, u2⟩ := c_keep (X := X) F.c53 hq ok.2.1 hP ok.2.2.1 k2 h1
      obtain ⟨A', v1, v2⟩ := c_rw_lp L F (a7 := a7) hq1 hq hw hR d (i + 1) A1 (by omega) (fun j hj => by rw [er, hE j hj]; exact u1 j hj)
      obtain ⟨c1, c2, c3⟩ := c
      refine ⟨A', v1, ?_⟩
      rw [← v2, s74_50]
      simp only [s74_0, s74_1, s74_4, s74_7, s74_9, s74_12, s74_14, s74_15, s74_17, s74_19, s74_21, s74_24, s74_25, s74_28, s74_30, s74_31, s74_32, s74_35, s74_38, s74_39, s74_42, s74_45, s74_47, s74_48, s74_52, s74_54, s74_57, s74_60, s74_62, s74_64, s74_65, s74_68, s74_69, s74_72, s74_74, s74_76, s74_77, s74_80, s74_81, s74_84, s74_86, s74_88, s74_89, s74_92, s74_93, s74_95, s74_96, s74_97, s74_100, s74_103, s74_104, s74_106, s74_108, s74_109, s74_112, s74_114, s74_117, s74_120, s74_124, s74_126, s74_127, s74_129, s74_131, s74_133, s74_136, s74_138, s74_139, s74_142, s74_144, s74_145, s74_146, s74_148, s74_151, s74_154, s74_156, okF, okA, mcC_o, mcF_o, mcT_i, mcT_l, mcT_z, mcT_q, mcN_i, mcN_l, mcN_z, mcN_q, mcI_i, mcI_z, mcL_l, mcQ_q, hg_hp, hp_hp, List.getD_cons_zero, List.getD_cons_succ, List.set_cons_zero, List.set_cons_succ, List.length_cons, List.length_nil, Nat.reduceAdd, Nat.reduceLT, Nat.reduceEqDiff, Nat.lt_add_one, decide_true, decide_false, Bool.and_true, Bool.true_and, Bool.and_false, Bool.false_and, Bool.false_eq_true, if_true, if_false, ↓reduceIte, Option.bind_some, Option.bind_none, kont_v, kont_n, (lt7 L).1, F.c53, l, p1, g0, g1, g2, g3, c_within, ew, eq_true c1, eq_false c2, eq_false c3, k5, u2]
    · rw [if_neg c] at er
      obtain ⟨A', v1, v2⟩ := c_rw_lp L F (a7 := a7) hq1 hq hw hR d (i + 1) A (by omega) (fun j hj => by rw [er]; exact h1 j hj)
      refine ⟨A', v1, ?_⟩
      rw [← v2, s74_50]
      by_cases c1 : D.2.1 7 (i * 4) = fe
      · by_cases c2 : kn < D.2.1 7 (i * 4 + 3)
        · simp only [s74_0, s74_1, s74_4, s74_7, s74_9, s74_12, s74_14, s74_15, s74_17, s74_19, s74_21, s74_24, s74_25, s74_28, s74_30, s74_31, s74_32, s74_35, s74_38, s74_39, s74_42, s74_45, s74_47, s74_48, s74_52, s74_54, s74_57, s74_60, s74_62, s74_64, s74_65, s74_68, s74_69, s74_72, s74_74, s74_76, s74_77, s74_80, s74_81, s74_84, s74_86, s74_88, s74_89, s74_92, s74_93, s74_95, s74_96, s74_97, s74_100, s74_103, s74_104, s74_106, s74_108, s74_109, s74_112, s74_114, s74_117, s74_120, s74_124, s74_126, s74_127, s74_129, s74_131, s74_133, s74_136, s74_138, s74_139, s74_142, s74_144, s74_145, s74_146, s74_148, s74_151, s74_154, s74_156, okF, okA, mcC_o, mcF_o, mcT_i, mcT_l, mcT_z, mcT_q, mcN_i, mcN_l, mcN_z, mcN_q, mcI_i, mcI_z, mcL_l, mcQ_q, hg_hp, hp_hp, List.getD_cons_zero, List.getD_cons_succ, List.set_cons_zero, List.set_cons_succ, List.length_cons, List.length_nil, Nat.reduceAdd, Nat.reduceLT, Nat.reduceEqDiff, Nat.lt_add_one, decide_true, decide_false, Bool.and_true, Bool.true_and, Bool.and_false, Bool.false_and, Bool.false_eq_true, if_true, if_false, ↓reduceIte, Option.bind_some, Option.bind_none, kont_v, kont_n, (lt7 L).1, F.c53, l, p1, g0, g1, g2, g3, c_within, ew, eq_true c1, eq_true c2]
        · have c3 : wi (nI we - D.2.1 7 (i * 4 + 1)) 0 51 = 0 := Classical.byContradiction (fun z => c ⟨c1, c2, z⟩)
          simp only [s74_0, s74_1, s74_4, s74_7, s74_9, s74_12, s74_14, s74_15, s74_17, s74_19, s74_21, s74_24, s74_25, s74_28, s74_30, s74_31, s74_32, s74_35, s74_38, s74_39, s74_42, s74_45, s74_47, s74_48, s74_52, s74_54, s74_57, s74_60, s74_62, s74_64, s74_65, s74_68, s74_69, s74_72, s74_74, s74_76, s74_77, s74_80, s74_81, s74_84, s74_86, s74_88, s74_89, s74_92, s74_93, s74_95, s74_96, s74_97, s74_100, s74_103, s74_104, s74_106, s74_108, s74_109, s74_112, s74_114, s74_117, s74_120, s74_124, s74_126, s74_127, s74_129, s74_131, s74_133, s74_136, s74_138, s74_139, s74_142, s74_144, s74_145, s74_146, s74_148, s74_151, s74_154, s74_156, okF, okA, mcC_o, mcF_o, mcT_i, mcT_l, mcT_z, mcT_q, mcN_i, mcN_l, mcN_z, mcN_q, mcI_i, mcI_z, mcL_l, mcQ_q, hg_hp, hp_hp, List.getD_cons_zero, List.getD_cons_succ, List.set_cons_zero, List.set_cons_succ, List.length_cons, List.length_nil, Nat.reduceAdd, Nat.reduceLT, Nat.reduceEqDiff, Nat.lt_add_one, decide_true, decide_false, Bool.and_true, Bool.true_and, Bool.and_false, Bool.false_and, Bool.false_eq_true, if_true, if_false, ↓reduceIte, Option.bind_some, Option.bind_none, kont_v, kont_n, (lt7 L).1, F.c53, l, p1, g0, g1, g2, g3, c_within, ew, eq_true c1, eq_false c2, c3]
      · simp only [s74_0, s74_1, s74_4, s74_7, s74_9, s74_12, s74_14, s74_15, s74_17, s74_19, s74_21, s74_24, s74_25, s74_28, s74_30, s74_31, s74_32, s74_35, s74_38, s74_39, s74_42, s74_45, s74_47, s74_48, s74_52, s74_54, s74_57, s74_60, s74_62, s74_64, s74_65, s74_68, s74_69, s74_72, s74_74, s74_76, s74_77, s74_80, s74_81, s74_84, s74_86, s74_88, s74_89, s74_92, s74_93, s74_95, s74_96, s74_97, s74_100, s74_103, s74_104, s74_106, s74_108, s74_109, s74_112, s74_114, s74_117, s74_120, s74_124, s74_126, s74_127, s74_129, s74_131, s74_133, s74_136, s74_138, s74_139, s74_142, s74_144, s74_145, s74_146, s74_148, s74_151, s74_154, s74_156, okF, okA, mcC_o, mcF_o, mcT_i, mcT_l, mcT_z, mcT_q, mcN_i, mcN_l, mcN_z, mcN_q, mcI_i, mcI_z, mcL_l, mcQ_q, hg_hp, hp_hp, List.getD_cons_zero, List.getD_cons_succ, List.set_cons_zero, List.set_cons_succ, List.length_cons, List.length_nil, Nat.reduceAdd, Nat.reduceLT, Nat.reduceEqDiff, Nat.lt_add_one, decide_true, decide_false, Bool.and_true, Bool.true_and, Bool.and_false, Bool.false_and, Bool.false_eq_true, if_true, if_false, ↓reduceIte, Option.bind_some, Option.bind_none, kont_v, kont_n, (lt7 L).1, F.c53, l, p1, g0, g1, g2, g3, c_within, ew, eq_false c1]
theorem c_sm_lp (h53 : hg h 53 = oB 7 [.ref 1, .ref 54]) {q : Nat} (hq : q ≤ 10) {a1 a2 a3 a5 : Value} {A : Nat → Int32} {g : Nat → Nat} (hA : ∀ j, j < q → A j = nI (g j)) : ∀ (d i : Nat), i + d = q → ev X 74 129 [.ref 53, a1, a2, a3, .int (nI q), a5, .int (nI (sumN g i)), .int (nI i)] [] (hp h 54 (iA 10 A)) = some (some (.int (nI (sumN g q))), (hp h 54 (iA 10 A)))
  | 0, i, e => by
    have e : i = q := by omega
    subst e
    have l := nI_nlt (Nat.le_refl i) (show i < 2 ^ 31 by omega)
    rw [s74_129]
    simp only [s74_0, s74_1, s74_4, s74_7, s74_9, s74_12, s74_14, s74_15, s74_17, s74_19, s74_21, s74_24, s74_25, s74_28, s74_30, s74_31, s74_32, s74_35, s74_38, s74_39, s74_42, s74_45, s74_47, s74_48, s74_50, s74_52, s74_54, s74_57, s74_60, s74_62, s74_64, s74_65, s74_68, s74_69, s74_72, s74_74, s74_76, s74_77, s74_80, s74_81, s74_84, s74_86, s74_88, s74_89, s74_92, s74_93, s74_95, s74_96, s74_97, s74_100, s74_103, s74_104, s74_106, s74_108, s74_109, s74_112, s74_114, s74_117, s74_120, s74_123, s74_124, s74_126, s74_127, s74_131, s74_133, s74_136, s74_138, s74_139, s74_142, s74_144, s74_145, s74_146, s74_148, s74_151, s74_154, s74_156, okF, okA, mcC_o, mcF_o, mcT_i, mcT_l, mcT_z, mcT_q, mcN_i, mcN_l, mcN_z, mcN_q, mcI_i, mcI_z, mcL_l, mcQ_q, hg_hp, hp_hp, List.getD_cons_zero, List.getD_cons_succ, List.set_cons_zero, List.set_cons_succ, List.length_cons, List.length_nil, Nat.reduceAdd, Nat.reduceLT, Nat.reduceEqDiff, Nat.lt_add_one, decide_true, decide_false, Bool.and_true, Bool.true_and, Bool.and_false, Bool.false_and, Bool.false_eq_true, if_true, if_false, ↓reduceIte, Option.bind_some, Option.bind_none, kont_v, kont_n, l]
  | d + 1, i, e => by
    have l := nI_lt (show i < q by omega) (show q < 2 ^ 31 by omega)
    have p1 : nI i + 1 = nI (i + 1) := nI_add i 1
    have ih := c_sm_lp h53 hq (a1 := a1) (a2 := a2) (a3 := a3) (a5 := a5) hA d (i + 1) (by omega)
    have es : nI (sumN g i) + A i = nI (sumN g (i + 1)) := by rw [hA i (by omega)]; exact nI_add _ _
    rw [← ih, s74_129]
    simp (disch := omega) only [s74_0, s74_1, s74_4, s74_7, s74_9, s74_12, s74_14, s74_15, s74_17, s74_19, s74_21, s74_24, s74_25, s74_28, s74_30, s74_31, s74_32, s74_35, s74_38, s74_39, s74_42, s74_45, s74_47, s74_48, s74_50, s74_52, s74_54, s74_57, s74_60, s74_62, s74_64, s74_65, s74_68, s74_69, s74_72, s74_74, s74_76, s74_77, s74_80, s74_81, s74_84, s74_86, s74_88, s74_89, s74_92, s74_93, s74_95, s74_96, s74_97, s74_100, s74_103, s74_104, s74_106, s74_108, s74_109, s74_112, s74_114, s74_117, s74_120, s74_123, s74_124, s74_126, s74_127, s74_131, s74_133, s74_136, s74_138, s74_139, s74_142, s74_144, s74_145, s74_146, s74_148, s74_151, s74_154, s74_156, okF, okA, mcC_o, mcF_o, mcT_i, mcT_l, mcT_z, mcT_q, mcN_i, mcN_l, mcN_z, mcN_q, mcI_i, mcI_z, mcL_l, mcQ_q, hg_hp, hp_hp, List.getD_cons_zero, List.getD_cons_succ, List.set_cons_zero, List.set_cons_succ, List.length_cons, List.length_nil, Nat.reduceAdd, Nat.reduceLT, Nat.reduceEqDiff, Nat.lt_add_one, decide_true, decide_false, Bool.and_true, Bool.true_and, Bool.and_false, Bool.false_and, Bool.false_eq_true, if_true, if_false, ↓reduceIte, Option.bind_some, Option.bind_none, kont_v, kont_n, h53, l, p1, nI_clamp, inR_n, es]
noncomputable def rks (D : LD) (q : Nat) (fe we kn : Int32) : Nat := sumN (rgs (D.2.1 7) q fe we kn (D.1 7)).2 q
theorem c_sumOf (L : LG h 1 D) (F : FIX h) {q we : Nat} {fe kn : Int32} (eq : D.2.2 = nI q) (hq1 : 1 ≤ q) (hq : q ≤ 10) (hw : we < 1000) (hR : RSR (D.2.1 7) (D.1 7)) (A : Nat → Int32) : ∃ A', (ev X 74 0 [.ref 53, .int fe, .int (nI we), .int kn, .float 0, .float 0, .float 0, .float 0] [] (hp h 54 (iA 10 A))) = some (some (.int (nI (rks D q fe (nI we) kn))), (hp h 54 (iA 10 A'))) := by
  have mi : (if (10 : Int32) < nI q then (10 : Int32) else nI q) = nI q := if_neg (nI_nlt (a := 10) (b := q) hq (by omega))
  obtain ⟨A1, u1, u2⟩ := c_zr_lp (X := X) F.c53 hq (a1 := .int fe) (a2 := .int (nI we)) (a3 := .int kn) (a6 := .float 0) (a7 := .float 0) q 0 A (by omega) (fun j hj => absurd hj (by omega))
  obtain ⟨A2, v1, v2⟩ := c_rw_lp (X := X) L F (fe := fe) (kn := kn) (a7 := .float 0) hq1 hq hw hR (D.1 7) 0 A1 (by omega) u1
  have w2 := c_sm_lp (X := X) F.c53 hq (a1 := .int fe) (a2 := .int (nI we)) (a3 := .int kn) (a5 := .ref 16) v1 q 0 (by omega)
  rw [nI_0] at u2 v2
  rw [nI_0, show sumN (rgs (D.2.1 7) q fe (nI we) kn (D.1 7)).2 0 = 0 from rfl, nI_0] at w2
  refine ⟨A2, ?_⟩
  simp only [s74_0, s74_1, s74_4, s74_7, s74_9, s74_12, s74_14, s74_15, s74_19, s74_21, s74_24, s74_25, s74_28, s74_30, s74_31, s74_32, s74_35, s74_38, s74_39, s74_42, s74_45, s74_47, s74_48, s74_52, s74_54, s74_57, s74_60, s74_62, s74_64, s74_65, s74_68, s74_69, s74_72, s74_74, s74_76, s74_77, s74_80, s74_81, s74_84, s74_86, s74_88, s74_89, s74_92, s74_93, s74_95, s74_96, s74_97, s74_100, s74_103, s74_104, s74_106, s74_108, s74_109, s74_112, s74_114, s74_117, s74_120, s74_123, s74_124, s74_126, s74_127, s74_131, s74_133, s74_136, s74_138, s74_139, s74_142, s74_144, s74_145, s74_146, s74_148, s74_151, s74_154, s74_156, okF, okA, mcC_o, mcF_o, mcT_i, mcT_l, mcT_z, mcT_q, mcN_i, mcN_l, mcN_z, mcN_q, mcI_i, mcI_z, mcL_l, mcQ_q, hg_hp, hp_hp, List.getD_cons_zero, List.getD_cons_succ, List.set_cons_zero, List.set_cons_succ, List.length_cons, List.length_nil, Nat.reduceAdd, Nat.reduceLT, Nat.reduceEqDiff, Nat.lt_add_one, decide_true, decide_false, Bool.and_true, Bool.true_and, Bool.and_false, Bool.false_and, Bool.false_eq_true, if_true, if_false, ↓reduceIte, Option.bind_some, Option.bind_none, kont_v, kont_n, F.c53, lgo L, eq, mi, u2, v2, w2]
  rfl
end SUM

-- POOLS: rank, findOrder
/-- heap B with many n and ranks a -/
def RK (B : MH) (n : Nat) (a : Nat → Int32) : MH := hp (hp B 31 (oB 6 [.ref 1, .ref 22, .ref 23, .ref 32, .ref 34, .ref 35, .ref 36, .int (nI n)])) 34 (iA 7 a)
section RNK
variable {X : MX} {B : MH} {D : LD} {q A a a' : Nat → Int32} {n n' : Nat} {t : Nat}
theorem RK_off {k : Nat} (h1 : k ≠ 31) (h2 : k ≠ 34) : hg (RK B n a) k = hg B k := by
  unfold RK
  rw [hg_hp, if_neg h2, hg_hp, if_neg h1]
theorem RK_31 : hg (RK B n a) 31 = oB 6 [.ref 1, .ref 22, .ref 23, .ref 32, .ref 34, .ref 35, .ref 36, .int (nI n)] := by
  unfold RK
  rw [hg_hp, if_neg (by decide), hg_hp, if_pos rfl]
theorem RK_34 : hg (RK B n a) 34 = iA 7 a := by
  unfold RK
  rw [hg_hp, if_pos rfl]
theorem RKu_34 : hp (RK B n a) 34 (iA 7 a') = RK B n a' := by
  unfold RK
  rw [hp_hp]
theorem RKu_31 : hp (RK B n a) 31 (oB 6 [.ref 1, .ref 22, .ref 23, .ref 32, .ref 34, .ref 35, .ref 36, .int (nI n')]) = RK B n' a := by
  unfold RK
  rw [hp_cm (a := 31) (b := 34) (by decide), hp_hp, hp_cm (a := 31) (b := 34) (by decide)]
theorem RK_lg (L : LG B 1 D) : LG (RK B n a) 1 D := L.same (fun k h1 h2 => RK_off (by omega) (by omega))
theorem RK_tab (T : TAB B 32 33 16 6 16 A) : TAB (RK B n a) 32 33 16 6 16 A := T.same (RK_off (by decide) (by decide)) (RK_off (by decide) (by decide))
theorem c_ins {pv wv : Value} {e : Nat} (L : LG B 1 D) (T : TAB B 32 33 16 6 16 A) (hA : ∀ i, i < 96 → A i = q i) (he : e < 16) : ∀ (k : Nat) (a : Nat → Int32), k < 7 → (∀ i, i < k → ∃ g, g < 16 ∧ a i = nI g) → ∃ k', ev X 66 54 [.ref 31, pv, wv, .int (nI e), .int (nI k)] [] (RK B n a) = ev X 66 13 [.ref 31, pv, wv, .int (nI (e + 1)), .int (nI k')] [] (RK B (n + 1) (ins (ahv q (D.2.1 1)) e k a))
  | 0, a, hk, hE => by
    refine ⟨0, ?_⟩
    have l0 : ¬ (0 : Int32) < nI 0 := by decide
    rw [s66_54]
    simp (disch := omega) only [s66_0, s66_1, s66_2, s66_3, s66_6, s66_7, s66_8, s66_11, s66_12, s66_14, s66_15, s66_18, s66_21, s66_24, s66_27, s66_28, s66_31, s66_33, s66_36, s66_37, s66_40, s66_41, s66_42, s66_45, s66_48, s66_49, s66_52, s66_56, s66_59, s66_60, s66_61, s66_62, s66_65, s66_67, s66_68, s66_69, s66_70, s66_73, s66_76, s66_77, s66_80, s66_82, s66_83, s66_86, s66_88, s66_89, s66_90, s66_91, s66_92, s66_95, s66_98, s66_99, s66_102, s66_104, s66_105, s66_106, s66_107, s66_108, s66_111, s66_112, s66_113, s66_116, s66_119, s66_122, okF, okA, mcC_o, mcF_o, mcT_i, mcT_l, mcT_z, mcT_q, mcN_i, mcN_l, mcN_z, mcN_q, mcI_i, mcI_z, mcL_l, mcQ_q, hg_hp, hp_hp, List.getD_cons_zero, List.getD_cons_succ, List.set_cons_zero, List.set_cons_succ, List.length_cons, List.length_nil, Nat.reduceAdd, Nat.reduceLT, Nat.reduceEqDiff, Nat.lt_add_one, decide_true, decide_false, Bool.and_true, Bool.true_and, Bool.and_false, Bool.false_and, Bool.false_eq_true, if_true, if_false, ↓reduceIte, Option.bind_some, Option.bind_none, kont_v, kont_n, RK_31, RK_34, RKu_31, RKu_34, l0, nI_clamp, inR_n, nI_1, ins]
  | k + 1, a, hk, hE => by
    have l0 : (0 : Int32) < nI (k + 1) := by rw [nl_0, nI_ltI (by omega) (by omega)]; omega
    obtain ⟨g, hg16, eg⟩ := hE k (by omega)
    have ea := c_isAhead (X := X) (RK_lg (n := n) (a := a) L) RK_31 (RK_tab (n := n) (a := a) T) hA he hg16
    have fg : fnn (nI g) = g := by unfold fnn; rw [nI_clamp (by omega)]
    rcases ahv_01 (q := q) (f1 := D.2.1 1) (a := e) (g := g) with c0 | c1
    · refine ⟨k + 1, ?_⟩
      rw [c0] at ea
      rw [s66_54]
      simp (disch := omega) only [s66_0, s66_1, s66_2, s66_3, s66_6, s66_7, s66_8, s66_11, s66_12, s66_14, s66_15, s66_18, s66_21, s66_24, s66_27, s66_28, s66_31, s66_33, s66_36, s66_37, s66_40, s66_41, s66_42, s66_45, s66_48, s66_49, s66_52, s66_56, s66_59, s66_60, s66_61, s66_62, s66_65, s66_67, s66_68, s66_69, s66_70, s66_73, s66_76, s66_77, s66_80, s66_82, s66_83, s66_86, s66_88, s66_89, s66_90, s66_91, s66_92, s66_95, s66_98, s66_99, s66_102, s66_104, s66_105, s66_106, s66_107, s66_108, s66_111, s66_112, s66_113, s66_116, s66_119, s66_122, okF, okA, mcC_o, mcF_o, mcT_i, mcT_l, mcT_z, mcT_q, mcN_i, mcN_l, mcN_z, mcN_q, mcI_i, mcI_z, mcL_l, mcQ_q, hg_hp, hp_hp, List.getD_cons_zero, List.getD_cons_succ, List.set_cons_zero, List.set_cons_succ, List.length_cons, List.length_nil, Nat.reduceAdd, Nat.reduceLT, Nat.reduceEqDiff, Nat.lt_add_one, decide_true, decide_false, Bool.and_true, Bool.true_and, Bool.and_false, Bool.false_and, Bool.false_eq_true, if_true, if_false, ↓reduceIte, Option.bind_some, Option.bind_none, kont_v, kont_n, RK_31, RK_34, RKu_31, RKu_34, l0, nI_pred, nI_clamp, inR_n, eg, ea, nI_1, ins, fg, c0]
    · obtain ⟨k', ih⟩ := c_ins (pv := pv) (wv := wv) L T hA he k (upd a (k + 1) (a k)) (by omega) (fun i hi => by rw [upd_ne (by omega)]; exact hE i (by omega))
      refine ⟨k', ?_⟩
      rw [c1] at ea
      have n10 : ¬ (1 : Int32) = 0 := by decide
      rw [s66_54]
      simp (disch := omega) only [s66_0, s66_1, s66_2, s66_3, s66_6, s66_7, s66_8, s66_11, s66_12, s66_14, s66_15, s66_18, s66_21, s66_24, s66_27, s66_28, s66_31, s66_33, s66_36, s66_37, s66_40, s66_41, s66_42, s66_45, s66_48, s66_49, s66_52, s66_56, s66_59, s66_60, s66_61, s66_62, s66_65, s66_67, s66_68, s66_69, s66_70, s66_73, s66_76, s66_77, s66_80, s66_82, s66_83, s66_86, s66_88, s66_89, s66_90, s66_91, s66_92, s66_95, s66_98, s66_99, s66_102, s66_104, s66_105, s66_106, s66_107, s66_108, s66_111, s66_112, s66_113, s66_116, s66_119, s66_122, okF, okA, mcC_o, mcF_o, mcT_i, mcT_l, mcT_z, mcT_q, mcN_i, mcN_l, mcN_z, mcN_q, mcI_i, mcI_z, mcL_l, mcQ_q, hg_hp, hp_hp, List.getD_cons_zero, List.getD_cons_succ, List.set_cons_zero, List.set_cons_succ, List.length_cons, List.length_nil, Nat.reduceAdd, Nat.reduceLT, Nat.reduceEqDiff, Nat.lt_add_one, decide_true, decide_false, Bool.and_true, Bool.true_and, Bool.and_false, Bool.false_and, Bool.false_eq_true, if_true, if_false, ↓reduceIte, Option.bind_some, Option.bind_none, kont_v, kont_n, RK_31, RK_34, RKu_31, RKu_34, l0, nI_pred, nI_clamp, inR_n, eg, ea, ins, fg, c1, n10, pk_m1]
      rw [eg] at ih
      exact ih
theorem inp_bit {p k m : Nat} (hp : p < D.1 3) (h3 : D.1 3 ≤ 6) (m3 : D.2.1 3 p = nI m) (hm : m < 65536) (hk : k < D.1 1) (h1 : D.1 1 ≤ 16) : inp D (nI p) (nI k) = nI (bit m k) := by
  unfold inp mem
  rw [hs_n hp (by omega), if_neg one0, nI_clamp (show p < 2 ^ 31 by omega), m3, nI_clamp (show m < 2 ^ 31 by omega), nI_clamp (show k < 2 ^ 31 by omega), hs_n hk (by omega), if_neg one0]
theorem c_rank_loop {wv a4 : Value} {p m : Nat} (L : LG B 1 D) (N : RNG t D) (T : TAB B 32 33 16 6 16 A) (hA : ∀ i, i < 96 → A i = q i) (hp_ : p < D.1 3) (m3 : D.2.1 3 p = nI m) (hm : m < 2 ^ D.1 1) (h7 : pcn 32 m ≤ 7) : ∀ (c e n : Nat) (a : Nat → Int32) (a4 : Value), e + c = 16 → n = pcn e m → ENT m e n a → ev X 66 13 [.ref 31, .int (nI p), wv, .int (nI e), a4] [] (RK B n a) = some (none, (RK B (rk (ahv q (D.2.1 1)) m c e (n, a)).1 (rk (ahv q (D.2.1 1)) m c e (n, a)).2))
  | 0, e, n, a, a4, he, hn, hE => by
    have b1 := (LBD L).2.1
    have q0 := nI_nlt (show D.1 1 ≤ e by omega) (show e < 2 ^ 31 by omega)
    rw [s66_13]
    simp only [s66_0, s66_1, s66_2, s66_3, s66_6, s66_7, s66_8, s66_11, s66_12, s66_14, s66_15, s66_18, s66_21, s66_24, s66_27, s66_28, s66_31, s66_33, s66_36, s66_37, s66_40, s66_41, s66_42, s66_45, s66_48, s66_49, s66_52, s66_56, s66_59, s66_60, s66_61, s66_62, s66_65, s66_67, s66_68, s66_69, s66_70, s66_73, s66_76, s66_77, s66_80, s66_82, s66_83, s66_86, s66_88, s66_89, s66_90, s66_91, s66_92, s66_95, s66_98, s66_99, s66_102, s66_104, s66_105, s66_106, s66_107, s66_108, s66_111, s66_112, s66_113, s66_116, s66_119, s66_122, okF, okA, mcC_o, mcF_o, mcT_i, mcT_l, mcT_z, mcT_q, mcN_i, mcN_l, mcN_z, mcN_q, mcI_i, mcI_z, mcL_l, mcQ_q, hg_hp, hp_hp, List.getD_cons_zero, List.getD_cons_succ, List.set_cons_zero, List.set_cons_succ, List.length_cons, List.length_nil, Nat.reduceAdd, Nat.reduceLT, Nat.reduceEqDiff, Nat.lt_add_one, decide_true, decide_false, Bool.and_true, Bool.true_and, Bool.and_false, Bool.false_and, Bool.false_eq_true, if_true, if_false, ↓reduceIte, Option.bind_some, Option.bind_none, kont_v, kont_n, RK_31, lgo (RK_lg L), (lt1 (RK_lg L)).1, q0, rk]
  | c + 1, e, n, a, a4, he, hn, hE => by
    have b1 := (LBD L).2.1
    have b3 := (LBD L).2.2.2.1
    have m65 := pow16 b1
    by_cases h0 : e < D.1 1
    · have q0 := nI_lt h0 (by omega)
      by_cases h1 : n < 7
      · have q1 : nI n < 7 := nI_lt (b := 7) h1 (by decide)
        have ei := c_isInPool (X := X) (RK_lg (n := n) (a := a) L) N (p := nI p) (f := nI e)
        rw [inp_bit hp_ b3 m3 (by omega) h0 b1] at ei
        simp only [rk]
        rcases bit_01 m e with hb | hb
        · rw [hb] at ei
          have ih := c_rank_loop (wv := wv) (a4 := a4) L N T hA hp_ m3 hm h7 c (e + 1) n a a4 (by omega) (by rw [pcn_add e 1 m]; show n = _ + (bit m e + 0); omega) hE.up
          rw [if_neg (show ¬ bit m e = 1 by omega)]
          rw [s66_13]
          simp only [s66_0, s66_1, s66_2, s66_3, s66_6, s66_7, s66_8, s66_11, s66_12, s66_14, s66_15, s66_18, s66_21, s66_24, s66_27, s66_28, s66_31, s66_33, s66_36, s66_37, s66_40, s66_41, s66_42, s66_45, s66_48, s66_49, s66_52, s66_56, s66_59, s66_60, s66_61, s66_62, s66_65, s66_67, s66_68, s66_69, s66_70, s66_73, s66_76, s66_77, s66_80, s66_82, s66_83, s66_86, s66_88, s66_89, s66_90, s66_91, s66_92, s66_95, s66_98, s66_99, s66_102, s66_104, s66_105, s66_106, s66_107, s66_108, s66_111, s66_112, s66_113, s66_116, s66_119, s66_122, okF, okA, mcC_o, mcF_o, mcT_i, mcT_l, mcT_z, mcT_q, mcN_i, mcN_l, mcN_z, mcN_q, mcI_i, mcI_z, mcL_l, mcQ_q, hg_hp, hp_hp, List.getD_cons_zero, List.getD_cons_succ, List.set_cons_zero, List.set_cons_succ, List.length_cons, List.length_nil, Nat.reduceAdd, Nat.reduceLT, Nat.reduceEqDiff, Nat.lt_add_one, decide_true, decide_false, Bool.and_true, Bool.true_and, Bool.and_false, Bool.false_and, Bool.false_eq_true, if_true, if_false, ↓reduceIte, Option.bind_some, Option.bind_none, kont_v, kont_n, RK_31, lgo (RK_lg L), (lt1 (RK_lg L)).1, q0, q1, ei, nI_0, nI_1]
          exact ih
        · rw [hb] at ei
          obtain ⟨k', ek⟩ := c_ins (X := X) (n := n) (pv := .int (nI p)) (wv := wv) (e := e) L T hA (by omega) n a h1 (fun i hi => by obtain ⟨g, g1, -, g3⟩ := hE i hi; exact ⟨g, by omega, g3⟩)
          have ih := c_rank_loop (wv := wv) (a4 := a4) L N T hA hp_ m3 hm h7 c (e + 1) (n + 1) _ (.int (nI k')) (by omega) (by rw [pcn_add e 1 m]; show n + 1 = _ + (bit m e + 0); omega) (hE.ins (ah := ahv q (D.2.1 1)) hb)
          have n10 : ¬ nI 1 = 0 := by decide
          rw [if_pos hb]
          rw [s66_13]
          simp only [s66_0, s66_1, s66_2, s66_3, s66_6, s66_7, s66_8, s66_11, s66_12, s66_14, s66_15, s66_18, s66_21, s66_24, s66_27, s66_28, s66_31, s66_33, s66_36, s66_37, s66_40, s66_41, s66_42, s66_45, s66_48, s66_49, s66_52, s66_56, s66_59, s66_60, s66_61, s66_62, s66_65, s66_67, s66_68, s66_69, s66_70, s66_73, s66_76, s66_77, s66_80, s66_82, s66_83, s66_86, s66_88, s66_89, s66_90, s66_91, s66_92, s66_95, s66_98, s66_99, s66_102, s66_104, s66_105, s66_106, s66_107, s66_108, s66_111, s66_112, s66_113, s66_116, s66_119, s66_122, okF, okA, mcC_o, mcF_o, mcT_i, mcT_l, mcT_z, mcT_q, mcN_i, mcN_l, mcN_z, mcN_q, mcI_i, mcI_z, mcL_l, mcQ_q, hg_hp, hp_hp, List.getD_cons_zero, List.getD_cons_succ, List.set_cons_zero, List.set_cons_succ, List.length_cons, List.length_nil, Nat.reduceAdd, Nat.reduceLT, Nat.reduceEqDiff, Nat.lt_add_one, decide_true, decide_false, Bool.and_true, Bool.true_and, Bool.and_false, Bool.false_and, Bool.false_eq_true, if_true, if_false, ↓reduceIte, Option.bind_some, Option.bind_none, kont_v, kont_n, RK_31, lgo (RK_lg L), (lt1 (RK_lg L)).1, q0, q1, ei, n10]
          rw [ek]
          exact ih
      · have q1 : ¬ nI n < 7 := nI_nlt (b := 7) (a := n) (by omega) (by have := pcn_le e m; omega)
        have e7 : pcn e m = pcn 32 m := by have := pcn_mono (m := m) (show e ≤ 32 by omega); omega
        rw [rk_skip (c + 1) e (n, a) (fun j h1 h2 => pcn_full e7 h1 (by omega))]
        rw [s66_13]
        simp only [s66_0, s66_1, s66_2, s66_3, s66_6, s66_7, s66_8, s66_11, s66_12, s66_14, s66_15, s66_18, s66_21, s66_24, s66_27, s66_28, s66_31, s66_33, s66_36, s66_37, s66_40, s66_41, s66_42, s66_45, s66_48, s66_49, s66_52, s66_56, s66_59, s66_60, s66_61, s66_62, s66_65, s66_67, s66_68, s66_69, s66_70, s66_73, s66_76, s66_77, s66_80, s66_82, s66_83, s66_86, s66_88, s66_89, s66_90, s66_91, s66_92, s66_95, s66_98, s66_99, s66_102, s66_104, s66_105, s66_106, s66_107, s66_108, s66_111, s66_112, s66_113, s66_116, s66_119, s66_122, okF, okA, mcC_o, mcF_o, mcT_i, mcT_l, mcT_z, mcT_q, mcN_i, mcN_l, mcN_z, mcN_q, mcI_i, mcI_z, mcL_l, mcQ_q, hg_hp, hp_hp, List.getD_cons_zero, List.getD_cons_succ, List.set_cons_zero, List.set_cons_succ, List.length_cons, List.length_nil, Nat.reduceAdd, Nat.reduceLT, Nat.reduceEqDiff, Nat.lt_add_one, decide_true, decide_false, Bool.and_true, Bool.true_and, Bool.and_false, Bool.false_and, Bool.false_eq_true, if_true, if_false, ↓reduceIte, Option.bind_some, Option.bind_none, kont_v, kont_n, RK_31, lgo (RK_lg L), (lt1 (RK_lg L)).1, q0, q1]
    · have q0 := nI_nlt (show D.1 1 ≤ e by omega) (show e < 2 ^ 31 by omega)
      rw [rk_skip (c + 1) e (n, a) (fun j h1 h2 => bit_hi hm (by omega))]
      rw [s66_13]
      simp only [s66_0, s66_1, s66_2, s66_3, s66_6, s66_7, s66_8, s66_11, s66_12, s66_14, s66_15, s66_18, s66_21, s66_24, s66_27, s66_28, s66_31, s66_33, s66_36, s66_37, s66_40, s66_41, s66_42, s66_45, s66_48, s66_49, s66_52, s66_56, s66_59, s66_60, s66_61, s66_62, s66_65, s66_67, s66_68, s66_69, s66_70, s66_73, s66_76, s66_77, s66_80, s66_82, s66_83, s66_86, s66_88, s66_89, s66_90, s66_91, s66_92, s66_95, s66_98, s66_99, s66_102, s66_104, s66_105, s66_106, s66_107, s66_108, s66_111, s66_112, s66_113, s66_116, s66_119, s66_122, okF, okA, mcC_o, mcF_o, mcT_i, mcT_l, mcT_z, mcT_q, mcN_i, mcN_l, mcN_z, mcN_q, mcI_i, mcI_z, mcL_l, mcQ_q, hg_hp, hp_hp, List.getD_cons_zero, List.getD_cons_succ, List.set_cons_zero, List.set_cons_succ, List.length_cons, List.length_nil, Nat.reduceAdd, Nat.reduceLT, Nat.reduceEqDiff, Nat.lt_add_one, decide_true, decide_false, Bool.and_true, Bool.true_and, Bool.and_false, Bool.false_and, Bool.false_eq_true, if_true, if_false, ↓reduceIte, Option.bind_some, Option.bind_none, kont_v, kont_n, RK_31, lgo (RK_lg L), (lt1 (RK_lg L)).1, q0]
/-- the order of a pool: how many, who -/
noncomputable def POS (D : LD) (p m : Nat) (w : Int32) (a : Nat → Int32) : Nat × (Nat → Int32) := rk (ahv (qtl (D.2.1 2) (nI p) w (D.1 2) 0 qz) (D.2.1 1)) m 16 0 (0, a)
theorem c_rank {h : MH} {w : Int32} {p m : Nat} {a0 : Nat → Int32} (L : LG h 1 D) (F : FIX h) (N : RNG t D) (hF : FB (D.1 2) (D.2.1 2)) (hp_ : p < D.1 3) (m3 : D.2.1 3 p = nI m) (hm : m < 2 ^ D.1 1) (h7 : pcn 32 m ≤ 7) (h34 : hg h 34 = iA 7 a0) : (ev X 66 0 [.ref 31, .int (nI p), .int w, .float 0, .float 0] [] (h)) = some (none, (RK (SH h (qtl (D.2.1 2) (nI p) w (D.1 2) 0 qz)) (POS D p m w a0).1 (POS D p m w a0).2)) := by
  obtain ⟨mm, h31⟩ := F.c31
  have et := c_tally (X := X) (p := nI p) (w := w) L F hF
  have o31 : hg (SH h (qtl (D.2.1 2) (nI p) w (D.1 2) 0 qz)) 31 = oB 6 [.ref 1, .ref 22, .ref 23, .ref 32, .ref 34, .ref 35, .ref 36, .int mm] := by rw [SH_off (by decide) (by decide)]; exact h31
  have o34 : hg (SH h (qtl (D.2.1 2) (nI p) w (D.1 2) 0 qz)) 34 = iA 7 a0 := by rw [SH_off (by decide) (by decide)]; exact h34
  have ek : hp (SH h (qtl (D.2.1 2) (nI p) w (D.1 2) 0 qz)) 31 (oB 6 [.ref 1, .ref 22, .ref 23, .ref 32, .ref 34, .ref 35, .ref 36, .int 0]) = RK (SH h (qtl (D.2.1 2) (nI p) w (D.1 2) 0 qz)) 0 a0 := by
    unfold RK
    rw [hp_self (a := 34)]
    · rfl
    · rw [hg_hp, if_neg (by decide)]; exact o34
  have lp := c_rank_loop (X := X) (B := SH h (qtl (D.2.1 2) (nI p) w (D.1 2) 0 qz)) (q := qtl (D.2.1 2) (nI p) w (D.1 2) 0 qz) (A := g96 (mcI (hg h 33)) (qtl (D.2.1 2) (nI p) w (D.1 2) 0 qz)) (wv := .int w) (a4 := .float 0) (SH_lg L) N SH_tab (fun i hi => g96_at hi) hp_ m3 hm h7 16 0 0 a0 (.float 0) (by omega) rfl (fun i hi => absurd hi (by omega))
  rw [nI_0] at lp
  simp only [s66_0, s66_1, s66_2, s66_3, s66_6, s66_7, s66_8, s66_11, s66_12, s66_14, s66_15, s66_18, s66_21, s66_24, s66_27, s66_28, s66_31, s66_33, s66_36, s66_37, s66_40, s66_41, s66_42, s66_45, s66_48, s66_49, s66_52, s66_56, s66_59, s66_60, s66_61, s66_62, s66_65, s66_67, s66_68, s66_69, s66_70, s66_73, s66_76, s66_77, s66_80, s66_82, s66_83, s66_86, s66_88, s66_89, s66_90, s66_91, s66_92, s66_95, s66_98, s66_99, s66_102, s66_104, s66_105, s66_106, s66_107, s66_108, s66_111, s66_112, s66_113, s66_116, s66_119, s66_122, okF, okA, mcC_o, mcF_o, mcT_i, mcT_l, mcT_z, mcT_q, mcN_i, mcN_l, mcN_z, mcN_q, mcI_i, mcI_z, mcL_l, mcQ_q, hg_hp, hp_hp, List.getD_cons_zero, List.getD_cons_succ, List.set_cons_zero, List.set_cons_succ, List.length_cons, List.length_nil, Nat.reduceAdd, Nat.reduceLT, Nat.reduceEqDiff, Nat.lt_add_one, decide_true, decide_false, Bool.and_true, Bool.true_and, Bool.and_false, Bool.false_and, Bool.false_eq_true, if_true, if_false, ↓reduceIte, Option.bind_some, Option.bind_none, kont_v, kont_n, h31, et, o31, ek]
  exact lp
end RNK
/-- heap B with the reference's placed n and places a -/
def OR (B : MH) (n : Nat) (a : Nat → Int32) : MH := hp (hp B 55 (oB 12 ((mcF (hg B 55)).set 16 (.int (nI n))))) 70 (iA 16 a)
section ORD
variable {X : MX} {B : MH} {D : LD} {S q a a' : Nat → Int32} {n n' : Nat} {io wl pl sp wa se bc sv bq : Int32}
theorem OR_off {k : Nat} (h1 : k ≠ 55) (h2 : k ≠ 70) : hg (OR B n a) k = hg B k := by
  unfold OR
  rw [hg_hp, if_neg h2, hg_hp, if_neg h1]
theorem OR_55 (h0 : hg B 55 = oB 12 (MO io wl pl sp wa se bc sv bq)) : hg (OR B n a) 55 = oB 12 (MO io wl (nI n) sp wa se bc sv bq) := by
  unfold OR
  rw [hg_hp, if_neg (by decide), hg_hp, if_pos rfl, h0]
  rfl
theorem OR_70 : hg (OR B n a) 70 = iA 16 a := by
  unfold OR
  rw [hg_hp, if_pos rfl]
theorem ORu_70 : hp (OR B n a) 70 (iA 16 a') = OR B n a' := by
  unfold OR
  rw [hp_hp]
theorem ORu_55 (h0 : hg B 55 = oB 12 (MO io wl pl sp wa se bc sv bq)) : hp (OR B n a) 55 (oB 12 (MO io wl (nI n') sp wa se bc sv bq)) = OR B n' a := by
  unfold OR
  rw [hp_cm (a := 55) (b := 70) (by decide), hp_hp, hp_cm (a := 55) (b := 70) (by decide), h0]
  rfl
theorem m_ins {j r : Nat} {f1 A0 A1 A2 A3 : Nat → Int32} {pv : Value} {e : Nat} (hq : QB j q) (hj : j ≤ 240) (h0 : hg B 55 = oB 12 (MO io wl pl sp wa se bc sv bq)) (c56 : hg B 56 = iA 16450 S) (c64 : hg B 64 = iA 16 A1) (c65 : hg B 65 = iA 16 A0) (c66 : hg B 66 = iA 16 A2) (c67 : hg B 67 = iA 16 A3) (e0 : ∀ f, f < 16 → A0 f = q (f * 6)) (e1 : ∀ f, f < 16 → A1 f = q (f * 6 + 1)) (e2 : ∀ f, f < 16 → A2 f = q (f * 6 + 2)) (e3 : ∀ f, f < 16 → A3 f = q (f * 6 + 3)) (es : ∀ f, f < 16 → S (70 + 3 * f + 2) = f1 (f * 3 + 2)) (hs : ∀ f, f < r → ∃ s, s < 1000 ∧ f1 (f * 3 + 2) = nI s) (hr : r ≤ 16) (he : e < r) : ∀ (k : Nat) (a : Nat → Int32), k < 7 → (∀ i, i < k → ∃ g, g < e ∧ a i = nI g) → ∃ k', ev X 187 40 [.ref 55, pv, .int (nI e), .int (nI k)] [] (OR B n a) = ev X 187 12 [.ref 55, pv, .int (nI (e + 1)), .int (nI k')] [] (OR B (n + 1) (ins (ahv q f1) e k a))
  | 0, a, hk, hE => by
    refine ⟨0, ?_⟩
    have l0 : ¬ (0 : Int32) < nI 0 := by decide
    rw [s187_40]
    simp (disch := omega) only [s187_0, s187_1, s187_2, s187_5, s187_6, s187_7, s187_10, s187_11, s187_13, s187_15, s187_18, s187_19, s187_22, s187_24, s187_25, s187_26, s187_27, s187_28, s187_29, s187_30, s187_31, s187_32, s187_35, s187_36, s187_39, s187_41, s187_44, s187_45, s187_46, s187_47, s187_50, s187_51, s187_52, s187_53, s187_54, s187_57, s187_60, s187_61, s187_64, s187_65, s187_66, s187_69, s187_70, s187_71, s187_72, s187_73, s187_74, s187_77, s187_80, s187_81, s187_84, s187_85, s187_86, s187_87, s187_88, s187_89, s187_92, s187_93, s187_94, s187_97, s187_100, s187_103, okF, okA, mcC_o, mcF_o, mcT_i, mcT_l, mcT_z, mcT_q, mcN_i, mcN_l, mcN_z, mcN_q, mcI_i, mcI_z, mcL_l, mcQ_q, hg_hp, hp_hp, List.getD_cons_zero, List.getD_cons_succ, List.set_cons_zero, List.set_cons_succ, List.length_cons, List.length_nil, Nat.reduceAdd, Nat.reduceLT, Nat.reduceEqDiff, Nat.lt_add_one, decide_true, decide_false, Bool.and_true, Bool.true_and, Bool.and_false, Bool.false_and, Bool.false_eq_true, if_true, if_false, ↓reduceIte, Option.bind_some, Option.bind_none, kont_v, kont_n, MO_len, MO_16, MO_17, MO_18, MOs_16, OR_55 h0, OR_70, ORu_55 h0, ORu_70, l0, nI_clamp, inR_n, nI_1, ins]
  | k + 1, a, hk, hE => by
    have l0 : (0 : Int32) < nI (k + 1) := by rw [nl_0, nI_ltI (by omega) (by omega)]; omega
    obtain ⟨g, hge, eg⟩ := hE k (by omega)
    obtain ⟨sa, z1, z2⟩ := hs e he
    obtain ⟨sg, z3, z4⟩ := hs g (by omega)
    have o : ∀ {c : Nat}, c ≠ 55 → c ≠ 70 → hg (OR B n a) c = hg B c := fun x y => OR_off x y
    obtain ⟨v, ea, ev_⟩ := m_against (X := X) (H := OR B n a) hq hj (OR_55 h0) ((o (by decide) (by decide)).trans c56) ((o (by decide) (by decide)).trans c64) ((o (by decide) (by decide)).trans c65) ((o (by decide) (by decide)).trans c66) ((o (by decide) (by decide)).trans c67) e0 e1 e2 e3 es (a := e) (g := g) (by omega) hge z2 z1 z4 z3
    have fg : fnn (nI g) = g := by unfold fnn; rw [nI_clamp (by omega)]
    rcases ahv_01 (q := q) (f1 := f1) (a := e) (g := g) with c0 | c1
    · refine ⟨k + 1, ?_⟩
      have nv : ¬ v < 0 := fun z => by have := ev_.mp z; rw [c0] at this; exact absurd this (by decide)
      rw [s187_40]
      simp (disch := omega) only [s187_0, s187_1, s187_2, s187_5, s187_6, s187_7, s187_10, s187_11, s187_13, s187_15, s187_18, s187_19, s187_22, s187_24, s187_25, s187_26, s187_27, s187_28, s187_29, s187_30, s187_31, s187_32, s187_35, s187_36, s187_39, s187_41, s187_44, s187_45, s187_46, s187_47, s187_50, s187_51, s187_52, s187_53, s187_54, s187_57, s187_60, s187_61, s187_64, s187_65, s187_66, s187_69, s187_70, s187_71, s187_72, s187_73, s187_74, s187_77, s187_80, s187_81, s187_84, s187_85, s187_86, s187_87, s187_88, s187_89, s187_92, s187_93, s187_94, s187_97, s187_100, s187_103, okF, okA, mcC_o, mcF_o, mcT_i, mcT_l, mcT_z, mcT_q, mcN_i, mcN_l, mcN_z, mcN_q, mcI_i, mcI_z, mcL_l, mcQ_q, hg_hp, hp_hp, List.getD_cons_zero, List.getD_cons_succ, List.set_cons_zero, List.set_cons_succ, List.length_cons, List.length_nil, Nat.reduceAdd, Nat.reduceLT, Nat.reduceEqDiff, Nat.lt_add_one, decide_true, decide_false, Bool.and_true, Bool.true_and, Bool.and_false, Bool.false_and, Bool.false_eq_true, if_true, if_false, ↓reduceIte, Option.bind_some, Option.bind_none, kont_v, kont_n, MO_len, MO_16, MO_17, MO_18, MOs_16, OR_55 h0, OR_70, ORu_55 h0, ORu_70, l0, nI_pred, nI_clamp, inR_n, eg, ea, nv, nI_1, ins, fg, c0]
    · obtain ⟨k', ih⟩ := m_ins (pv := pv) hq hj h0 c56 c64 c65 c66 c67 e0 e1 e2 e3 es hs hr he k (upd a (k + 1) (a k)) (by omega) (fun i hi => by rw [upd_ne (by omega)]; exact hE i (by omega))
      refine ⟨k', ?_⟩
      have nv : v < 0 := ev_.mpr c1
      have n10 : ¬ (1 : Int32) = 0 := by decide
      rw [s187_40]
      simp (disch := omega) only [s187_0, s187_1, s187_2, s187_5, s187_6, s187_7, s187_10, s187_11, s187_13, s187_15, s187_18, s187_19, s187_22, s187_24, s187_25, s187_26, s187_27, s187_28, s187_29, s187_30, s187_31, s187_32, s187_35, s187_36, s187_39, s187_41, s187_44, s187_45, s187_46, s187_47, s187_50, s187_51, s187_52, s187_53, s187_54, s187_57, s187_60, s187_61, s187_64, s187_65, s187_66, s187_69, s187_70, s187_71, s187_72, s187_73, s187_74, s187_77, s187_80, s187_81, s187_84, s187_85, s187_86, s187_87, s187_88, s187_89, s187_92, s187_93, s187_94, s187_97, s187_100, s187_103, okF, okA, mcC_o, mcF_o, mcT_i, mcT_l, mcT_z, mcT_q, mcN_i, mcN_l, mcN_z, mcN_q, mcI_i, mcI_z, mcL_l, mcQ_q, hg_hp, hp_hp, List.getD_cons_zero, List.getD_cons_succ, List.set_cons_zero, List.set_cons_succ, List.length_cons, List.length_nil, Nat.reduceAdd, Nat.reduceLT, Nat.reduceEqDiff, Nat.lt_add_one, decide_true, decide_false, Bool.and_true, Bool.true_and, Bool.and_false, Bool.false_and, Bool.false_eq_true, if_true, if_false, ↓reduceIte, Option.bind_some, Option.bind_none, kont_v, kont_n, MO_len, MO_16, MO_17, MO_18, MOs_16, OR_55 h0, OR_70, ORu_55 h0, ORu_70, l0, nI_pred, nI_clamp, inR_n, eg, ea, nv, ins, fg, c1, n10, pk_m1]
      rw [eg] at ih
      exact ih
theorem m_order_loop {j r m p : Nat} {f1 A0 A1 A2 A3 : Nat → Int32} (hq : QB j q) (hj : j ≤ 240) (h0 : hg B 55 = oB 12 (MO io wl pl sp wa se bc sv bq)) (c56 : hg B 56 = iA 16450 S) (c64 : hg B 64 = iA 16 A1) (c65 : hg B 65 = iA 16 A0) (c66 : hg B 66 = iA 16 A2) (c67 : hg B 67 = iA 16 A3) (e0 : ∀ f, f < 16 → A0 f = q (f * 6)) (e1 : ∀ f, f < 16 → A1 f = q (f * 6 + 1)) (e2 : ∀ f, f < 16 → A2 f = q (f * 6 + 2)) (e3 : ∀ f, f < 16 → A3 f = q (f * 6 + 3)) (es : ∀ f, f < 16 → S (70 + 3 * f + 2) = f1 (f * 3 + 2)) (hs : ∀ f, f < r → ∃ s, s < 1000 ∧ f1 (f * 3 + 2) = nI s) (hr : r ≤ 16) (hp_ : p < 6) (m3 : S (118 + p) = nI m) (hm : m < 2 ^ r) (h7 : pcn 32 m ≤ 7) : ∀ (c e n : Nat) (a : Nat → Int32) (a3 : Value), e + c = 16 → n = pcn e m → ENT m e n a → ev X 187 12 [.ref 55, .int (nI p), .int (nI e), a3] [] (OR B n a) = some (none, (OR B (rk (ahv q f1) m c e (n, a)).1 (rk (ahv q f1) m c e (n, a)).2))
  | 0, e, n, a, a3, he, hn, hE => by
    have ee : e = 16 := by omega
    subst ee
    have q0 : ¬ nI 16 < 16 := by decide
    rw [s187_12]
    simp only [s187_0, s187_1, s187_2, s187_5, s187_6, s187_7, s187_10, s187_11, s187_13, s187_15, s187_18, s187_19, s187_22, s187_24, s187_25, s187_26, s187_27, s187_28, s187_29, s187_30, s187_31, s187_32, s187_35, s187_36, s187_39, s187_41, s187_44, s187_45, s187_46, s187_47, s187_50, s187_51, s187_52, s187_53, s187_54, s187_57, s187_60, s187_61, s187_64, s187_65, s187_66, s187_69, s187_70, s187_71, s187_72, s187_73, s187_74, s187_77, s187_80, s187_81, s187_84, s187_85, s187_86, s187_87, s187_88, s187_89, s187_92, s187_93, s187_94, s187_97, s187_100, s187_103, okF, okA, mcC_o, mcF_o, mcT_i, mcT_l, mcT_z, mcT_q, mcN_i, mcN_l, mcN_z, mcN_q, mcI_i, mcI_z, mcL_l, mcQ_q, hg_hp, hp_hp, List.getD_cons_zero, List.getD_cons_succ, List.set_cons_zero, List.set_cons_succ, List.length_cons, List.length_nil, Nat.reduceAdd, Nat.reduceLT, Nat.reduceEqDiff, Nat.lt_add_one, decide_true, decide_false, Bool.and_true, Bool.true_and, Bool.and_false, Bool.false_and, Bool.false_eq_true, if_true, if_false, ↓reduceIte, Option.bind_some, Option.bind_none, kont_v, kont_n, q0, rk]
  | c + 1, e, n, a, a3, he, hn, hE => by
    have m65 := pow16 hr
    have q0 : nI e < 16 := nI_lt (b := 16) (by omega) (by decide)
    have o56 : hg (OR B n a) 56 = iA 16450 S := (OR_off (by decide) (by decide)).trans c56
    have ei := nI_bit2 (m := m) (k := e) (by omega) (by omega)
    simp only [rk]
    rcases bit_01 m e with hb | hb
    · rw [hb] at ei
      have ih := m_order_loop hq hj h0 c56 c64 c65 c66 c67 e0 e1 e2 e3 es hs hr hp_ m3 hm h7 c (e + 1) n a a3 (by omega) (by rw [pcn_add e 1 m]; show n = _ + (bit m e + 0); omega) hE.up
      rw [if_neg (show ¬ bit m e = 1 by omega)]
      rw [s187_12]
      simp (disch := omega) only [s187_0, s187_1, s187_2, s187_5, s187_6, s187_7, s187_10, s187_11, s187_13, s187_15, s187_18, s187_19, s187_22, s187_24, s187_25, s187_26, s187_27, s187_28, s187_29, s187_30, s187_31, s187_32, s187_35, s187_36, s187_39, s187_41, s187_44, s187_45, s187_46, s187_47, s187_50, s187_51, s187_52, s187_53, s187_54, s187_57, s187_60, s187_61, s187_64, s187_65, s187_66, s187_69, s187_70, s187_71, s187_72, s187_73, s187_74, s187_77, s187_80, s187_81, s187_84, s187_85, s187_86, s187_87, s187_88, s187_89, s187_92, s187_93, s187_94, s187_97, s187_100, s187_103, okF, okA, mcC_o, mcF_o, mcT_i, mcT_l, mcT_z, mcT_q, mcN_i, mcN_l, mcN_z, mcN_q, mcI_i, mcI_z, mcL_l, mcQ_q, hg_hp, hp_hp, List.getD_cons_zero, List.getD_cons_succ, List.set_cons_zero, List.set_cons_succ, List.length_cons, List.length_nil, Nat.reduceAdd, Nat.reduceLT, Nat.reduceEqDiff, Nat.lt_add_one, decide_true, decide_false, Bool.and_true, Bool.true_and, Bool.and_false, Bool.false_and, Bool.false_eq_true, if_true, if_false, ↓reduceIte, Option.bind_some, Option.bind_none, kont_v, kont_n, MO_len, MO_0, upd_eq, upd_ne, updL_eq, updL_ne, nI_clamp, inR_n, nI_add, nI_mul, na_0, nb_0, nm_0, nn_0, ns_0, nc_0, ni_0, na_1, nb_1, nm_1, nn_1, ns_1, nc_1, ni_1, na_2, nb_2, nm_2, nn_2, ns_2, nc_2, ni_2, na_3, nb_3, nm_3, nn_3, ns_3, nc_3, ni_3, na_4, nb_4, nm_4, nn_4, ns_4, nc_4, ni_4, na_5, nb_5, nm_5, nn_5, ns_5, nc_5, ni_5, na_6, nb_6, nm_6, nn_6, ns_6, nc_6, ni_6, na_7, nb_7, nm_7, nn_7, ns_7, nc_7, ni_7, na_8, nb_8, nm_8, nn_8, ns_8, nc_8, ni_8, na_9, nb_9, nm_9, nn_9, ns_9, nc_9, ni_9, na_10, nb_10, nm_10, nn_10, ns_10, nc_10, ni_10, na_11, nb_11, nm_11, nn_11, ns_11, nc_11, ni_11, na_12, nb_12, nm_12, nn_12, ns_12, nc_12, ni_12, na_13, nb_13, nm_13, nn_13, ns_13, nc_13, ni_13, na_14, nb_14, nm_14, nn_14, ns_14, nc_14, ni_14, na_15, nb_15, nm_15, nn_15, ns_15, nc_15, ni_15, na_16, nb_16, nm_16, nn_16, ns_16, nc_16, ni_16, na_17, nb_17, nm_17, nn_17, ns_17, nc_17, ni_17, na_18, nb_18, nm_18, nn_18, ns_18, nc_18, ni_18, na_19, nb_19, nm_19, nn_19, ns_19, nc_19, ni_19, na_20, nb_20, nm_20, nn_20, ns_20, nc_20, ni_20, na_21, nb_21, nm_21, nn_21, ns_21, nc_21, ni_21, na_22, nb_22, nm_22, nn_22, ns_22, nc_22, ni_22, na_23, nb_23, nm_23, nn_23, ns_23, nc_23, ni_23, na_24, nb_24, nm_24, nn_24, ns_24, nc_24, ni_24, na_25, nb_25, nm_25, nn_25, ns_25, nc_25, ni_25, na_26, nb_26, nm_26, nn_26, ns_26, nc_26, ni_26, na_27, nb_27, nm_27, nn_27, ns_27, nc_27, ni_27, na_28, nb_28, nm_28, nn_28, ns_28, nc_28, ni_28, na_29, nb_29, nm_29, nn_29, ns_29, nc_29, ni_29, na_30, nb_30, nm_30, nn_30, ns_30, nc_30, ni_30, na_31, nb_31, nm_31, nn_31, ns_31, nc_31, ni_31, na_32, nb_32, nm_32, nn_32, ns_32, nc_32, ni_32, na_33, nb_33, nm_33, nn_33, ns_33, nc_33, ni_33, na_34, nb_34, nm_34, nn_34, ns_34, nc_34, ni_34, na_35, nb_35, nm_35, nn_35, ns_35, nc_35, ni_35, na_36, nb_36, nm_36, nn_36, ns_36, nc_36, ni_36, na_37, nb_37, nm_37, nn_37, ns_37, nc_37, ni_37, na_38, nb_38, nm_38, nn_38, ns_38, nc_38, ni_38, na_39, nb_39, nm_39, nn_39, ns_39, nc_39, ni_39, na_40, nb_40, nm_40, nn_40, ns_40, nc_40, ni_40, na_41, nb_41, nm_41, nn_41, ns_41, nc_41, ni_41, na_42, nb_42, nm_42, nn_42, ns_42, nc_42, ni_42, na_43, nb_43, nm_43, nn_43, ns_43, nc_43, ni_43, na_44, nb_44, nm_44, nn_44, ns_44, nc_44, ni_44, na_45, nb_45, nm_45, nn_45, ns_45, nc_45, ni_45, na_46, nb_46, nm_46, nn_46, ns_46, nc_46, ni_46, na_47, nb_47, nm_47, nn_47, ns_47, nc_47, ni_47, na_48, nb_48, nm_48, nn_48, ns_48, nc_48, ni_48, na_49, nb_49, nm_49, nn_49, ns_49, nc_49, ni_49, na_50, nb_50, nm_50, nn_50, ns_50, nc_50, ni_50, na_51, nb_51, nm_51, nn_51, ns_51, nc_51, ni_51, na_52, nb_52, nm_52, nn_52, ns_52, nc_52, ni_52, na_53, nb_53, nm_53, nn_53, ns_53, nc_53, ni_53, na_54, nb_54, nm_54, nn_54, ns_54, nc_54, ni_54, na_55, nb_55, nm_55, nn_55, ns_55, nc_55, ni_55, na_56, nb_56, nm_56, nn_56, ns_56, nc_56, ni_56, na_57, nb_57, nm_57, nn_57, ns_57, nc_57, ni_57, na_58, nb_58, nm_58, nn_58, ns_58, nc_58, ni_58, na_59, nb_59, nm_59, nn_59, ns_59, nc_59, ni_59, na_60, nb_60, nm_60, nn_60, ns_60, nc_60, ni_60, na_61, nb_61, nm_61, nn_61, ns_61, nc_61, ni_61, na_62, nb_62, nm_62, nn_62, ns_62, nc_62, ni_62, na_63, nb_63, nm_63, nn_63, ns_63, nc_63, ni_63, na_70, nb_70, nm_70, nn_70, ns_70, nc_70, ni_70, na_100, nb_100, nm_100, nn_100, ns_100, nc_100, ni_100, na_118, nb_118, nm_118, nn_118, ns_118, nc_118, ni_118, na_124, nb_124, nm_124, nn_124, ns_124, nc_124, ni_124, na_127, nb_127, nm_127, nn_127, ns_127, nc_127, ni_127, na_128, nb_128, nm_128, nn_128, ns_128, nc_128, ni_128, na_130, nb_130, nm_130, nn_130, ns_130, nc_130, ni_130, na_148, nb_148, nm_148, nn_148, ns_148, nc_148, ni_148, na_170, nb_170, nm_170, nn_170, ns_170, nc_170, ni_170, na_200, nb_200, nm_200, nn_200, ns_200, nc_200, ni_200, na_300, nb_300, nm_300, nn_300, ns_300, nc_300, ni_300, na_388, nb_388, nm_388, nn_388, ns_388, nc_388, ni_388, na_628, nb_628, nm_628, nn_628, ns_628, nc_628, ni_628, na_646, nb_646, nm_646, nn_646, ns_646, nc_646, ni_646, na_850, nb_850, nm_850, nn_850, ns_850, nc_850, ni_850, na_999, nb_999, nm_999, nn_999, ns_999, nc_999, ni_999, na_1000, nb_1000, nm_1000, nn_1000, ns_1000, nc_1000, ni_1000, na_1001, nb_1001, nm_1001, nn_1001, ns_1001, nc_1001, ni_1001, na_9999, nb_9999, nm_9999, nn_9999, ns_9999, nc_9999, ni_9999, na_16450, nb_16450, nm_16450, nn_16450, ns_16450, nc_16450, ni_16450, OR_55 h0, o56, m3, q0, ei, show ¬ nI 0 = 1 by decide, nI_1]
      exact ih
    · rw [hb] at ei
      have her : e < r := by
        by_cases z : e < r
        · exact z
        · have := bit_hi hm (show r ≤ e by omega); omega
      have n6 : n < 7 := by
        have k1 : pcn (e + 1) m = pcn e m + (bit m e + 0) := pcn_add e 1 m
        have k2 := pcn_mono (m := m) (show e + 1 ≤ 32 by omega)
        omega
      obtain ⟨k', ek⟩ := m_ins (X := X) (n := n) (pv := .int (nI p)) (e := e) hq hj h0 c56 c64 c65 c66 c67 e0 e1 e2 e3 es hs hr her n a n6 (fun i hi => by obtain ⟨g, g1, -, g3⟩ := hE i hi; exact ⟨g, g1, g3⟩)
      have ih := m_order_loop hq hj h0 c56 c64 c65 c66 c67 e0 e1 e2 e3 es hs hr hp_ m3 hm h7 c (e + 1) (n + 1) _ (.int (nI k')) (by omega) (by rw [pcn_add e 1 m]; show n + 1 = _ + (bit m e + 0); omega) (hE.ins (ah := ahv q f1) hb)
      rw [if_pos hb]
      rw [s187_12]
      simp (disch := omega) only [s187_0, s187_1, s187_2, s187_5, s187_6, s187_7, s187_10, s187_11, s187_13, s187_15, s187_18, s187_19, s187_22, s187_24, s187_25, s187_26, s187_27, s187_28, s187_29, s187_30, s187_31, s187_32, s187_35, s187_36, s187_39, s187_41, s187_44, s187_45, s187_46, s187_47, s187_50, s187_51, s187_52, s187_53, s187_54, s187_57, s187_60, s187_61, s187_64, s187_65, s187_66, s187_69, s187_70, s187_71, s187_72, s187_73, s187_74, s187_77, s187_80, s187_81, s187_84, s187_85, s187_86, s187_87, s187_88, s187_89, s187_92, s187_93, s187_94, s187_97, s187_100, s187_103, okF, okA, mcC_o, mcF_o, mcT_i, mcT_l, mcT_z, mcT_q, mcN_i, mcN_l, mcN_z, mcN_q, mcI_i, mcI_z, mcL_l, mcQ_q, hg_hp, hp_hp, List.getD_cons_zero, List.getD_cons_succ, List.set_cons_zero, List.set_cons_succ, List.length_cons, List.length_nil, Nat.reduceAdd, Nat.reduceLT, Nat.reduceEqDiff, Nat.lt_add_one, decide_true, decide_false, Bool.and_true, Bool.true_and, Bool.and_false, Bool.false_and, Bool.false_eq_true, if_true, if_false, ↓reduceIte, Option.bind_some, Option.bind_none, kont_v, kont_n, MO_len, MO_0, MO_16, upd_eq, upd_ne, updL_eq, updL_ne, nI_clamp, inR_n, nI_add, nI_mul, na_0, nb_0, nm_0, nn_0, ns_0, nc_0, ni_0, na_1, nb_1, nm_1, nn_1, ns_1, nc_1, ni_1, na_2, nb_2, nm_2, nn_2, ns_2, nc_2, ni_2, na_3, nb_3, nm_3, nn_3, ns_3, nc_3, ni_3, na_4, nb_4, nm_4, nn_4, ns_4, nc_4, ni_4, na_5, nb_5, nm_5, nn_5, ns_5, nc_5, ni_5, na_6, nb_6, nm_6, nn_6, ns_6, nc_6, ni_6, na_7, nb_7, nm_7, nn_7, ns_7, nc_7, ni_7, na_8, nb_8, nm_8, nn_8, ns_8, nc_8, ni_8, na_9, nb_9, nm_9, nn_9, ns_9, nc_9, ni_9, na_10, nb_10, nm_10, nn_10, ns_10, nc_10, ni_10, na_11, nb_11, nm_11, nn_11, ns_11, nc_11, ni_11, na_12, nb_12, nm_12, nn_12, ns_12, nc_12, ni_12, na_13, nb_13, nm_13, nn_13, ns_13, nc_13, ni_13, na_14, nb_14, nm_14, nn_14, ns_14, nc_14, ni_14, na_15, nb_15, nm_15, nn_15, ns_15, nc_15, ni_15, na_16, nb_16, nm_16, nn_16, ns_16, nc_16, ni_16, na_17, nb_17, nm_17, nn_17, ns_17, nc_17, ni_17, na_18, nb_18, nm_18, nn_18, ns_18, nc_18, ni_18, na_19, nb_19, nm_19, nn_19, ns_19, nc_19, ni_19, na_20, nb_20, nm_20, nn_20, ns_20, nc_20, ni_20, na_21, nb_21, nm_21, nn_21, ns_21, nc_21, ni_21, na_22, nb_22, nm_22, nn_22, ns_22, nc_22, ni_22, na_23, nb_23, nm_23, nn_23, ns_23, nc_23, ni_23, na_24, nb_24, nm_24, nn_24, ns_24, nc_24, ni_24, na_25, nb_25, nm_25, nn_25, ns_25, nc_25, ni_25, na_26, nb_26, nm_26, nn_26, ns_26, nc_26, ni_26, na_27, nb_27, nm_27, nn_27, ns_27, nc_27, ni_27, na_28, nb_28, nm_28, nn_28, ns_28, nc_28, ni_28, na_29, nb_29, nm_29, nn_29, ns_29, nc_29, ni_29, na_30, nb_30, nm_30, nn_30, ns_30, nc_30, ni_30, na_31, nb_31, nm_31, nn_31, ns_31, nc_31, ni_31, na_32, nb_32, nm_32, nn_32, ns_32, nc_32, ni_32, na_33, nb_33, nm_33, nn_33, ns_33, nc_33, ni_33, na_34, nb_34, nm_34, nn_34, ns_34, nc_34, ni_34, na_35, nb_35, nm_35, nn_35, ns_35, nc_35, ni_35, na_36, nb_36, nm_36, nn_36, ns_36, nc_36, ni_36, na_37, nb_37, nm_37, nn_37, ns_37, nc_37, ni_37, na_38, nb_38, nm_38, nn_38, ns_38, nc_38, ni_38, na_39, nb_39, nm_39, nn_39, ns_39, nc_39, ni_39, na_40, nb_40, nm_40, nn_40, ns_40, nc_40, ni_40, na_41, nb_41, nm_41, nn_41, ns_41, nc_41, ni_41, na_42, nb_42, nm_42, nn_42, ns_42, nc_42, ni_42, na_43, nb_43, nm_43, nn_43, ns_43, nc_43, ni_43, na_44, nb_44, nm_44, nn_44, ns_44, nc_44, ni_44, na_45, nb_45, nm_45, nn_45, ns_45, nc_45, ni_45, na_46, nb_46, nm_46, nn_46, ns_46, nc_46, ni_46, na_47, nb_47, nm_47, nn_47, ns_47, nc_47, ni_47, na_48, nb_48, nm_48, nn_48, ns_48, nc_48, ni_48, na_49, nb_49, nm_49, nn_49, ns_49, nc_49, ni_49, na_50, nb_50, nm_50, nn_50, ns_50, nc_50, ni_50, na_51, nb_51, nm_51, nn_51, ns_51, nc_51, ni_51, na_52, nb_52, nm_52, nn_52, ns_52, nc_52, ni_52, na_53, nb_53, nm_53, nn_53, ns_53, nc_53, ni_53, na_54, nb_54, nm_54, nn_54, ns_54, nc_54, ni_54, na_55, nb_55, nm_55, nn_55, ns_55, nc_55, ni_55, na_56, nb_56, nm_56, nn_56, ns_56, nc_56, ni_56, na_57, nb_57, nm_57, nn_57, ns_57, nc_57, ni_57, na_58, nb_58, nm_58, nn_58, ns_58, nc_58, ni_58, na_59, nb_59, nm_59, nn_59, ns_59, nc_59, ni_59, na_60, nb_60, nm_60, nn_60, ns_60, nc_60, ni_60, na_61, nb_61, nm_61, nn_61, ns_61, nc_61, ni_61, na_62, nb_62, nm_62, nn_62, ns_62, nc_62, ni_62, na_63, nb_63, nm_63, nn_63, ns_63, nc_63, ni_63, na_70, nb_70, nm_70, nn_70, ns_70, nc_70, ni_70, na_100, nb_100, nm_100, nn_100, ns_100, nc_100, ni_100, na_118, nb_118, nm_118, nn_118, ns_118, nc_118, ni_118, na_124, nb_124, nm_124, nn_124, ns_124, nc_124, ni_124, na_127, nb_127, nm_127, nn_127, ns_127, nc_127, ni_127, na_128, nb_128, nm_128, nn_128, ns_128, nc_128, ni_128, na_130, nb_130, nm_130, nn_130, ns_130, nc_130, ni_130, na_148, nb_148, nm_148, nn_148, ns_148, nc_148, ni_148, na_170, nb_170, nm_170, nn_170, ns_170, nc_170, ni_170, na_200, nb_200, nm_200, nn_200, ns_200, nc_200, ni_200, na_300, nb_300, nm_300, nn_300, ns_300, nc_300, ni_300, na_388, nb_388, nm_388, nn_388, ns_388, nc_388, ni_388, na_628, nb_628, nm_628, nn_628, ns_628, nc_628, ni_628, na_646, nb_646, nm_646, nn_646, ns_646, nc_646, ni_646, na_850, nb_850, nm_850, nn_850, ns_850, nc_850, ni_850, na_999, nb_999, nm_999, nn_999, ns_999, nc_999, ni_999, na_1000, nb_1000, nm_1000, nn_1000, ns_1000, nc_1000, ni_1000, na_1001, nb_1001, nm_1001, nn_1001, ns_1001, nc_1001, ni_1001, na_9999, nb_9999, nm_9999, nn_9999, ns_9999, nc_9999, ni_9999, na_16450, nb_16450, nm_16450, nn_16450, ns_16450, nc_16450, ni_16450, OR_55 h0, o56, m3, q0, ei, ← nl_1, eq_self]
      rw [ek]
      exact ih
end ORD

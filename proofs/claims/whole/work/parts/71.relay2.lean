-- CALLS 12: relay, bestOrder
section RL2
variable {X : MX} {t : Nat} {h : MH} {D : LD} {S IM KP : Nat → Int32}
theorem m_first : ∀ u, u < 9 → (ev X 225 0 [.int (nI u)] [] (h)) = some (some (.int (nI (FPl u))), (h)) := by
  intro u hu
  have ne : ∀ a b : Nat, a < 100 → b < 100 → (nI a = nI b) = (a = b) := fun a b ha hb => propext (nI_eq (by omega) (by omega))
  have e0 := ne u 0 (by omega) (by decide)
  have e1 := ne u 1 (by omega) (by decide)
  have e3 := ne u 3 (by omega) (by decide)
  have e4 := ne u 4 (by omega) (by decide)
  have e6 := ne u 6 (by omega) (by decide)
  have e8 := ne u 8 (by omega) (by decide)
  rw [nI_0] at e0
  rw [← nl_1] at e1
  rw [← nl_3] at e3
  rw [← nl_4] at e4
  rw [← nl_6] at e6
  rw [← nl_8] at e8
  rcases (by omega : u = 0 ∨ u = 1 ∨ u = 2 ∨ u = 3 ∨ u = 4 ∨ u = 5 ∨ u = 6 ∨ u = 7 ∨ u = 8) with rfl | rfl | rfl | rfl | rfl | rfl | rfl | rfl | rfl
  all_goals simp only [s225_0, s225_1, s225_4, s225_5, s225_6, s225_9, s225_10, s225_12, s225_15, s225_16, s225_19, s225_20, s225_21, s225_24, s225_25, s225_26, s225_29, s225_30, s225_32, s225_35, s225_36, s225_39, s225_40, okF, okA, mcC_o, mcF_o, mcT_i, mcT_l, mcT_z, mcT_q, mcN_i, mcN_l, mcN_z, mcN_q, mcI_i, mcI_z, mcL_l, mcQ_q, hg_hp, hp_hp, List.getD_cons_zero, List.getD_cons_succ, List.set_cons_zero, List.set_cons_succ, List.length_cons, List.length_nil, Nat.reduceAdd, Nat.reduceLT, Nat.reduceEqDiff, Nat.lt_add_one, decide_true, decide_false, Bool.and_true, Bool.true_and, Bool.and_false, Bool.false_and, Bool.false_eq_true, if_true, if_false, ↓reduceIte, Option.bind_some, Option.bind_none, kont_v, kont_n, e0, e1, e3, e4, e6, e8, eq_self, Nat.reduceEqDiff, show ((0 : Nat) = 1) = False by decide]
  all_goals rfl
theorem m_second : ∀ u, u < 9 → (ev X 226 0 [.int (nI u)] [] (h)) = some (some (.int (nI (SPl u))), (h)) := by
  intro u hu
  have ne : ∀ a b : Nat, a < 100 → b < 100 → (nI a = nI b) = (a = b) := fun a b ha hb => propext (nI_eq (by omega) (by omega))
  have e0 := ne u 0 (by omega) (by decide)
  have e2 := ne u 2 (by omega) (by decide)
  have e4 := ne u 4 (by omega) (by decide)
  have e5 := ne u 5 (by omega) (by decide)
  have e6 := ne u 6 (by omega) (by decide)
  have e8 := ne u 8 (by omega) (by decide)
  rw [nI_0] at e0
  rw [← nl_2] at e2
  rw [← nl_4] at e4
  rw [← nl_5] at e5
  rw [← nl_6] at e6
  rw [← nl_8] at e8
  rcases (by omega : u = 0 ∨ u = 1 ∨ u = 2 ∨ u = 3 ∨ u = 4 ∨ u = 5 ∨ u = 6 ∨ u = 7 ∨ u = 8) with rfl | rfl | rfl | rfl | rfl | rfl | rfl | rfl | rfl
  all_goals simp only [s226_0, s226_1, s226_4, s226_5, s226_6, s226_9, s226_10, s226_12, s226_15, s226_16, s226_19, s226_20, s226_21, s226_24, s226_25, s226_26, s226_29, s226_30, s226_32, s226_35, s226_36, s226_39, s226_40, okF, okA, mcC_o, mcF_o, mcT_i, mcT_l, mcT_z, mcT_q, mcN_i, mcN_l, mcN_z, mcN_q, mcI_i, mcI_z, mcL_l, mcQ_q, hg_hp, hp_hp, List.getD_cons_zero, List.getD_cons_succ, List.set_cons_zero, List.set_cons_succ, List.length_cons, List.length_nil, Nat.reduceAdd, Nat.reduceLT, Nat.reduceEqDiff, Nat.lt_add_one, decide_true, decide_false, Bool.and_true, Bool.true_and, Bool.and_false, Bool.false_and, Bool.false_eq_true, if_true, if_false, ↓reduceIte, Option.bind_some, Option.bind_none, kont_v, kont_n, e0, e2, e4, e5, e6, e8, eq_self, Nat.reduceEqDiff, show ((0 : Nat) = 1) = False by decide]
  all_goals rfl
theorem m_rl_loop {B : MH} {m till x : Nat} {b : Int32} {a1 a4 a5 a6 : Value} {io wl pl sp wa se bc sv bq : Int32} (h0 : hg B 55 = oB 12 (MO io wl pl sp wa se bc sv bq)) (h1 : hg B 56 = iA 16450 S) (hx : x < 16000) (eM : S x = nI m) (eB : S (x + 1) = b) (hm : m ≤ 15) (ht : till ≤ 45) : ∀ (d i : Nat) (s : Nat × Nat) (a10 : Value), i + d = m → s.1 ≤ till → s.2 ≤ till → ∃ z z', ev X 224 84 [.ref 55, a1, .int (nI s.1), .int (nI s.2), a4, a5, a6, .int (nI x), .int (nI till), .int (nI i), a10] [] B = ev X 224 142 [.ref 55, a1, .int (nI (rlp b till d i s).1), .int (nI (rlp b till d i s).2), a4, a5, a6, .int (nI x), .int (nI till), z, z'] [] B
  | 0, i, s, a10, hi, k1, k2 => by
    have e : i = m := by omega
    subst e
    have q := nI_nlt (Nat.le_refl i) (by omega)
    refine ⟨.int (nI i), a10, ?_⟩
    rw [s224_84]
    simp (disch := omega) only [s224_0, s224_1, s224_2, s224_3, s224_4, s224_5, s224_9, s224_11, s224_14, s224_16, s224_19, s224_21, s224_23, s224_26, s224_27, s224_29, s224_30, s224_33, s224_35, s224_36, s224_39, s224_40, s224_42, s224_43, s224_45, s224_46, s224_49, s224_50, s224_52, s224_53, s224_55, s224_58, s224_59, s224_60, s224_62, s224_63, s224_65, s224_68, s224_69, s224_70, s224_71, s224_73, s224_74, s224_76, s224_77, s224_78, s224_79, s224_81, s224_82, s224_86, s224_87, s224_90, s224_92, s224_93, s224_96, s224_97, s224_99, s224_102, s224_103, s224_105, s224_108, s224_109, s224_112, s224_114, s224_115, s224_116, s224_117, s224_119, s224_120, s224_121, s224_122, s224_124, s224_125, s224_126, s224_128, s224_129, s224_130, s224_131, s224_132, s224_134, s224_135, s224_136, s224_139, s224_143, s224_146, s224_148, s224_149, s224_150, s224_151, s224_154, s224_156, s224_157, s224_158, s224_161, s224_164, s224_165, s224_166, s224_167, okF, okA, mcC_o, mcF_o, mcT_i, mcT_l, mcT_z, mcT_q, mcN_i, mcN_l, mcN_z, mcN_q, mcI_i, mcI_z, mcL_l, mcQ_q, hg_hp, hp_hp, List.getD_cons_zero, List.getD_cons_succ, List.set_cons_zero, List.set_cons_succ, List.length_cons, List.length_nil, Nat.reduceAdd, Nat.reduceLT, Nat.reduceEqDiff, Nat.lt_add_one, decide_true, decide_false, Bool.and_true, Bool.true_and, Bool.and_false, Bool.false_and, Bool.false_eq_true, if_true, if_false, ↓reduceIte, Option.bind_some, Option.bind_none, kont_v, kont_n, MO_len, MO_0, h0, h1, nI_clamp, inR_n, eM, q, rlp]
  | d + 1, i, s, a10, hi, k1, k2 => by
    have q := nI_lt (show i < m by omega) (by omega)
    rw [s224_84]
    simp only [rlp]
    by_cases c1 : s.1 < till
    · have q1 := nI_lt c1 (by omega)
      by_cases c2 : s.2 < till
      · have q2 := nI_lt c2 (by omega)
        rw [if_pos ⟨c1, c2⟩]
        rcases bit01 b (nI i) with c3 | c3
        · obtain ⟨z, z', ih⟩ := m_rl_loop (B := B) (b := b) (a1 := a1) (a4 := a4) (a5 := a5) (a6 := a6) h0 h1 hx eM eB hm ht d (i + 1) (s.1 + 1, s.2) (.int 0) (by omega) c1 k2
          refine ⟨z, z', ?_⟩
          rw [if_pos c3, ← ih]
          simp (disch := omega) only [s224_0, s224_1, s224_2, s224_3, s224_4, s224_5, s224_9, s224_11, s224_14, s224_16, s224_19, s224_21, s224_23, s224_26, s224_27, s224_29, s224_30, s224_33, s224_35, s224_36, s224_39, s224_40, s224_42, s224_43, s224_45, s224_46, s224_49, s224_50, s224_52, s224_53, s224_55, s224_58, s224_59, s224_60, s224_62, s224_63, s224_65, s224_68, s224_69, s224_70, s224_71, s224_73, s224_74, s224_76, s224_77, s224_78, s224_79, s224_81, s224_82, s224_86, s224_87, s224_90, s224_92, s224_93, s224_96, s224_97, s224_99, s224_102, s224_103, s224_105, s224_108, s224_109, s224_112, s224_114, s224_115, s224_116, s224_117, s224_119, s224_120, s224_121, s224_122, s224_124, s224_125, s224_126, s224_128, s224_129, s224_130, s224_131, s224_132, s224_134, s224_135, s224_136, s224_139, s224_143, s224_146, s224_148, s224_149, s224_150, s224_151, s224_154, s224_156, s224_157, s224_158, s224_161, s224_164, s224_165, s224_166, s224_167, okF, okA, mcC_o, mcF_o, mcT_i, mcT_l, mcT_z, mcT_q, mcN_i, mcN_l, mcN_z, mcN_q, mcI_i, mcI_z, mcL_l, mcQ_q, hg_hp, hp_hp, List.getD_cons_zero, List.getD_cons_succ, List.set_cons_zero, List.set_cons_succ, List.length_cons, List.length_nil, Nat.reduceAdd, Nat.reduceLT, Nat.reduceEqDiff, Nat.lt_add_one, decide_true, decide_false, Bool.and_true, Bool.true_and, Bool.and_false, Bool.false_and, Bool.false_eq_true, if_true, if_false, ↓reduceIte, Option.bind_some, Option.bind_none, kont_v, kont_n, MO_len, MO_0, h0, h1, nI_clamp, inR_n, eM, eB, q, q1, q2, c3, nI_1, sub_0i, nb_0, Nat.add_zero]
        · obtain ⟨z, z', ih⟩ := m_rl_loop (B := B) (b := b) (a1 := a1) (a4 := a4) (a5 := a5) (a6 := a6) h0 h1 hx eM eB hm ht d (i + 1) (s.1, s.2 + 1) (.int 1) (by omega) k1 c2
          refine ⟨z, z', ?_⟩
          rw [if_neg (by rw [c3]; decide), ← ih]
          simp (disch := omega) only [s224_0, s224_1, s224_2, s224_3, s224_4, s224_5, s224_9, s224_11, s224_14, s224_16, s224_19, s224_21, s224_23, s224_26, s224_27, s224_29, s224_30, s224_33, s224_35, s224_36, s224_39, s224_40, s224_42, s224_43, s224_45, s224_46, s224_49, s224_50, s224_52, s224_53, s224_55, s224_58, s224_59, s224_60, s224_62, s224_63, s224_65, s224_68, s224_69, s224_70, s224_71, s224_73, s224_74, s224_76, s224_77, s224_78, s224_79, s224_81, s224_82, s224_86, s224_87, s224_90, s224_92, s224_93, s224_96, s224_97, s224_99, s224_102, s224_103, s224_105, s224_108, s224_109, s224_112, s224_114, s224_115, s224_116, s224_117, s224_119, s224_120, s224_121, s224_122, s224_124, s224_125, s224_126, s224_128, s224_129, s224_130, s224_131, s224_132, s224_134, s224_135, s224_136, s224_139, s224_143, s224_146, s224_148, s224_149, s224_150, s224_151, s224_154, s224_156, s224_157, s224_158, s224_161, s224_164, s224_165, s224_166, s224_167, okF, okA, mcC_o, mcF_o, mcT_i, mcT_l, mcT_z, mcT_q, mcN_i, mcN_l, mcN_z, mcN_q, mcI_i, mcI_z, mcL_l, mcQ_q, hg_hp, hp_hp, List.getD_cons_zero, List.getD_cons_succ, List.set_cons_zero, List.set_cons_succ, List.length_cons, List.length_nil, Nat.reduceAdd, Nat.reduceLT, Nat.reduceEqDiff, Nat.lt_add_one, decide_true, decide_false, Bool.and_true, Bool.true_and, Bool.and_false, Bool.false_and, Bool.false_eq_true, if_true, if_false, ↓reduceIte, Option.bind_some, Option.bind_none, kont_v, kont_n, MO_len, MO_0, h0, h1, nI_clamp, inR_n, eM, eB, q, q1, q2, c3, nI_1, sub_11, nb_0, Nat.add_zero]
      · have q2 := nI_nlt (show till ≤ s.2 by omega) (by omega)
        refine ⟨.int (nI i), a10, ?_⟩
        rw [if_neg (fun z => c2 z.2)]
        simp (disch := omega) only [s224_0, s224_1, s224_2, s224_3, s224_4, s224_5, s224_9, s224_11, s224_14, s224_16, s224_19, s224_21, s224_23, s224_26, s224_27, s224_29, s224_30, s224_33, s224_35, s224_36, s224_39, s224_40, s224_42, s224_43, s224_45, s224_46, s224_49, s224_50, s224_52, s224_53, s224_55, s224_58, s224_59, s224_60, s224_62, s224_63, s224_65, s224_68, s224_69, s224_70, s224_71, s224_73, s224_74, s224_76, s224_77, s224_78, s224_79, s224_81, s224_82, s224_86, s224_87, s224_90, s224_92, s224_93, s224_96, s224_97, s224_99, s224_102, s224_103, s224_105, s224_108, s224_109, s224_112, s224_114, s224_115, s224_116, s224_117, s224_119, s224_120, s224_121, s224_122, s224_124, s224_125, s224_126, s224_128, s224_129, s224_130, s224_131, s224_132, s224_134, s224_135, s224_136, s224_139, s224_143, s224_146, s224_148, s224_149, s224_150, s224_151, s224_154, s224_156, s224_157, s224_158, s224_161, s224_164, s224_165, s224_166, s224_167, okF, okA, mcC_o, mcF_o, mcT_i, mcT_l, mcT_z, mcT_q, mcN_i, mcN_l, mcN_z, mcN_q, mcI_i, mcI_z, mcL_l, mcQ_q, hg_hp, hp_hp, List.getD_cons_zero, List.getD_cons_succ, List.set_cons_zero, List.set_cons_succ, List.length_cons, List.length_nil, Nat.reduceAdd, Nat.reduceLT, Nat.reduceEqDiff, Nat.lt_add_one, decide_true, decide_false, Bool.and_true, Bool.true_and, Bool.and_false, Bool.false_and, Bool.false_eq_true, if_true, if_false, ↓reduceIte, Option.bind_some, Option.bind_none, kont_v, kont_n, MO_len, MO_0, h0, h1, nI_clamp, inR_n, eM, q, q1, q2]
    · have q1 := nI_nlt (show till ≤ s.1 by omega) (by omega)
      refine ⟨.int (nI i), a10, ?_⟩
      rw [if_neg (fun z => c1 z.1)]
      simp (disch := omega) only [s224_0, s224_1, s224_2, s224_3, s224_4, s224_5, s224_9, s224_11, s224_14, s224_16, s224_19, s224_21, s224_23, s224_26, s224_27, s224_29, s224_30, s224_33, s224_35, s224_36, s224_39, s224_40, s224_42, s224_43, s224_45, s224_46, s224_49, s224_50, s224_52, s224_53, s224_55, s224_58, s224_59, s224_60, s224_62, s224_63, s224_65, s224_68, s224_69, s224_70, s224_71, s224_73, s224_74, s224_76, s224_77, s224_78, s224_79, s224_81, s224_82, s224_86, s224_87, s224_90, s224_92, s224_93, s224_96, s224_97, s224_99, s224_102, s224_103, s224_105, s224_108, s224_109, s224_112, s224_114, s224_115, s224_116, s224_117, s224_119, s224_120, s224_121, s224_122, s224_124, s224_125, s224_126, s224_128, s224_129, s224_130, s224_131, s224_132, s224_134, s224_135, s224_136, s224_139, s224_143, s224_146, s224_148, s224_149, s224_150, s224_151, s224_154, s224_156, s224_157, s224_158, s224_161, s224_164, s224_165, s224_166, s224_167, okF, okA, mcC_o, mcF_o, mcT_i, mcT_l, mcT_z, mcT_q, mcN_i, mcN_l, mcN_z, mcN_q, mcI_i, mcI_z, mcL_l, mcQ_q, hg_hp, hp_hp, List.getD_cons_zero, List.getD_cons_succ, List.set_cons_zero, List.set_cons_succ, List.length_cons, List.length_nil, Nat.reduceAdd, Nat.reduceLT, Nat.reduceEqDiff, Nat.lt_add_one, decide_true, decide_false, Bool.and_true, Bool.true_and, Bool.and_false, Bool.false_and, Bool.false_eq_true, if_true, if_false, ↓reduceIte, Option.bind_some, Option.bind_none, kont_v, kont_n, MO_len, MO_0, h0, h1, nI_clamp, inR_n, eM, q, q1]
/-- heap B with the reference's firsts and seconds -/
def RE (B : MH) (f s : Nat → Int32) : MH := hp (hp B 84 (iA 9 f)) 85 (iA 9 s)
theorem RE_off {B : MH} {f s : Nat → Int32} {k : Nat} (h1 : k ≠ 84) (h2 : k ≠ 85) : hg (RE B f s) k = hg B k := by
  unfold RE
  rw [hg_hp, if_neg h2, hg_hp, if_neg h1]
theorem RE_84 {B : MH} {f s : Nat → Int32} : hg (RE B f s) 84 = iA 9 f := by
  unfold RE
  rw [hg_hp, if_neg (by decide), hg_hp, if_pos rfl]
theorem RE_85 {B : MH} {f s : Nat → Int32} : hg (RE B f s) 85 = iA 9 s := by
  unfold RE
  rw [hg_hp, if_pos rfl]
theorem REu_84 {B : MH} {f s f' : Nat → Int32} : hp (RE B f s) 84 (iA 9 f') = RE B f' s := by
  unfold RE
  rw [hp_cm (a := 84) (b := 85) (by decide), hp_hp, hp_cm (a := 84) (b := 85) (by decide)]
theorem REu_85 {B : MH} {f s s' : Nat → Int32} : hp (RE B f s) 85 (iA 9 s') = RE B f s' := by
  unfold RE
  rw [hp_hp]
theorem m_mg_loop {B : MH} {k : Nat} {f8 : Nat → Int32} {io wl pl sp wa se bc sv bq : Int32} (h0 : hg B 55 = oB 12 (MO io wl pl sp wa se bc sv bq)) (h1 : hg B 56 = iA 16450 S) (hS : ∀ i, i < 18 → S (628 + i) = f8 i) (hP : PRS f8) (hk : k ∈ ORL) : ∀ (d u : Nat) (f s : Nat → Int32) (a5 a6 a7 a8 a9 a10 : Value), u + d = 9 → ∃ f' s', ev X 224 7 [.ref 55, .int (nI k), .int (nI (stt f8 k u).1), .int (nI (stt f8 k u).2), .int (nI u), a5, a6, a7, a8, a9, a10] [] (RE B f s) = some (some (.int (nI (stt f8 k 9).1 - nI (stt f8 k 9).2)), (RE B f' s')) ∧ (∀ j, j < u → f' j = f j ∧ s' j = s j) ∧ ∀ v, u ≤ v → v < 9 → f' v = nI (stt f8 k (v + 1)).1 ∧ s' v = nI (stt f8 k (v + 1)).2
  | 0, u, f, s, a5, a6, a7, a8, a9, a10, hu => by
    have e : u = 9 := by omega
    subst e
    have q : ¬ nI 9 < 9 := by decide
    refine ⟨f, s, ?_, fun _ _ => ⟨rfl, rfl⟩, fun v h1 h2 => absurd h2 (by omega)⟩
    rw [s224_7]
    simp only [s224_0, s224_1, s224_2, s224_3, s224_4, s224_5, s224_9, s224_11, s224_14, s224_16, s224_19, s224_21, s224_23, s224_26, s224_27, s224_29, s224_30, s224_33, s224_35, s224_36, s224_39, s224_40, s224_42, s224_43, s224_45, s224_46, s224_49, s224_50, s224_52, s224_53, s224_55, s224_58, s224_59, s224_60, s224_62, s224_63, s224_65, s224_68, s224_69, s224_70, s224_71, s224_73, s224_74, s224_76, s224_77, s224_78, s224_79, s224_81, s224_82, s224_86, s224_87, s224_90, s224_92, s224_93, s224_96, s224_97, s224_99, s224_102, s224_103, s224_105, s224_108, s224_109, s224_112, s224_114, s224_115, s224_116, s224_117, s224_119, s224_120, s224_121, s224_122, s224_124, s224_125, s224_126, s224_128, s224_129, s224_130, s224_131, s224_132, s224_134, s224_135, s224_136, s224_139, s224_142, s224_143, s224_146, s224_148, s224_149, s224_150, s224_151, s224_154, s224_156, s224_157, s224_158, s224_161, s224_164, s224_165, s224_166, s224_167, okF, okA, mcC_o, mcF_o, mcT_i, mcT_l, mcT_z, mcT_q, mcN_i, mcN_l, mcN_z, mcN_q, mcI_i, mcI_z, mcL_l, mcQ_q, hg_hp, hp_hp, List.getD_cons_zero, List.getD_cons_succ, List.set_cons_zero, List.set_cons_succ, List.length_cons, List.length_nil, Nat.reduceAdd, Nat.reduceLT, Nat.reduceEqDiff, Nat.lt_add_one, decide_true, decide_false, Bool.and_true, Bool.true_and, Bool.and_false, Bool.false_and, Bool.false_eq_true, if_true, if_false, ↓reduceIte, Option.bind_some, Option.bind_none, kont_v, kont_n, q]
  | d + 1, u, f, s, a5, a6, a7, a8, a9, a10, hu => by
    have q : nI u < 9 := nI_lt (b := 9) (by omega) (by decide)
    obtain ⟨g1, g2, g3, g4⟩ := dig_le k hk u (by omega)
    have hk3 := ORL_lt k hk
    obtain ⟨s1, s2⟩ := stt_le (f8 := f8) (k := k) u
    obtain ⟨t1, t2⟩ := stt_le (f8 := f8) (k := k) (u + 1)
    obtain ⟨m, hm, em⟩ := hP (rrow k u) g3
    have r0 := (RE_off (B := B) (f := f) (s := s) (k := 55) (by decide) (by decide)).trans h0
    have r1 := (RE_off (B := B) (f := f) (s := s) (k := 56) (by decide) (by decide)).trans h1
    have er : 3 * dig k (FPl u) + SPl u = rrow k u := by unfold rrow; omega
    have eM : S (628 + 2 * rrow k u) = nI m := by rw [hS (2 * rrow k u) (by omega), Nat.mul_comm]; exact em
    have eB : S (628 + 2 * rrow k u + 1) = f8 (rrow k u * 2 + 1) := by rw [Nat.add_assoc, hS (2 * rrow k u + 1) (by omega), Nat.mul_comm]
    obtain ⟨z, z', lp⟩ := m_rl_loop (X := X) (B := RE B f s) (m := m) (till := 5 * (u + 1)) (x := 628 + 2 * rrow k u) (b := f8 (rrow k u * 2 + 1)) (a1 := .int (nI k)) (a4 := .int (nI u)) (a5 := .int (nI (FPl u))) (a6 := .int (nI (dig k (FPl u)))) r0 r1 (by omega) eM eB hm (by omega) m 0 (stt f8 k u) a10 (by omega) (by omega) (by omega)
    rw [nI_0] at lp
    have es : stt f8 k (u + 1) = rlp (f8 (rrow k u * 2 + 1)) (5 * (u + 1)) m 0 (stt f8 k u) := by
      show rlp _ _ (fnn _) 0 _ = _
      unfold fnn
      rw [em, nI_clamp (by omega)]
    rw [← es] at lp
    obtain ⟨f', s', ih1, ih2, ih3⟩ := m_mg_loop h0 h1 hS hP hk d (u + 1) (upd f u (nI (stt f8 k (u + 1)).1)) (upd s u (nI (stt f8 k (u + 1)).2)) (.int (nI (FPl u))) (.int (nI (dig k (FPl u)))) (.int (nI (628 + 2 * rrow k u))) (.int (nI (5 * (u + 1)))) z z' (by omega)
    refine ⟨f', s', ?_, fun j hj => ?_, fun v h1 h2 => ?_⟩
    · rw [← ih1, s224_7]
      have ef := m_first (X := X) (h := RE B f s) u (by omega)
      have e2 := m_second (X := X) (h := RE B f s) u (by omega)
      have h100 : ¬ (100 : Int32) = 0 := by decide
      have h10 : ¬ (10 : Int32) = 0 := by decide
      have d1 := dv100 (a := k) (by omega)
      have d2 := dv10 (a := k) (by omega)
      have d3 := rem10 (a := k) (by omega)
      have d4 := rem10 (a := k / 10) (by omega)
      rw [dv10 (by omega)] at d3
      have pick : ev X 224 21 [.ref 55, .int (nI k), .int (nI (stt f8 k u).1), .int (nI (stt f8 k u).2), .int (nI u), .int (nI (FPl u)), a6, a7, a8, a9, a10] [] (RE B f s) = ev X 224 55 [.ref 55, .int (nI k), .int (nI (stt f8 k u).1), .int (nI (stt f8 k u).2), .int (nI u), .int (nI (FPl u)), .int (nI (dig k (FPl u))), a7, a8, a9, a10] [] (RE B f s) := by
        unfold dig
        rcases (by omega : FPl u = 0 ∨ FPl u = 1 ∨ FPl u = 2) with p | p | p
        · rw [p, nI_0, if_pos rfl]
          simp only [s224_0, s224_1, s224_2, s224_3, s224_4, s224_5, s224_9, s224_11, s224_14, s224_16, s224_19, s224_21, s224_23, s224_26, s224_27, s224_29, s224_30, s224_33, s224_35, s224_36, s224_39, s224_40, s224_42, s224_43, s224_45, s224_46, s224_49, s224_50, s224_52, s224_53, s224_58, s224_59, s224_60, s224_62, s224_63, s224_65, s224_68, s224_69, s224_70, s224_71, s224_73, s224_74, s224_76, s224_77, s224_78, s224_79, s224_81, s224_82, s224_86, s224_87, s224_90, s224_92, s224_93, s224_96, s224_97, s224_99, s224_102, s224_103, s224_105, s224_108, s224_109, s224_112, s224_114, s224_115, s224_116, s224_117, s224_119, s224_120, s224_121, s224_122, s224_124, s224_125, s224_126, s224_128, s224_129, s224_130, s224_131, s224_132, s224_134, s224_135, s224_136, s224_139, s224_142, s224_143, s224_146, s224_148, s224_149, s224_150, s224_151, s224_154, s224_156, s224_157, s224_158, s224_161, s224_164, s224_165, s224_166, s224_167, okF, okA, mcC_o, mcF_o, mcT_i, mcT_l, mcT_z, mcT_q, mcN_i, mcN_l, mcN_z, mcN_q, mcI_i, mcI_z, mcL_l, mcQ_q, hg_hp, hp_hp, List.getD_cons_zero, List.getD_cons_succ, List.set_cons_zero, List.set_cons_succ, List.length_cons, List.length_nil, Nat.reduceAdd, Nat.reduceLT, Nat.reduceEqDiff, Nat.lt_add_one, decide_true, decide_false, Bool.and_true, Bool.true_and, Bool.and_false, Bool.false_and, Bool.false_eq_true, if_true, if_false, ↓reduceIte, Option.bind_some, Option.bind_none, kont_v, kont_n, h100, d1]
        · rw [p, ← nl_1, if_neg (by decide), if_pos rfl]
          simp only [s224_0, s224_1, s224_2, s224_3, s224_4, s224_5, s224_9, s224_11, s224_14, s224_16, s224_19, s224_21, s224_23, s224_26, s224_27, s224_29, s224_30, s224_33, s224_35, s224_36, s224_39, s224_40, s224_42, s224_43, s224_45, s224_46, s224_49, s224_50, s224_52, s224_53, s224_58, s224_59, s224_60, s224_62, s224_63, s224_65, s224_68, s224_69, s224_70, s224_71, s224_73, s224_74, s224_76, s224_77, s224_78, s224_79, s224_81, s224_82, s224_86, s224_87, s224_90, s224_92, s224_93, s224_96, s224_97, s224_99, s224_102, s224_103, s224_105, s224_108, s224_109, s224_112, s224_114, s224_115, s224_116, s224_117, s224_119, s224_120, s224_121, s224_122, s224_124, s224_125, s224_126, s224_128, s224_129, s224_130, s224_131, s224_132, s224_134, s224_135, s224_136, s224_139, s224_142, s224_143, s224_146, s224_148, s224_149, s224_150, s224_151, s224_154, s224_156, s224_157, s224_158, s224_161, s224_164, s224_165, s224_166, s224_167, okF, okA, mcC_o, mcF_o, mcT_i, mcT_l, mcT_z, mcT_q, mcN_i, mcN_l, mcN_z, mcN_q, mcI_i, mcI_z, mcL_l, mcQ_q, hg_hp, hp_hp, List.getD_cons_zero, List.getD_cons_succ, List.set_cons_zero, List.set_cons_succ, List.length_cons, List.length_nil, Nat.reduceAdd, Nat.reduceLT, Nat.reduceEqDiff, Nat.lt_add_one, decide_true, decide_false, Bool.and_true, Bool.true_and, Bool.and_false, Bool.false_and, Bool.false_eq_true, if_true, if_false, ↓reduceIte, Option.bind_some, Option.bind_none, kont_v, kont_n, h10, d2, d4, one0, eq_self]
        · rw [p, ← nl_2, if_neg (by decide), if_neg (by decide)]
          simp only [s224_0, s224_1, s224_2, s224_3, s224_4, s224_5, s224_9, s224_11, s224_14, s224_16, s224_19, s224_21, s224_23, s224_26, s224_27, s224_29, s224_30, s224_33, s224_35, s224_36, s224_39, s224_40, s224_42, s224_43, s224_45, s224_46, s224_49, s224_50, s224_52, s224_53, s224_58, s224_59, s224_60, s224_62, s224_63, s224_65, s224_68, s224_69, s224_70, s224_71, s224_73, s224_74, s224_76, s224_77, s224_78, s224_79, s224_81, s224_82, s224_86, s224_87, s224_90, s224_92, s224_93, s224_96, s224_97, s224_99, s224_102, s224_103, s224_105, s224_108, s224_109, s224_112, s224_114, s224_115, s224_116, s224_117, s224_119, s224_120, s224_121, s224_122, s224_124, s224_125, s224_126, s224_128, s224_129, s224_130, s224_131, s224_132, s224_134, s224_135, s224_136, s224_139, s224_142, s224_143, s224_146, s224_148, s224_149, s224_150, s224_151, s224_154, s224_156, s224_157, s224_158, s224_161, s224_164, s224_165, s224_166, s224_167, okF, okA, mcC_o, mcF_o, mcT_i, mcT_l, mcT_z, mcT_q, mcN_i, mcN_l, mcN_z, mcN_q, mcI_i, mcI_z, mcL_l, mcQ_q, hg_hp, hp_hp, List.getD_cons_zero, List.getD_cons_succ, List.set_cons_zero, List.set_cons_succ, List.length_cons, List.length_nil, Nat.reduceAdd, Nat.reduceLT, Nat.reduceEqDiff, Nat.lt_add_one, decide_true, decide_false, Bool.and_true, Bool.true_and, Bool.and_false, Bool.false_and, Bool.false_eq_true, if_true, if_false, ↓reduceIte, Option.bind_some, Option.bind_none, kont_v, kont_n, h10, d2, d3, show ¬ (2 : Int32) = 0 by decide, show ¬ (2 : Int32) = 1 by decide]
      simp only [s224_0, s224_1, s224_2, s224_3, s224_4, s224_5, s224_9, s224_11, s224_14, s224_16, s224_19, s224_23, s224_26, s224_27, s224_29, s224_30, s224_33, s224_35, s224_36, s224_39, s224_40, s224_42, s224_43, s224_45, s224_46, s224_49, s224_50, s224_52, s224_53, s224_55, s224_58, s224_59, s224_60, s224_62, s224_63, s224_65, s224_68, s224_69, s224_70, s224_71, s224_73, s224_74, s224_76, s224_77, s224_78, s224_79, s224_81, s224_82, s224_86, s224_87, s224_90, s224_92, s224_93, s224_96, s224_97, s224_99, s224_102, s224_103, s224_105, s224_108, s224_109, s224_112, s224_114, s224_115, s224_116, s224_117, s224_119, s224_120, s224_121, s224_122, s224_124, s224_125, s224_126, s224_128, s224_129, s224_130, s224_131, s224_132, s224_134, s224_135, s224_136, s224_139, s224_142, s224_143, s224_146, s224_148, s224_149, s224_150, s224_151, s224_154, s224_156, s224_157, s224_158, s224_161, s224_164, s224_165, s224_166, s224_167, okF, okA, mcC_o, mcF_o, mcT_i, mcT_l, mcT_z, mcT_q, mcN_i, mcN_l, mcN_z, mcN_q, mcI_i, mcI_z, mcL_l, mcQ_q, hg_hp, hp_hp, List.getD_cons_zero, List.getD_cons_succ, List.set_cons_zero, List.set_cons_succ, List.length_cons, List.length_nil, Nat.reduceAdd, Nat.reduceLT, Nat.reduceEqDiff, Nat.lt_add_one, decide_true, decide_false, Bool.and_true, Bool.true_and, Bool.and_false, Bool.false_and, Bool.false_eq_true, if_true, if_false, ↓reduceIte, Option.bind_some, Option.bind_none, kont_v, kont_n, q, ef]
      rw [pick]
      simp (disch := omega) only [s224_0, s224_1, s224_2, s224_3, s224_4, s224_5, s224_9, s224_11, s224_14, s224_16, s224_19, s224_21, s224_23, s224_26, s224_27, s224_29, s224_30, s224_33, s224_35, s224_36, s224_39, s224_40, s224_42, s224_43, s224_45, s224_46, s224_49, s224_50, s224_52, s224_53, s224_55, s224_58, s224_59, s224_60, s224_62, s224_63, s224_65, s224_68, s224_69, s224_70, s224_71, s224_73, s224_74, s224_76, s224_77, s224_78, s224_79, s224_81, s224_82, s224_86, s224_87, s224_90, s224_92, s224_93, s224_96, s224_97, s224_99, s224_102, s224_103, s224_105, s224_108, s224_109, s224_112, s224_114, s224_115, s224_116, s224_117, s224_119, s224_120, s224_121, s224_122, s224_124, s224_125, s224_126, s224_128, s224_129, s224_130, s224_131, s224_132, s224_134, s224_135, s224_136, s224_139, s224_143, s224_146, s224_148, s224_149, s224_150, s224_151, s224_154, s224_156, s224_157, s224_158, s224_161, s224_164, s224_165, s224_166, s224_167, okF, okA, mcC_o, mcF_o, mcT_i, mcT_l, mcT_z, mcT_q, mcN_i, mcN_l, mcN_z, mcN_q, mcI_i, mcI_z, mcL_l, mcQ_q, hg_hp, hp_hp, List.getD_cons_zero, List.getD_cons_succ, List.set_cons_zero, List.set_cons_succ, List.length_cons, List.length_nil, Nat.reduceAdd, Nat.reduceLT, Nat.reduceEqDiff, Nat.lt_add_one, decide_true, decide_false, Bool.and_true, Bool.true_and, Bool.and_false, Bool.false_and, Bool.false_eq_true, if_true, if_false, ↓reduceIte, Option.bind_some, Option.bind_none, kont_v, kont_n, r0, nm_3, e2, nI_add, er, nm_2, na_628, nI_1, nm_5]
      rw [lp]
      simp (disch := omega) only [s224_0, s224_1, s224_2, s224_3, s224_4, s224_5, s224_9, s224_11, s224_14, s224_16, s224_19, s224_21, s224_23, s224_26, s224_27, s224_29, s224_30, s224_33, s224_35, s224_36, s224_39, s224_40, s224_42, s224_43, s224_45, s224_46, s224_49, s224_50, s224_52, s224_53, s224_55, s224_58, s224_59, s224_60, s224_62, s224_63, s224_65, s224_68, s224_69, s224_70, s224_71, s224_73, s224_74, s224_76, s224_77, s224_78, s224_79, s224_81, s224_82, s224_86, s224_87, s224_90, s224_92, s224_93, s224_96, s224_97, s224_99, s224_102, s224_103, s224_105, s224_108, s224_109, s224_112, s224_114, s224_115, s224_116, s224_117, s224_119, s224_120, s224_121, s224_122, s224_124, s224_125, s224_126, s224_128, s224_129, s224_130, s224_131, s224_132, s224_134, s224_135, s224_136, s224_139, s224_142, s224_143, s224_146, s224_148, s224_149, s224_150, s224_151, s224_154, s224_156, s224_157, s224_158, s224_161, s224_164, s224_165, s224_166, s224_167, okF, okA, mcC_o, mcF_o, mcT_i, mcT_l, mcT_z, mcT_q, mcN_i, mcN_l, mcN_z, mcN_q, mcI_i, mcI_z, mcL_l, mcQ_q, hg_hp, hp_hp, List.getD_cons_zero, List.getD_cons_succ, List.set_cons_zero, List.set_cons_succ, List.length_cons, List.length_nil, Nat.reduceAdd, Nat.reduceLT, Nat.reduceEqDiff, Nat.lt_add_one, decide_true, decide_false, Bool.and_true, Bool.true_and, Bool.and_false, Bool.false_and, Bool.false_eq_true, if_true, if_false, ↓reduceIte, Option.bind_some, Option.bind_none, kont_v, kont_n, MO_len, MO_37, MO_38, r0, RE_84, RE_85, REu_84, REu_85, RE_off, h0, nI_clamp, inR_n, nI_1]
    · obtain ⟨x1, x2⟩ := ih2 j (by omega)
      exact ⟨by rw [x1, upd_ne (by omega)], by rw [x2, upd_ne (by omega)]⟩
    · by_cases e : v = u
      · subst e
        obtain ⟨x1, x2⟩ := ih2 v (by omega)
        exact ⟨by rw [x1, upd_eq], by rw [x2, upd_eq]⟩
      · exact ih3 v (by omega) h2
theorem m_marginOf {k : Nat} {f8 f s : Nat → Int32} {io wl pl sp wa se bc sv bq : Int32} (h0 : hg h 55 = oB 12 (MO io wl pl sp wa se bc sv bq)) (h1 : hg h 56 = iA 16450 S) (hS : ∀ i, i < 18 → S (628 + i) = f8 i) (hP : PRS f8) (hk : k ∈ ORL) (h84 : hg h 84 = iA 9 f) (h85 : hg h 85 = iA 9 s) : ∃ f' s', (ev X 224 0 [.ref 55, .int (nI k), .float 0, .float 0, .float 0, .float 0, .float 0, .float 0, .float 0, .float 0, .float 0] [] (h)) = some (some (.int (nI (stt f8 k 9).1 - nI (stt f8 k 9).2)), (RE h f' s')) ∧ ∀ v, v < 9 → f' v = nI (stt f8 k (v + 1)).1 ∧ s' v = nI (stt f8 k (v + 1)).2 := by
  have es : RE h f s = h := by
    unfold RE
    rw [hp_self h84, hp_self h85]
  obtain ⟨f', s', lp, -, h2⟩ := m_mg_loop (X := X) h0 h1 hS hP hk 9 0 f s (.float 0) (.float 0) (.float 0) (.float 0) (.float 0) (.float 0) (by omega)
  rw [es] at lp
  refine ⟨f', s', ?_, fun v hv => h2 v (by omega) hv⟩
  simp only [s224_0, s224_1, s224_2, s224_3, s224_4, s224_5, s224_9, s224_11, s224_14, s224_16, s224_19, s224_21, s224_23, s224_26, s224_27, s224_29, s224_30, s224_33, s224_35, s224_36, s224_39, s224_40, s224_42, s224_43, s224_45, s224_46, s224_49, s224_50, s224_52, s224_53, s224_55, s224_58, s224_59, s224_60, s224_62, s224_63, s224_65, s224_68, s224_69, s224_70, s224_71, s224_73, s224_74, s224_76, s224_77, s224_78, s224_79, s224_81, s224_82, s224_86, s224_87, s224_90, s224_92, s224_93, s224_96, s224_97, s224_99, s224_102, s224_103, s224_105, s224_108, s224_109, s224_112, s224_114, s224_115, s224_116, s224_117, s224_119, s224_120, s224_121, s224_122, s224_124, s224_125, s224_126, s224_128, s224_129, s224_130, s224_131, s224_132, s224_134, s224_135, s224_136, s224_139, s224_142, s224_143, s224_146, s224_148, s224_149, s224_150, s224_151, s224_154, s224_156, s224_157, s224_158, s224_161, s224_164, s224_165, s224_166, s224_167, okF, okA, mcC_o, mcF_o, mcT_i, mcT_l, mcT_z, mcT_q, mcN_i, mcN_l, mcN_z, mcN_q, mcI_i, mcI_z, mcL_l, mcQ_q, hg_hp, hp_hp, List.getD_cons_zero, List.getD_cons_succ, List.set_cons_zero, List.set_cons_succ, List.length_cons, List.length_nil, Nat.reduceAdd, Nat.reduceLT, Nat.reduceEqDiff, Nat.lt_add_one, decide_true, decide_false, Bool.and_true, Bool.true_and, Bool.and_false, Bool.false_and, Bool.false_eq_true, if_true, if_false, ↓reduceIte, Option.bind_some, Option.bind_none, kont_v, kont_n]
  exact lp
theorem RE_MOK (F : FIX h) {f s : Nat → Int32} : MOK h (RE h f s) := ((MOK.refl F).put (k := 84) (by decide) ⟨_, rfl⟩).put (k := 85) (by decide) ⟨_, rfl⟩
theorem S_relay (I : INVD t h D S IM KP) {o w : Int32} : SAME X t h 141 [.ref 0, .int o, .int w, .float 0] 222 [.ref 55, .int o, .int w, .float 0] := by
  have I' := I
  obtain ⟨L, F, M, R, N, G⟩ := I
  have hP : PRS (D.2.1 8) := N.2.2.2.2.2.2.1
  have hS : ∀ i, i < 18 → S (628 + i) = D.2.1 8 i := fun i hi => R.s (i := 8) (c := i) (by decide) (by decide) hi rfl
  obtain ⟨v, ec, hv⟩ := c_isOrder (X := X) (h := h) (o := o)
  rcases hv with ⟨rfl, hv⟩ | ⟨rfl, hv⟩
  · have mo : ∀ h' : MH, (ev X 223 0 [.int o, .float 0, .float 0, .float 0] [] (h')) = some (some (.int (1)), (h')) := fun h' => by
      obtain ⟨v, e, q⟩ := m_isOrder (X := X) (h := h') (o := o)
      rcases q with ⟨rfl, -⟩ | ⟨-, q⟩
      · exact e
      · exact absurd hv q
    by_cases gw : wi w (-1) 17 = 0
    · refine step_id I' (v := .int (-1000)) (by simp only [s141_0, s141_1, s141_4, s141_5, s141_8, s141_11, s141_12, s141_13, s141_15, s141_18, s141_21, s141_24, s141_25, s141_26, s141_29, s141_30, s141_33, s141_34, s141_35, s141_36, s141_39, s141_40, s141_43, s141_44, s141_47, s141_48, s141_51, okF, okA, mcC_o, mcF_o, mcT_i, mcT_l, mcT_z, mcT_q, mcN_i, mcN_l, mcN_z, mcN_q, mcI_i, mcI_z, mcL_l, mcQ_q, hg_hp, hp_hp, List.getD_cons_zero, List.getD_cons_succ, List.set_cons_zero, List.set_cons_succ, List.length_cons, List.length_nil, Nat.reduceAdd, Nat.reduceLT, Nat.reduceEqDiff, Nat.lt_add_one, decide_true, decide_false, Bool.and_true, Bool.true_and, Bool.and_false, Bool.false_and, Bool.false_eq_true, if_true, if_false, ↓reduceIte, Option.bind_some, Option.bind_none, kont_v, kont_n, F.c0, F.c51, ec, one0, c_within, gw]) (fun h' q0 q1 => ?_)
      simp only [s222_0, s222_1, s222_4, s222_7, s222_8, s222_9, s222_11, s222_14, s222_17, s222_20, s222_21, s222_22, s222_23, s222_26, s222_27, s222_28, s222_29, s222_32, s222_33, s222_36, s222_37, s222_38, s222_39, s222_42, s222_43, s222_46, s222_47, s222_48, s222_49, s222_50, s222_53, s222_54, s222_57, s222_58, s222_59, s222_60, s222_61, okF, okA, mcC_o, mcF_o, mcT_i, mcT_l, mcT_z, mcT_q, mcN_i, mcN_l, mcN_z, mcN_q, mcI_i, mcI_z, mcL_l, mcQ_q, hg_hp, hp_hp, List.getD_cons_zero, List.getD_cons_succ, List.set_cons_zero, List.set_cons_succ, List.length_cons, List.length_nil, Nat.reduceAdd, Nat.reduceLT, Nat.reduceEqDiff, Nat.lt_add_one, decide_true, decide_false, Bool.and_true, Bool.true_and, Bool.and_false, Bool.false_and, Bool.false_eq_true, if_true, if_false, ↓reduceIte, Option.bind_some, Option.bind_none, kont_v, kont_n, mo, one0, m_in, gw]
    obtain ⟨k, hk, rfl⟩ := ORI_k hv
    obtain ⟨A, h52⟩ := F.c52
    obtain ⟨A', em, hA⟩ := c_marginOf (X := X) L F hP hk h52
    have K1 : COK h (hp h 52 (iA 18 A')) := (COK.refl F).put (k := 52) (by decide) ⟨_, rfl⟩
    have L1 : LG (hp h 52 (iA 18 A')) 1 D := hp_lg L (by decide)
    by_cases w1 : w = -1
    · subst w1
      refine step_ok I' (D' := D) (v := .int (nI (stt (D.2.1 8) k 9).1 - nI (stt (D.2.1 8) k 9).2)) ⟨_, ?_, K1, L1⟩ (fun h' F' M' => ?_) R (N.mono (by omega))
      · simp only [s141_0, s141_1, s141_4, s141_5, s141_8, s141_11, s141_12, s141_13, s141_15, s141_18, s141_21, s141_24, s141_25, s141_26, s141_29, s141_30, s141_33, s141_34, s141_35, s141_36, s141_39, s141_40, s141_43, s141_44, s141_47, s141_48, s141_51, okF, okA, mcC_o, mcF_o, mcT_i, mcT_l, mcT_z, mcT_q, mcN_i, mcN_l, mcN_z, mcN_q, mcI_i, mcI_z, mcL_l, mcQ_q, hg_hp, hp_hp, List.getD_cons_zero, List.getD_cons_succ, List.set_cons_zero, List.set_cons_succ, List.length_cons, List.length_nil, Nat.reduceAdd, Nat.reduceLT, Nat.reduceEqDiff, Nat.lt_add_one, decide_true, decide_false, Bool.and_true, Bool.true_and, Bool.and_false, Bool.false_and, Bool.false_eq_true, if_true, if_false, ↓reduceIte, Option.bind_some, Option.bind_none, kont_v, kont_n, F.c0, F.c51, ec, one0, c_within, gw, em, eq_self]
      · obtain ⟨f, h84⟩ := F'.c84
        obtain ⟨s, h85⟩ := F'.c85
        obtain ⟨io, wl, pl, sp, wa, se, bc, sv, bq, h0⟩ := F'.c55
        obtain ⟨f', s', mm, -⟩ := m_marginOf (X := X) h0 M'.1 hS hP hk h84 h85
        refine ⟨_, ?_, RE_MOK F' (f := f') (s := s'), M'.same (fun k h1 h2 => RE_off (by omega) (by omega))⟩
        simp only [s222_0, s222_1, s222_4, s222_7, s222_8, s222_9, s222_11, s222_14, s222_17, s222_20, s222_21, s222_22, s222_23, s222_26, s222_27, s222_28, s222_29, s222_32, s222_33, s222_36, s222_37, s222_38, s222_39, s222_42, s222_43, s222_46, s222_47, s222_48, s222_49, s222_50, s222_53, s222_54, s222_57, s222_58, s222_59, s222_60, s222_61, okF, okA, mcC_o, mcF_o, mcT_i, mcT_l, mcT_z, mcT_q, mcN_i, mcN_l, mcN_z, mcN_q, mcI_i, mcI_z, mcL_l, mcQ_q, hg_hp, hp_hp, List.getD_cons_zero, List.getD_cons_succ, List.set_cons_zero, List.set_cons_succ, List.length_cons, List.length_nil, Nat.reduceAdd, Nat.reduceLT, Nat.reduceEqDiff, Nat.lt_add_one, decide_true, decide_false, Bool.and_true, Bool.true_and, Bool.and_false, Bool.false_and, Bool.false_eq_true, if_true, if_false, ↓reduceIte, Option.bind_some, Option.bind_none, kont_v, kont_n, h0, mo, one0, m_in, gw, mm, eq_self]
    · have w17 : ∃ j, j < 18 ∧ w = nI j := by
        obtain ⟨-, w2⟩ := wi_1 gw
        have h3 : ¬ w < 0 := fun z => by
          obtain ⟨q1, -⟩ := w2
          rw [Int32.lt_iff_toInt_lt] at q1 z
          rw [show (-1 : Int32).toInt = -1 by decide] at q1
          rw [z_toInt] at z
          exact w1 (Int32.toInt_inj.mp (by rw [show (-1 : Int32).toInt = -1 by decide]; omega))
        obtain ⟨j, hj, rfl⟩ := nI_of h3
        have := w2.2
        refine ⟨j, ?_, rfl⟩
        by_cases q : j < 18
        · exact q
        · exact absurd (nI_lt (a := 17) (b := j) (by omega) (by omega)) this
      obtain ⟨j, hj, rfl⟩ := w17
      have a52 : hg (hp h 52 (iA 18 A')) 52 = iA 18 A' := by rw [hg_hp, if_pos rfl]
      have a51 : hg (hp h 52 (iA 18 A')) 51 = oB 9 [.ref 18, .ref 52] := by rw [hg_hp, if_neg (by decide)]; exact F.c51
      have ht : mcT (hg (hp h 52 (iA 18 A')) 52) ≤ 3 := by rw [a52]; show (0 : Nat) ≤ 3; omega
      have i18 : Int32.ofNat 18 - 1 = nI 17 := by decide
      have ew : wi (nI j) 0 (nI 17) = 1 := by
        have := wi_nn (a := j) (b := 0) (c := 17) (by omega) (by omega) (by omega)
        rw [if_pos (by omega)] at this
        exact this
      refine step_ok I' (D' := D) (v := .int (A' j)) ⟨_, ?_, K1, L1⟩ (fun h' F' M' => ?_) R (N.mono (by omega))
      · simp (disch := omega) only [s141_0, s141_1, s141_4, s141_5, s141_8, s141_11, s141_12, s141_13, s141_15, s141_18, s141_21, s141_24, s141_25, s141_26, s141_29, s141_30, s141_33, s141_34, s141_35, s141_36, s141_39, s141_40, s141_43, s141_44, s141_47, s141_48, s141_51, s96_0, s96_1, s96_2, s96_3, s96_6, s96_7, s96_8, s96_9, s96_12, s96_15, s96_16, s96_19, s96_20, s96_20_r1, s96_20_r2, s96_20_r3, s96_21, s96_24, s96_25, okF, okA, mcC_o, mcF_o, mcT_i, mcT_l, mcT_z, mcT_q, mcN_i, mcN_l, mcN_z, mcN_q, mcI_i, mcI_z, mcL_l, mcQ_q, hg_hp, hp_hp, List.getD_cons_zero, List.getD_cons_succ, List.set_cons_zero, List.set_cons_succ, List.length_cons, List.length_nil, Nat.reduceAdd, Nat.reduceLT, Nat.reduceEqDiff, Nat.lt_add_one, decide_true, decide_false, Bool.and_true, Bool.true_and, Bool.and_false, Bool.false_and, Bool.false_eq_true, if_true, if_false, ↓reduceIte, Option.bind_some, Option.bind_none, kont_v, kont_n, F.c0, F.c51, ec, one0, c_within, gw, em, w1, a52, a51, Nat.zero_le, i18, ew, nI_clamp, inR_n]
      · obtain ⟨f, h84⟩ := F'.c84
        obtain ⟨s, h85⟩ := F'.c85
        obtain ⟨io, wl, pl, sp, wa, se, bc, sv, bq, h0⟩ := F'.c55
        obtain ⟨f', s', mm, hfs⟩ := m_marginOf (X := X) h0 M'.1 hS hP hk h84 h85
        refine ⟨_, ?_, RE_MOK F' (f := f') (s := s'), M'.same (fun k h1 h2 => RE_off (by omega) (by omega))⟩
        have r0 := (RE_off (B := h') (f := f') (s := s') (k := 55) (by decide) (by decide)).trans h0
        have two : ¬ (2 : Int32) = 0 := by decide
        have d2 : nI j / 2 = nI (j / 2) := pk_div (d := 2) (by omega) (by decide) (by decide)
        have r2 : nI j - nI j / 2 * 2 = nI (j % 2) := pk_rem (d := 2) (by omega) (by decide) (by decide)
        rw [d2] at r2
        obtain ⟨b1, b2⟩ := hA (j / 2) (by omega)
        obtain ⟨c1, c2⟩ := hfs (j / 2) (by omega)
        rcases (by omega : j % 2 = 0 ∨ j % 2 = 1) with p | p
        · rw [p] at r2
          have eA : A' j = f' (j / 2) := by rw [show j = 2 * (j / 2) by omega, b1, show 2 * (j / 2) / 2 = j / 2 by omega, c1]
          rw [eA]
          simp (disch := omega) only [s222_0, s222_1, s222_4, s222_7, s222_8, s222_9, s222_11, s222_14, s222_17, s222_20, s222_21, s222_22, s222_23, s222_26, s222_27, s222_28, s222_29, s222_32, s222_33, s222_36, s222_37, s222_38, s222_39, s222_42, s222_43, s222_46, s222_47, s222_48, s222_49, s222_50, s222_53, s222_54, s222_57, s222_58, s222_59, s222_60, s222_61, okF, okA, mcC_o, mcF_o, mcT_i, mcT_l, mcT_z, mcT_q, mcN_i, mcN_l, mcN_z, mcN_q, mcI_i, mcI_z, mcL_l, mcQ_q, hg_hp, hp_hp, List.getD_cons_zero, List.getD_cons_succ, List.set_cons_zero, List.set_cons_succ, List.length_cons, List.length_nil, Nat.reduceAdd, Nat.reduceLT, Nat.reduceEqDiff, Nat.lt_add_one, decide_true, decide_false, Bool.and_true, Bool.true_and, Bool.and_false, Bool.false_and, Bool.false_eq_true, if_true, if_false, ↓reduceIte, Option.bind_some, Option.bind_none, kont_v, kont_n, MO_len, MO_37, MO_38, h0, mo, one0, m_in, gw, mm, w1, r0, two, d2, r2, nI_0, RE_84, nI_clamp, inR_n]
        · rw [p] at r2
          have eA : A' j = s' (j / 2) := by
            have e2 : j = 2 * (j / 2) + 1 := by omega
            rw [c2, ← b2, ← e2]
          rw [eA]
          simp (disch := omega) only [s222_0, s222_1, s222_4, s222_7, s222_8, s222_9, s222_11, s222_14, s222_17, s222_20, s222_21, s222_22, s222_23, s222_26, s222_27, s222_28, s222_29, s222_32, s222_33, s222_36, s222_37, s222_38, s222_39, s222_42, s222_43, s222_46, s222_47, s222_48, s222_49, s222_50, s222_53, s222_54, s222_57, s222_58, s222_59, s222_60, s222_61, okF, okA, mcC_o, mcF_o, mcT_i, mcT_l, mcT_z, mcT_q, mcN_i, mcN_l, mcN_z, mcN_q, mcI_i, mcI_z, mcL_l, mcQ_q, hg_hp, hp_hp, List.getD_cons_zero, List.getD_cons_succ, List.set_cons_zero, List.set_cons_succ, List.length_cons, List.length_nil, Nat.reduceAdd, Nat.reduceLT, Nat.reduceEqDiff, Nat.lt_add_one, decide_true, decide_false, Bool.and_true, Bool.true_and, Bool.and_false, Bool.false_and, Bool.false_eq_true, if_true, if_false, ↓reduceIte, Option.bind_some, Option.bind_none, kont_v, kont_n, MO_len, MO_37, MO_38, h0, mo, one0, m_in, gw, mm, w1, r0, two, d2, r2, show ¬ nI 1 = 0 by decide, RE_85, nI_clamp, inR_n]
  · have mo : ∀ h' : MH, (ev X 223 0 [.int o, .float 0, .float 0, .float 0] [] (h')) = some (some (.int (0)), (h')) := fun h' => by
      obtain ⟨v, e, q⟩ := m_isOrder (X := X) (h := h') (o := o)
      rcases q with ⟨-, q⟩ | ⟨rfl, -⟩
      · exact absurd q hv
      · exact e
    refine step_id I' (v := .int (-1000)) (by simp only [s141_0, s141_1, s141_4, s141_5, s141_8, s141_11, s141_12, s141_13, s141_15, s141_18, s141_21, s141_24, s141_25, s141_26, s141_29, s141_30, s141_33, s141_34, s141_35, s141_36, s141_39, s141_40, s141_43, s141_44, s141_47, s141_48, s141_51, okF, okA, mcC_o, mcF_o, mcT_i, mcT_l, mcT_z, mcT_q, mcN_i, mcN_l, mcN_z, mcN_q, mcI_i, mcI_z, mcL_l, mcQ_q, hg_hp, hp_hp, List.getD_cons_zero, List.getD_cons_succ, List.set_cons_zero, List.set_cons_succ, List.length_cons, List.length_nil, Nat.reduceAdd, Nat.reduceLT, Nat.reduceEqDiff, Nat.lt_add_one, decide_true, decide_false, Bool.and_true, Bool.true_and, Bool.and_false, Bool.false_and, Bool.false_eq_true, if_true, if_false, ↓reduceIte, Option.bind_some, Option.bind_none, kont_v, kont_n, F.c0, F.c51, ec]) (fun h' q0 q1 => ?_)
    simp only [s222_0, s222_1, s222_4, s222_7, s222_8, s222_9, s222_11, s222_14, s222_17, s222_20, s222_21, s222_22, s222_23, s222_26, s222_27, s222_28, s222_29, s222_32, s222_33, s222_36, s222_37, s222_38, s222_39, s222_42, s222_43, s222_46, s222_47, s222_48, s222_49, s222_50, s222_53, s222_54, s222_57, s222_58, s222_59, s222_60, s222_61, okF, okA, mcC_o, mcF_o, mcT_i, mcT_l, mcT_z, mcT_q, mcN_i, mcN_l, mcN_z, mcN_q, mcI_i, mcI_z, mcL_l, mcQ_q, hg_hp, hp_hp, List.getD_cons_zero, List.getD_cons_succ, List.set_cons_zero, List.set_cons_succ, List.length_cons, List.length_nil, Nat.reduceAdd, Nat.reduceLT, Nat.reduceEqDiff, Nat.lt_add_one, decide_true, decide_false, Bool.and_true, Bool.true_and, Bool.and_false, Bool.false_and, Bool.false_eq_true, if_true, if_false, ↓reduceIte, Option.bind_some, Option.bind_none, kont_v, kont_n, mo]
end RL2

-- BESIDE 3
section BE3
variable {X : MX} {t : Nat} {h B H : MH} {D : LD} {S IM KP : Nat → Int32}
theorem rl_inj {c c' : Int64} {H H' : MH} (e : (some (some (Value.long c), H) : Option (Option Value × MH)) = some (some (Value.long c'), H')) : c = c' := Value.long.inj (Option.some.inj (congrArg (fun p => p.1) (Option.some.inj e)))
theorem c_sorted {n : Nat} {tl : Nat → Int64} (h31 : hg B 31 = oB 6 [.ref 1, .ref 22, .ref 23, .ref 32, .ref 34, .ref 35, .ref 36, .int (nI n)]) (hn : n ≤ 7) {r : Nat → Int32} {V : Nat → Int64} (h34 : hg B 34 = iA 7 r) (h36 : hg B 36 = lA 7 V) (hr : ∀ j, j < n → ∃ g, g < 16 ∧ r j = nI g ∧ V j = tl g) : ∃ V', (ev X 71 0 [.ref 31, .float 0, .float 0, .float 0, .float 0, .float 0] [] (B)) = some (none, (BSH B (srt (aht tl) (n - 1) 1 r) V')) := by
  have eB : BSH B r V = B := by unfold BSH; rw [hp_self h34, hp_self h36]
  have key : ∀ a2 a3 a4 a5, ∃ V', ev X 71 2 [.ref 31, .int 1, a2, a3, a4, a5] [] B = some (none, (BSH B (srt (aht tl) (n - 1) 1 r) V')) := fun a2 a3 a4 a5 => by
    by_cases z : n = 0
    · subst z
      refine ⟨V, ?_⟩
      have l : ¬ (1 : Int32) < nI 0 := by decide
      show _ = some (none, (BSH B r V))
      rw [eB, s71_2]
      simp only [s71_0, s71_1, s71_3, s71_4, s71_7, s71_10, s71_11, s71_14, s71_15, s71_16, s71_17, s71_18, s71_21, s71_22, s71_23, s71_24, s71_25, s71_29, s71_32, s71_33, s71_36, s71_38, s71_39, s71_40, s71_41, s71_42, s71_43, s71_46, s71_47, s71_50, s71_52, s71_53, s71_56, s71_58, s71_59, s71_60, s71_61, s71_62, s71_63, s71_66, s71_68, s71_69, s71_72, s71_74, s71_75, s71_76, s71_77, s71_78, s71_81, s71_84, s71_85, s71_88, s71_90, s71_91, s71_92, s71_93, s71_96, s71_98, s71_99, s71_100, s71_103, s71_106, okF, okA, mcC_o, mcF_o, mcT_i, mcT_l, mcT_z, mcT_q, mcN_i, mcN_l, mcN_z, mcN_q, mcI_i, mcI_z, mcL_l, mcQ_q, hg_hp, hp_hp, List.getD_cons_zero, List.getD_cons_succ, List.set_cons_zero, List.set_cons_succ, List.length_cons, List.length_nil, Nat.reduceAdd, Nat.reduceLT, Nat.reduceEqDiff, Nat.lt_add_one, decide_true, decide_false, Bool.and_true, Bool.true_and, Bool.and_false, Bool.false_and, Bool.false_eq_true, if_true, if_false, ↓reduceIte, Option.bind_some, Option.bind_none, kont_v, kont_n, h31, l]
    · obtain ⟨V', e⟩ := c_so_lp (X := X) (tl := tl) h31 hn (n - 1) 1 r V a2 a3 a4 a5 (by omega) hr
      rw [eB] at e
      exact ⟨V', e⟩
  obtain ⟨V', e⟩ := key (.float 0) (.float 0) (.float 0) (.float 0)
  refine ⟨V', ?_⟩
  simp only [s71_0, s71_1, s71_3, s71_4, s71_7, s71_10, s71_11, s71_14, s71_15, s71_16, s71_17, s71_18, s71_21, s71_22, s71_23, s71_24, s71_25, s71_27, s71_29, s71_32, s71_33, s71_36, s71_38, s71_39, s71_40, s71_41, s71_42, s71_43, s71_46, s71_47, s71_50, s71_52, s71_53, s71_56, s71_58, s71_59, s71_60, s71_61, s71_62, s71_63, s71_66, s71_68, s71_69, s71_72, s71_74, s71_75, s71_76, s71_77, s71_78, s71_81, s71_84, s71_85, s71_88, s71_90, s71_91, s71_92, s71_93, s71_96, s71_98, s71_99, s71_100, s71_103, s71_106, okF, okA, mcC_o, mcF_o, mcT_i, mcT_l, mcT_z, mcT_q, mcN_i, mcN_l, mcN_z, mcN_q, mcI_i, mcI_z, mcL_l, mcQ_q, hg_hp, hp_hp, List.getD_cons_zero, List.getD_cons_succ, List.set_cons_zero, List.set_cons_succ, List.length_cons, List.length_nil, Nat.reduceAdd, Nat.reduceLT, Nat.reduceEqDiff, Nat.lt_add_one, decide_true, decide_false, Bool.and_true, Bool.true_and, Bool.and_false, Bool.false_and, Bool.false_eq_true, if_true, if_false, ↓reduceIte, Option.bind_some, Option.bind_none, kont_v, kont_n]
  exact e
theorem m_sorted {n : Nat} {tl : Nat → Int64} {io wl sp wa se bc sv bq : Int32} (h0 : hg H 55 = oB 12 (MO io wl (nI n) sp wa se bc sv bq)) {T : Nat → Int64} (h76 : hg H 76 = lA 16 T) (hn : n ≤ 7) {r : Nat → Int32} (h70 : hg H 70 = iA 16 r) {a1 a2 a3 a5 a6 : Value} (hr : ∀ j, j < n → ∃ g, g < 16 ∧ r j = nI g ∧ T g = tl g) : ∃ b4 b5 b6 : Value, ev X 204 81 [.ref 55, a1, a2, a3, .int (nI n), a5, a6] [] H = ev X 204 173 [.ref 55, a1, a2, a3, b4, b5, b6] [] (hp H 70 (iA 16 (srt (aht tl) (n - 1) 1 r))) := by
  have eH : hp H 70 (iA 16 r) = H := hp_self h70
  have st : ev X 204 81 [.ref 55, a1, a2, a3, .int (nI n), a5, a6] [] H = ev X 204 84 [.ref 55, a1, a2, a3, .int 1, a5, a6] [] H := by
    simp only [s204_0, s204_1, s204_4, s204_7, s204_8, s204_9, s204_10, s204_13, s204_16, s204_17, s204_20, s204_22, s204_23, s204_24, s204_25, s204_28, s204_29, s204_32, s204_34, s204_35, s204_36, s204_37, s204_40, s204_41, s204_43, s204_45, s204_46, s204_49, s204_52, s204_53, s204_56, s204_57, s204_60, s204_62, s204_63, s204_64, s204_65, s204_68, s204_70, s204_71, s204_74, s204_75, s204_78, s204_81, s204_82, s204_86, s204_87, s204_90, s204_93, s204_94, s204_97, s204_99, s204_100, s204_102, s204_104, s204_106, s204_108, s204_111, s204_112, s204_115, s204_116, s204_119, s204_121, s204_122, s204_123, s204_124, s204_125, s204_126, s204_129, s204_131, s204_132, s204_133, s204_136, s204_137, s204_140, s204_142, s204_143, s204_146, s204_148, s204_149, s204_150, s204_151, s204_152, s204_155, s204_158, s204_159, s204_162, s204_164, s204_166, s204_167, s204_170, s204_174, s204_175, s204_178, s204_181, s204_182, s204_185, s204_186, s204_187, s204_190, s204_191, okF, okA, mcC_o, mcF_o, mcT_i, mcT_l, mcT_z, mcT_q, mcN_i, mcN_l, mcN_z, mcN_q, mcI_i, mcI_z, mcL_l, mcQ_q, hg_hp, hp_hp, List.getD_cons_zero, List.getD_cons_succ, List.set_cons_zero, List.set_cons_succ, List.length_cons, List.length_nil, Nat.reduceAdd, Nat.reduceLT, Nat.reduceEqDiff, Nat.lt_add_one, decide_true, decide_false, Bool.and_true, Bool.true_and, Bool.and_false, Bool.false_and, Bool.false_eq_true, if_true, if_false, ↓reduceIte, Option.bind_some, Option.bind_none, kont_v, kont_n]
  rw [st]
  by_cases z : n = 0
  · subst z
    have l : ¬ (1 : Int32) < nI 0 := by decide
    refine ⟨.int 1, a5, a6, ?_⟩
    show _ = ev X 204 173 _ [] (hp H 70 (iA 16 r))
    rw [eH, s204_84]
    simp only [s204_0, s204_1, s204_4, s204_7, s204_8, s204_9, s204_10, s204_13, s204_16, s204_17, s204_20, s204_22, s204_23, s204_24, s204_25, s204_28, s204_29, s204_32, s204_34, s204_35, s204_36, s204_37, s204_40, s204_41, s204_45, s204_46, s204_49, s204_52, s204_53, s204_56, s204_57, s204_60, s204_62, s204_63, s204_64, s204_65, s204_68, s204_70, s204_71, s204_74, s204_75, s204_78, s204_81, s204_82, s204_86, s204_87, s204_90, s204_93, s204_94, s204_97, s204_99, s204_100, s204_102, s204_104, s204_108, s204_111, s204_112, s204_115, s204_116, s204_119, s204_121, s204_122, s204_123, s204_124, s204_125, s204_126, s204_129, s204_131, s204_132, s204_133, s204_136, s204_137, s204_140, s204_142, s204_143, s204_146, s204_148, s204_149, s204_150, s204_151, s204_152, s204_155, s204_158, s204_159, s204_162, s204_164, s204_166, s204_167, s204_170, s204_174, s204_175, s204_178, s204_181, s204_182, s204_185, s204_186, s204_187, s204_190, s204_191, okF, okA, mcC_o, mcF_o, mcT_i, mcT_l, mcT_z, mcT_q, mcN_i, mcN_l, mcN_z, mcN_q, mcI_i, mcI_z, mcL_l, mcQ_q, hg_hp, hp_hp, List.getD_cons_zero, List.getD_cons_succ, List.set_cons_zero, List.set_cons_succ, List.length_cons, List.length_nil, Nat.reduceAdd, Nat.reduceLT, Nat.reduceEqDiff, Nat.lt_add_one, decide_true, decide_false, Bool.and_true, Bool.true_and, Bool.and_false, Bool.false_and, Bool.false_eq_true, if_true, if_false, ↓reduceIte, Option.bind_some, Option.bind_none, kont_v, kont_n, h0, MO_len, MO_16, l]
  · obtain ⟨b5, b6, e⟩ := m_so_lp (X := X) (tl := tl) (a1 := a1) (a2 := a2) (a3 := a3) h0 h76 hn (n - 1) 1 r a5 a6 (by omega) hr
    rw [eH] at e
    exact ⟨.int (nI n), b5, b6, e⟩
theorem S_beside (I : INVD t h D S IM KP) {b p i : Int32} : SAME X t h 132 [.ref 0, .int b, .int p, .int i] 204 [.ref 55, .int b, .int p, .int i, .float 0, .float 0, .float 0] := by
  have I' := I
  obtain ⟨L, F, M, R, N, G⟩ := I
  obtain ⟨-, z1, z2, z3, -⟩ := RCC R
  obtain ⟨-, b1, b2, b3, -⟩ := LBD L
  have T := lt4 L
  have T3 := lt3 L
  have h4 : D.1 4 = 4 := R.2.2.1
  have th := fun r => T.hs (X := X) (r := r)
  rw [h4] at th
  have th3 := fun r => T3.hs (X := X) (r := r)
  have one0 : ¬ (1 : Int32) = 0 := by decide
  obtain ⟨a23, b23, c23, d23, v23, e23⟩ := F.c23
  have em : ∀ i h', (∃ io wl pl sp wa se bc sv bq : Int32, hg h' 55 = oB 12 (MO io wl pl sp wa se bc sv bq)) → hg h' 56 = iA 16450 S → (ev X 164 0 [.ref 55, .int 3, .int i] [] (h')) = some (some (.int (hs (D.1 3) i)), (h')) := by
    rintro i h' ⟨io, wl, pl, sp, wa, se, bc, sv, bq, h0⟩ h1
    exact m_hs (X := X) (c' := 3) (i := i) h0 h1 rfl (by decide) z3 (by omega)
  rcases hs_case (n := 4) (by decide) b with w | ⟨w1, x, hx, rfl⟩
  · refine step_id I' (v := .int (-2)) ?_ (fun h' q0 q1 => ?_)
    · simp only [s132_0, s132_1, s132_4, s132_7, s132_8, s132_11, s132_14, s132_15, s132_18, s132_21, s132_22, s132_25, s132_28, s132_29, s132_32, s132_34, s132_35, s132_36, s132_39, s132_40, s132_43, s132_44, s132_47, s132_49, s132_50, s132_51, s132_54, s132_55, s132_56, s132_57, s132_60, okF, okA, mcC_o, mcF_o, mcT_i, mcT_l, mcT_z, mcT_q, mcN_i, mcN_l, mcN_z, mcN_q, mcI_i, mcI_z, mcL_l, mcQ_q, hg_hp, hp_hp, List.getD_cons_zero, List.getD_cons_succ, List.set_cons_zero, List.set_cons_succ, List.length_cons, List.length_nil, Nat.reduceAdd, Nat.reduceLT, Nat.reduceEqDiff, Nat.lt_add_one, decide_true, decide_false, Bool.and_true, Bool.true_and, Bool.and_false, Bool.false_and, Bool.false_eq_true, if_true, if_false, ↓reduceIte, Option.bind_some, Option.bind_none, kont_v, kont_n, F.c0, lgo L, T.1, th, w]
    · obtain ⟨io, wl, pl, sp, wa, se, bc, sv, bq, h0⟩ := q0
      simp only [s204_0, s204_1, s204_4, s204_7, s204_8, s204_9, s204_10, s204_13, s204_16, s204_17, s204_20, s204_22, s204_23, s204_24, s204_25, s204_28, s204_29, s204_32, s204_34, s204_35, s204_36, s204_37, s204_40, s204_41, s204_43, s204_45, s204_46, s204_49, s204_52, s204_53, s204_56, s204_57, s204_60, s204_62, s204_63, s204_64, s204_65, s204_68, s204_70, s204_71, s204_74, s204_75, s204_78, s204_81, s204_82, s204_84, s204_86, s204_87, s204_90, s204_93, s204_94, s204_97, s204_99, s204_100, s204_102, s204_104, s204_106, s204_108, s204_111, s204_112, s204_115, s204_116, s204_119, s204_121, s204_122, s204_123, s204_124, s204_125, s204_126, s204_129, s204_131, s204_132, s204_133, s204_136, s204_137, s204_140, s204_142, s204_143, s204_146, s204_148, s204_149, s204_150, s204_151, s204_152, s204_155, s204_158, s204_159, s204_162, s204_164, s204_166, s204_167, s204_170, s204_173, s204_174, s204_175, s204_178, s204_181, s204_182, s204_185, s204_186, s204_187, s204_190, s204_191, okF, okA, mcC_o, mcF_o, mcT_i, mcT_l, mcT_z, mcT_q, mcN_i, mcN_l, mcN_z, mcN_q, mcI_i, mcI_z, mcL_l, mcQ_q, hg_hp, hp_hp, List.getD_cons_zero, List.getD_cons_succ, List.set_cons_zero, List.set_cons_succ, List.length_cons, List.length_nil, Nat.reduceAdd, Nat.reduceLT, Nat.reduceEqDiff, Nat.lt_add_one, decide_true, decide_false, Bool.and_true, Bool.true_and, Bool.and_false, Bool.false_and, Bool.false_eq_true, if_true, if_false, ↓reduceIte, Option.bind_some, Option.bind_none, kont_v, kont_n, h0, m_isText, w]
  rcases hs_case (n := D.1 3) (by omega) p with g1 | ⟨g1, k, hk, rfl⟩
  · refine step_id I' (v := .int (-2)) ?_ (fun h' q0 q1 => ?_)
    · simp only [s132_0, s132_1, s132_4, s132_7, s132_8, s132_11, s132_14, s132_15, s132_18, s132_21, s132_22, s132_25, s132_28, s132_29, s132_32, s132_34, s132_35, s132_36, s132_39, s132_40, s132_43, s132_44, s132_47, s132_49, s132_50, s132_51, s132_54, s132_55, s132_56, s132_57, s132_60, okF, okA, mcC_o, mcF_o, mcT_i, mcT_l, mcT_z, mcT_q, mcN_i, mcN_l, mcN_z, mcN_q, mcI_i, mcI_z, mcL_l, mcQ_q, hg_hp, hp_hp, List.getD_cons_zero, List.getD_cons_succ, List.set_cons_zero, List.set_cons_succ, List.length_cons, List.length_nil, Nat.reduceAdd, Nat.reduceLT, Nat.reduceEqDiff, Nat.lt_add_one, decide_true, decide_false, Bool.and_true, Bool.true_and, Bool.and_false, Bool.false_and, Bool.false_eq_true, if_true, if_false, ↓reduceIte, Option.bind_some, Option.bind_none, kont_v, kont_n, F.c0, lgo L, T.1, T3.1, th, th3, w1, one0, g1]
    · have e := em p h' q0 q1
      obtain ⟨io, wl, pl, sp, wa, se, bc, sv, bq, h0⟩ := q0
      simp only [s204_0, s204_1, s204_4, s204_7, s204_8, s204_9, s204_10, s204_13, s204_16, s204_17, s204_20, s204_22, s204_23, s204_24, s204_25, s204_28, s204_29, s204_32, s204_34, s204_35, s204_36, s204_37, s204_40, s204_41, s204_43, s204_45, s204_46, s204_49, s204_52, s204_53, s204_56, s204_57, s204_60, s204_62, s204_63, s204_64, s204_65, s204_68, s204_70, s204_71, s204_74, s204_75, s204_78, s204_81, s204_82, s204_84, s204_86, s204_87, s204_90, s204_93, s204_94, s204_97, s204_99, s204_100, s204_102, s204_104, s204_106, s204_108, s204_111, s204_112, s204_115, s204_116, s204_119, s204_121, s204_122, s204_123, s204_124, s204_125, s204_126, s204_129, s204_131, s204_132, s204_133, s204_136, s204_137, s204_140, s204_142, s204_143, s204_146, s204_148, s204_149, s204_150, s204_151, s204_152, s204_155, s204_158, s204_159, s204_162, s204_164, s204_166, s204_167, s204_170, s204_173, s204_174, s204_175, s204_178, s204_181, s204_182, s204_185, s204_186, s204_187, s204_190, s204_191, okF, okA, mcC_o, mcF_o, mcT_i, mcT_l, mcT_z, mcT_q, mcN_i, mcN_l, mcN_z, mcN_q, mcI_i, mcI_z, mcL_l, mcQ_q, hg_hp, hp_hp, List.getD_cons_zero, List.getD_cons_succ, List.set_cons_zero, List.set_cons_succ, List.length_cons, List.length_nil, Nat.reduceAdd, Nat.reduceLT, Nat.reduceEqDiff, Nat.lt_add_one, decide_true, decide_false, Bool.and_true, Bool.true_and, Bool.and_false, Bool.false_and, Bool.false_eq_true, if_true, if_false, ↓reduceIte, Option.bind_some, Option.bind_none, kont_v, kont_n, h0, m_isText, w1, one0, e, g1]
  by_cases g2 : i < 0
  · refine step_id I' (v := .int (-2)) ?_ (fun h' q0 q1 => ?_)
    · simp only [s132_0, s132_1, s132_4, s132_7, s132_8, s132_11, s132_14, s132_15, s132_18, s132_21, s132_22, s132_25, s132_28, s132_29, s132_32, s132_34, s132_35, s132_36, s132_39, s132_40, s132_43, s132_44, s132_47, s132_49, s132_50, s132_51, s132_54, s132_55, s132_56, s132_57, s132_60, okF, okA, mcC_o, mcF_o, mcT_i, mcT_l, mcT_z, mcT_q, mcN_i, mcN_l, mcN_z, mcN_q, mcI_i, mcI_z, mcL_l, mcQ_q, hg_hp, hp_hp, List.getD_cons_zero, List.getD_cons_succ, List.set_cons_zero, List.set_cons_succ, List.length_cons, List.length_nil, Nat.reduceAdd, Nat.reduceLT, Nat.reduceEqDiff, Nat.lt_add_one, decide_true, decide_false, Bool.and_true, Bool.true_and, Bool.and_false, Bool.false_and, Bool.false_eq_true, if_true, if_false, ↓reduceIte, Option.bind_some, Option.bind_none, kont_v, kont_n, F.c0, lgo L, T.1, T3.1, th, th3, w1, one0, g1, g2]
    · have e := em (nI k) h' q0 q1
      obtain ⟨io, wl, pl, sp, wa, se, bc, sv, bq, h0⟩ := q0
      simp only [s204_0, s204_1, s204_4, s204_7, s204_8, s204_9, s204_10, s204_13, s204_16, s204_17, s204_20, s204_22, s204_23, s204_24, s204_25, s204_28, s204_29, s204_32, s204_34, s204_35, s204_36, s204_37, s204_40, s204_41, s204_43, s204_45, s204_46, s204_49, s204_52, s204_53, s204_56, s204_57, s204_60, s204_62, s204_63, s204_64, s204_65, s204_68, s204_70, s204_71, s204_74, s204_75, s204_78, s204_81, s204_82, s204_84, s204_86, s204_87, s204_90, s204_93, s204_94, s204_97, s204_99, s204_100, s204_102, s204_104, s204_106, s204_108, s204_111, s204_112, s204_115, s204_116, s204_119, s204_121, s204_122, s204_123, s204_124, s204_125, s204_126, s204_129, s204_131, s204_132, s204_133, s204_136, s204_137, s204_140, s204_142, s204_143, s204_146, s204_148, s204_149, s204_150, s204_151, s204_152, s204_155, s204_158, s204_159, s204_162, s204_164, s204_166, s204_167, s204_170, s204_173, s204_174, s204_175, s204_178, s204_181, s204_182, s204_185, s204_186, s204_187, s204_190, s204_191, okF, okA, mcC_o, mcF_o, mcT_i, mcT_l, mcT_z, mcT_q, mcN_i, mcN_l, mcN_z, mcN_q, mcI_i, mcI_z, mcL_l, mcQ_q, hg_hp, hp_hp, List.getD_cons_zero, List.getD_cons_succ, List.set_cons_zero, List.set_cons_succ, List.length_cons, List.length_nil, Nat.reduceAdd, Nat.reduceLT, Nat.reduceEqDiff, Nat.lt_add_one, decide_true, decide_false, Bool.and_true, Bool.true_and, Bool.and_false, Bool.false_and, Bool.false_eq_true, if_true, if_false, ↓reduceIte, Option.bind_some, Option.bind_none, kont_v, kont_n, h0, m_isText, w1, one0, e, g1, g2]
  obtain ⟨j, hj, rfl⟩ := nI_of g2
  have key := fun (h' : MH) (F' : FIX h') (M' : MD h' S IM KP) => tell_key (X := X) L F N R hx (h' := h') F' M'
  obtain ⟨code, H1, H20, e1, K1, L1, e20, K20, M20, ex1⟩ := key h F M
  have same : ∀ (h' : MH) (F' : FIX h') (M' : MD h' S IM KP), ∃ H2, (ev X 194 0 [.ref 55, .int (nI x), .float 0, .float 0, .float 0, .float 0, .float 0, .float 0, .float 0, .float 0] [] (h')) = some (some (.int (code)), (H2)) ∧ MOK h' H2 ∧ MD H2 S IM KP := fun h' F' M' => by
    obtain ⟨c', H1', H2, f1, -, -, f2, f3, f4, -⟩ := key h' F' M'
    rw [e1] at f1
    obtain ⟨z, -⟩ := ri_inj f1
    rw [← z] at f2
    exact ⟨H2, f2, f3, f4⟩
  by_cases hc : code = -1
  · have ec := eq_true hc
    obtain ⟨m, hm, h7, m3⟩ := N.2.2.1 k hk
    obtain ⟨a0, h34⟩ := K1.1.c34
    have er := c_rank (X := X) (w := -1) L1 K1.1 N (BR.fb R.2.2.2.2) hk m3 hm h7 h34
    have num : (POS D k m (-1) a0).1 = pcn 16 m := rk_num 16 0 0 a0 rfl
    have n7 : (POS D k m (-1) a0).1 ≤ 7 := by rw [num]; have := pcn_mono (m := m) (show 16 ≤ 32 by decide); omega
    have ent : ENF (POS D k m (-1) a0).1 (POS D k m (-1) a0).2 := fun i hi => by
      obtain ⟨g, y1, -, y2⟩ := rk_ent (ah := ahv (qtl (D.2.1 2) (nI k) (-1) (D.1 2) 0 qz) (D.2.1 1)) (m := m) 16 0 0 a0 (fun i hi => absurd hi (by omega)) i hi
      exact ⟨g, by omega, y2⟩
    have R56 : S (118 + k) = nI m := (R.s (i := 3) (c := k) (by decide) (by decide) (by show _ < 6; omega) rfl).trans m3
    have rkc := fun b0 => rk_congr (ah := ahv (qtl (D.2.1 2) (nI k) (-1) (D.1 2) 0 qz) (D.2.1 1)) (m := m) 16 0 0 a0 b0 (fun i hi => absurd hi (by omega))
    generalize hP : POS D k m (-1) a0 = Z at er n7 ent
    have hP' : rk (ahv (qtl (D.2.1 2) (nI k) (-1) (D.1 2) 0 qz) (D.2.1 1)) m 16 0 (0, a0) = Z := hP
    rw [hP'] at rkc
    obtain ⟨n, r⟩ := Z
    dsimp only at er n7 ent rkc
    generalize hq : qtl (D.2.1 2) (nI k) (-1) (D.1 2) 0 qz = q at er rkc
    -- what each is told, by the reference at one heap
    obtain ⟨g0, -⟩ := m_val (X := X) R L (p := nI k) K20.1 M20
    have K30 := PG_MOK K20.1 (g := g0) (q := q)
    obtain ⟨io0, wl0, pl0, sp0, wa0, se0, bc0, sv0, bq0, h20⟩ := K20.1.c55
    have h30 : hg (PH (GH H20 g0) q) 55 = _ := (PH_off (by omega)).trans (GH_55' h20)
    obtain ⟨V0, h75⟩ := K30.1.c75
    have tv : ∀ (B : MH) (A : Nat → Int32) (mm : Int32) (a : Nat), FIX B → LG B 1 D → hg B 31 = oB 6 [.ref 1, .ref 22, .ref 23, .ref 32, .ref 34, .ref 35, .ref 36, .int mm] → TAB B 32 33 16 6 16 A → (∀ i, i < 96 → A i = q i) → a < 16 → ∃ (vl : Int64) (H5 : MH), (ev X 69 0 [.ref 31, .int (nI x), .int (nI a)] [] (B)) = some (some (.long (vl)), (H5)) ∧ COK B H5 ∧ (∀ k, k < 23 ∨ 30 < k → hg H5 k = hg B k) ∧ ∃ V9, (ev X 202 0 [.ref 55, .int (nI a), .float 0, .float 0, .float 0, .float 0, .float 0, .float 0, .float 0] [] (PH (GH H20 g0) q)) = some (some (.long (vl)), (hp (PH (GH H20 g0) q) 75 (lA 60 V9))) := fun B A mm a y1 y2 y3 y4 y5 y6 => by
      obtain ⟨vl, H5, t1, t2, t3, t4⟩ := ex1 hc B q A mm a y1 y2 y3 y4 y5 y6
      exact ⟨vl, H5, t1, t2, t3, t4 (PH (GH H20 g0) q) _ _ _ _ _ _ _ _ _ _ _ _ _ _ _ _ _ V0 h20 h30 ((PH_off (by omega)).trans (GH_off (by decide) (by decide) (by decide) (by decide))) ((PH_off (by omega)).trans (GH_off (by decide) (by decide) (by decide) (by decide))) h75 (named_pool R K20.1 M20 (g := g0) (q := q) (fun k _ _ => rfl) y6)⟩
    obtain ⟨tl, htl⟩ := Classical.axiomOfChoice (r := fun (a : Nat) (vl : Int64) => ∀ v' V9, (ev X 202 0 [.ref 55, .int (nI a), .float 0, .float 0, .float 0, .float 0, .float 0, .float 0, .float 0] [] (PH (GH H20 g0) q)) = some (some (.long (v')), (hp (PH (GH H20 g0) q) 75 (lA 60 V9))) → v' = vl) (fun a => by
      by_cases z : ∃ v' V9, (ev X 202 0 [.ref 55, .int (nI a), .float 0, .float 0, .float 0, .float 0, .float 0, .float 0, .float 0] [] (PH (GH H20 g0) q)) = some (some (.long (v')), (hp (PH (GH H20 g0) q) 75 (lA 60 V9)))
      · obtain ⟨v', V9, e⟩ := z
        refine ⟨v', fun v2 V2 e2 => ?_⟩
        rw [e] at e2
        exact (rl_inj e2).symm
      · exact ⟨0, fun v' V9 e => absurd ⟨v', V9, e⟩ z⟩)
    have HT : ∀ (B : MH) (A : Nat → Int32) (mm : Int32) (a : Nat), FIX B → LG B 1 D → hg B 31 = oB 6 [.ref 1, .ref 22, .ref 23, .ref 32, .ref 34, .ref 35, .ref 36, .int mm] → TAB B 32 33 16 6 16 A → (∀ i, i < 96 → A i = q i) → a < 16 → ∃ H5 : MH, (ev X 69 0 [.ref 31, .int (nI x), .int (nI a)] [] (B)) = some (some (.long (tl a)), (H5)) ∧ COK B H5 ∧ ∀ k, k < 23 ∨ 30 < k → hg H5 k = hg B k := fun B A mm a y1 y2 y3 y4 y5 y6 => by
      obtain ⟨vl, H5, t1, t2, t3, V9, t4⟩ := tv B A mm a y1 y2 y3 y4 y5 y6
      have := htl a vl V9 t4
      rw [this] at t1
      exact ⟨H5, t1, t2, t3⟩
    -- the class
    have KS := (SH_COK (q := q) K1.1)
    have KR := KS.trans (RK_COK (n := n) (a := r) KS.1)
    obtain ⟨V6, h36⟩ := KR.1.c36
    have G0 : GDB D n q r tl 0 (RK (SH H1 q) n r) V6 := ⟨KR.1, RK_lg (SH_lg L1), RK_31, ⟨_, RK_tab SH_tab, fun i hi => g96_at hi⟩, RK_34, h36, fun j hj => absurd hj (by omega)⟩
    obtain ⟨B', V', G1, KB, e3⟩ := c_bt_lp (X := X) (tl := tl) (q := q) (x := x) (D := D) (a2 := .int (nI k)) (a3 := .int (nI j)) n7 ent (fun B A a y1 y2 y3 y4 y5 y6 => HT B A _ a y1 y2 y3 y4 y5 y6) n 0 (RK (SH H1 q) n r) V6 (by omega) G0
    rw [nI_0] at e3
    obtain ⟨y1, y2, y3, -, y5, y6, y7⟩ := G1
    obtain ⟨V'', e4⟩ := c_sorted (X := X) (tl := tl) y3 n7 y5 y6 y7
    have ew : ∀ B : MH, (ev X 112 0 [.int (nI j), .int 0, .int (nI n - 1)] [] (B)) = some (some (.int (hs n (nI j))), (B)) := fun B => by rw [c_within, wi_hs (by omega)]
    have KB' := COK.put (COK.put (COK.refl y1) (k := 34) (c := iA 7 (srt (aht tl) (n - 1) 1 r)) (by decide) ⟨_, rfl⟩) (k := 36) (c := lA 7 V'') (by decide) ⟨_, rfl⟩
    have LB' : LG (BSH B' (srt (aht tl) (n - 1) 1 r) V'') 1 D := y2.same (fun k k1 k2 => by unfold BSH; rw [hg_hp, if_neg (by omega), hg_hp, if_neg (by omega)])
    obtain ⟨mm1, h31⟩ := K1.1.c31
    obtain ⟨d1, d2, d3, d4, d5, f23⟩ := K1.1.c23
    have o31 := y3
    refine step_ok I' (v := .int (if j < n then srt (aht tl) (n - 1) 1 r j else -1)) ⟨BSH B' (srt (aht tl) (n - 1) 1 r) V'', ?_, K1.trans (KR.trans (KB.trans KB')), LB'⟩ (fun h' F' M' => ?_) R (N.mono (by omega))
    · by_cases hjn : j < n
      · have w2 := hs_n hjn (by omega)
        have rj : inR (nI j) 7 = true := inR_n (by omega) (by decide)
        have cj : (nI j).toNatClampNeg = j := nI_clamp (by omega)
        rw [if_pos hjn]
        simp only [s132_0, s132_1, s132_4, s132_7, s132_8, s132_11, s132_14, s132_15, s132_18, s132_21, s132_22, s132_25, s132_28, s132_29, s132_32, s132_34, s132_35, s132_36, s132_39, s132_40, s132_43, s132_44, s132_47, s132_49, s132_50, s132_51, s132_54, s132_55, s132_56, s132_57, s132_60, s70_0, s70_1, s70_2, s70_3, s70_6, s70_7, s70_11, s70_12, s70_15, s70_18, s70_19, s70_22, s70_24, s70_25, s70_26, s70_27, s70_30, s70_32, s70_33, s70_36, s70_37, s70_40, s70_44, s70_47, s70_48, s70_49, s70_50, s70_53, s70_54, s70_55, s70_58, s70_61, s70_62, s70_65, s70_66, s70_67, s70_70, s70_71, okF, okA, mcC_o, mcF_o, mcT_i, mcT_l, mcT_z, mcT_q, mcN_i, mcN_l, mcN_z, mcN_q, mcI_i, mcI_z, mcL_l, mcQ_q, hg_hp, hp_hp, List.getD_cons_zero, List.getD_cons_succ, List.set_cons_zero, List.set_cons_succ, List.length_cons, List.length_nil, Nat.reduceAdd, Nat.reduceLT, Nat.reduceEqDiff, Nat.lt_add_one, decide_true, decide_false, Bool.and_true, Bool.true_and, Bool.and_false, Bool.false_and, Bool.false_eq_true, if_true, if_false, ↓reduceIte, Option.bind_some, Option.bind_none, kont_v, kont_n, F.c0, K1.1.c0, e23, f23, lgo L, T.1, T3.1, th, th3, w1, one0, g1, g2, e1, ec, er, e3, e4, h31]
        rw [s70_43]
        simp only [s132_0, s132_1, s132_4, s132_7, s132_8, s132_11, s132_14, s132_15, s132_18, s132_21, s132_22, s132_25, s132_28, s132_29, s132_32, s132_34, s132_35, s132_36, s132_39, s132_40, s132_43, s132_44, s132_47, s132_49, s132_50, s132_51, s132_54, s132_55, s132_56, s132_57, s132_60, s70_0, s70_1, s70_2, s70_3, s70_6, s70_7, s70_11, s70_12, s70_15, s70_18, s70_19, s70_22, s70_24, s70_25, s70_26, s70_27, s70_30, s70_32, s70_33, s70_36, s70_37, s70_40, s70_44, s70_47, s70_48, s70_49, s70_50, s70_53, s70_54, s70_55, s70_58, s70_61, s70_62, s70_65, s70_66, s70_67, s70_70, s70_71, okF, okA, mcC_o, mcF_o, mcT_i, mcT_l, mcT_z, mcT_q, mcN_i, mcN_l, mcN_z, mcN_q, mcI_i, mcI_z, mcL_l, mcQ_q, hg_hp, hp_hp, List.getD_cons_zero, List.getD_cons_succ, List.set_cons_zero, List.set_cons_succ, List.length_cons, List.length_nil, Nat.reduceAdd, Nat.reduceLT, Nat.reduceEqDiff, Nat.lt_add_one, decide_true, decide_false, Bool.and_true, Bool.true_and, Bool.and_false, Bool.false_and, Bool.false_eq_true, if_true, if_false, ↓reduceIte, Option.bind_some, Option.bind_none, kont_v, kont_n, e4, BSH_31, y3, BSH_34, ew, w2, rj, cj, one0]
      · have w0 : hs n (nI j) = 0 := by
          unfold hs
          rw [if_neg g2, if_neg (nI_nlt (by omega) hj)]
        rw [if_neg hjn]
        simp only [s132_0, s132_1, s132_4, s132_7, s132_8, s132_11, s132_14, s132_15, s132_18, s132_21, s132_22, s132_25, s132_28, s132_29, s132_32, s132_34, s132_35, s132_36, s132_39, s132_40, s132_43, s132_44, s132_47, s132_49, s132_50, s132_51, s132_54, s132_55, s132_56, s132_57, s132_60, s70_0, s70_1, s70_2, s70_3, s70_6, s70_7, s70_11, s70_12, s70_15, s70_18, s70_19, s70_22, s70_24, s70_25, s70_26, s70_27, s70_30, s70_32, s70_33, s70_36, s70_37, s70_40, s70_44, s70_47, s70_48, s70_49, s70_50, s70_53, s70_54, s70_55, s70_58, s70_61, s70_62, s70_65, s70_66, s70_67, s70_70, s70_71, okF, okA, mcC_o, mcF_o, mcT_i, mcT_l, mcT_z, mcT_q, mcN_i, mcN_l, mcN_z, mcN_q, mcI_i, mcI_z, mcL_l, mcQ_q, hg_hp, hp_hp, List.getD_cons_zero, List.getD_cons_succ, List.set_cons_zero, List.set_cons_succ, List.length_cons, List.length_nil, Nat.reduceAdd, Nat.reduceLT, Nat.reduceEqDiff, Nat.lt_add_one, decide_true, decide_false, Bool.and_true, Bool.true_and, Bool.and_false, Bool.false_and, Bool.false_eq_true, if_true, if_false, ↓reduceIte, Option.bind_some, Option.bind_none, kont_v, kont_n, F.c0, K1.1.c0, e23, f23, lgo L, T.1, T3.1, th, th3, w1, one0, g1, g2, e1, ec, er, e3, e4, h31]
        rw [s70_43]
        simp only [s132_0, s132_1, s132_4, s132_7, s132_8, s132_11, s132_14, s132_15, s132_18, s132_21, s132_22, s132_25, s132_28, s132_29, s132_32, s132_34, s132_35, s132_36, s132_39, s132_40, s132_43, s132_44, s132_47, s132_49, s132_50, s132_51, s132_54, s132_55, s132_56, s132_57, s132_60, s70_0, s70_1, s70_2, s70_3, s70_6, s70_7, s70_11, s70_12, s70_15, s70_18, s70_19, s70_22, s70_24, s70_25, s70_26, s70_27, s70_30, s70_32, s70_33, s70_36, s70_37, s70_40, s70_44, s70_47, s70_48, s70_49, s70_50, s70_53, s70_54, s70_55, s70_58, s70_61, s70_62, s70_65, s70_66, s70_67, s70_70, s70_71, okF, okA, mcC_o, mcF_o, mcT_i, mcT_l, mcT_z, mcT_q, mcN_i, mcN_l, mcN_z, mcN_q, mcI_i, mcI_z, mcL_l, mcQ_q, hg_hp, hp_hp, List.getD_cons_zero, List.getD_cons_succ, List.set_cons_zero, List.set_cons_succ, List.length_cons, List.length_nil, Nat.reduceAdd, Nat.reduceLT, Nat.reduceEqDiff, Nat.lt_add_one, decide_true, decide_false, Bool.and_true, Bool.true_and, Bool.and_false, Bool.false_and, Bool.false_eq_true, if_true, if_false, ↓reduceIte, Option.bind_some, Option.bind_none, kont_v, kont_n, e4, BSH_31, y3, BSH_34, ew, w0, one0]
    · obtain ⟨c', H1', H2, f1, -, -, f2, f3, f4, ex2⟩ := key h' F' M'
      rw [e1] at f1
      obtain ⟨v1, v2⟩ := ri_inj f1
      subst v1
      have e := em (nI k) h' F'.c55 M'.1
      obtain ⟨b0, h70⟩ := f3.1.c70
      obtain ⟨g', ef⟩ := m_findOrder (X := X) f3.1 f4 b2 z2 R.2.2.2.2 (seeds_m R) (seeds_r N) b1 (by omega) R56 hm h7 h70
      rw [hq] at ef
      obtain ⟨c1, c2⟩ := rkc b0
      have K3 := PG_MOK f3.1 (g := g') (q := q)
      obtain ⟨io2, wl2, pl2, sp2, wa2, se2, bc2, sv2, bq2, h2⟩ := f3.1.c55
      have h3 : hg (PH (GH H2 g') q) 55 = _ := (PH_off (by omega)).trans (GH_55' h2)
      generalize rk (ahv q (D.2.1 1)) m 16 0 (0, b0) = Z2 at ef c1 c2
      obtain ⟨n', r'⟩ := Z2
      dsimp only at ef c1 c2
      subst c1
      have K4 := K3.trans (OR_MOK (n := n) (a := r') K3.1)
      have M4 : MD (OR (PH (GH H2 g') q) n r') S IM KP := MD.or ((f4.gh (g := g')).ph (q := q))
      have h4' := OR_55 (n := n) (a := r') h3
      have ent' : ENF n r' := fun i hi => by rw [← c2 i hi]; exact ent i hi
      generalize hH4 : OR (PH (GH H2 g') q) n r' = H4 at ef K4 M4 h4'
      have off4 : ∀ k, k ≠ 55 → k ≠ 70 → hg H4 k = hg (PH (GH H2 g') q) k := fun k k1 k2 => by rw [← hH4]; exact OR_off k1 k2
      have h470 : hg H4 70 = iA 16 r' := by rw [← hH4]; exact OR_70
      obtain ⟨V75, h475⟩ := K4.1.c75
      obtain ⟨T76, h476⟩ := K4.1.c76
      obtain ⟨B2, T2, p2, q2, q3, q4⟩ := m_bst_lp2 (X := X) (tl := tl) (n := n) (a1 := .int (nI x)) (a2 := .int (nI k)) (a3 := .int (nI j)) (a5 := .float 0) (a6 := .float 0) n7 ent' (fun B => MOK H4 B ∧ (∀ k, k ≠ 75 → k ≠ 76 → hg B k = hg H4 k) ∧ (∃ V, hg B 75 = lA 60 V) ∧ ∃ T, hg B 76 = lA 16 T) (fun B V T ⟨x1, x2, x3, x4⟩ => ⟨(x1.put (k := 75) (by decide) ⟨V, rfl⟩).put (k := 76) (by decide) ⟨T, rfl⟩, fun k k1 k2 => by rw [hg_hp, if_neg k2, hg_hp, if_neg k1]; exact x2 k k1 k2, ⟨V, by rw [hg_hp, if_neg (by decide), hg_hp, if_pos rfl]⟩, ⟨T, by rw [hg_hp, if_pos rfl]⟩⟩) (fun B ⟨x1, x2, x3, x4⟩ => ⟨_, _, _, _, _, _, _, _, (x2 55 (by decide) (by decide)).trans h4'⟩) (fun B ⟨x1, x2, x3, x4⟩ => (x2 70 (by decide) (by decide)).trans h470) (fun B ⟨x1, x2, x3, x4⟩ => x4) (fun B a ⟨x1, x2, ⟨V, x3⟩, x4⟩ ha => by
        obtain ⟨vl, H6, u1, -, -, u4⟩ := ex2 hc (SH H1 q) q _ mm1 a KS.1 (SH_lg L1) ((SH_off (by decide) (by decide)).trans h31) SH_tab (fun i hi => g96_at hi) ha
        obtain ⟨H7, u5, -, -⟩ := HT (SH H1 q) _ mm1 a KS.1 (SH_lg L1) ((SH_off (by decide) (by decide)).trans h31) SH_tab (fun i hi => g96_at hi) ha
        rw [u5] at u1
        have vv := rl_inj u1
        have k55 := (x2 55 (by decide) (by decide)).trans h4'
        obtain ⟨V9, u6⟩ := u4 B _ _ _ _ _ _ _ _ _ _ _ _ _ _ _ _ _ V h2 k55 ((x2 72 (by decide) (by decide)).trans ((off4 72 (by decide) (by decide)).trans ((PH_off (by omega)).trans (GH_off (by decide) (by decide) (by decide) (by decide))))) ((x2 73 (by decide) (by decide)).trans ((off4 73 (by decide) (by decide)).trans ((PH_off (by omega)).trans (GH_off (by decide) (by decide) (by decide) (by decide))))) x3 (named_pool2 R f3.1 f4 k55 (fun k k1 k2 => (x2 k (by omega) (by omega)).trans (off4 k k2 (by omega))) ha)
        rw [← vv] at u6
        exact ⟨V9, u6⟩) n 0 H4 (by omega) ⟨MOK.refl K4.1, fun _ _ _ => rfl, ⟨V75, h475⟩, ⟨T76, h476⟩⟩ (fun _ _ j hj => absurd hj (by omega))
      obtain ⟨x1, x2, x3, x4⟩ := p2
      have k55 := (x2 55 (by decide) (by decide)).trans h4'
      obtain ⟨b4, b5, b6, q5⟩ := m_sorted (X := X) (tl := tl) (a1 := .int (nI x)) (a2 := .int (nI k)) (a3 := .int (nI j)) (a5 := .float 0) (a6 := .float 0) k55 q2 n7 ((x2 70 (by decide) (by decide)).trans h470) q3
      rw [nI_0] at q4
      rw [q5] at q4
      obtain ⟨io, wl, pl, sp, wa, se, bc, sv, bq, h0⟩ := F'.c55
      have e2' : j < n → srt (aht tl) (n - 1) 1 r' j = srt (aht tl) (n - 1) 1 r j := fun hjn => ((srt_congr (ah := aht tl) (n := n) (n - 1) 1 r r' (by omega) c2) j hjn).symm
      refine ⟨hp B2 70 (iA 16 (srt (aht tl) (n - 1) 1 r')), ?_, f3.trans (K4.trans (x1.put (k := 70) (by decide) ⟨_, rfl⟩)), M4.same (fun k k1 k2 => by rw [hg_hp, if_neg (by omega)]; exact x2 k (by omega) (by omega))⟩
      have hB55 : hg (hp B2 70 (iA 16 (srt (aht tl) (n - 1) 1 r'))) 55 = _ := Eq.trans (by rw [hg_hp, if_neg (by decide)]) k55
      have hB70 : hg (hp B2 70 (iA 16 (srt (aht tl) (n - 1) 1 r'))) 70 = iA 16 (srt (aht tl) (n - 1) 1 r') := by rw [hg_hp, if_pos rfl]
      by_cases hjn : j < n
      · have l := nI_lt hjn (by omega)
        have rj : inR (nI j) 16 = true := inR_n (by omega) (by decide)
        have cj : (nI j).toNatClampNeg = j := nI_clamp (by omega)
        have e2 := e2' hjn
        rw [if_pos hjn]
        simp only [s204_0, s204_1, s204_4, s204_7, s204_8, s204_9, s204_10, s204_13, s204_16, s204_17, s204_20, s204_22, s204_23, s204_24, s204_25, s204_28, s204_29, s204_32, s204_34, s204_35, s204_36, s204_37, s204_40, s204_41, s204_45, s204_46, s204_49, s204_52, s204_53, s204_56, s204_57, s204_60, s204_62, s204_63, s204_64, s204_65, s204_68, s204_70, s204_71, s204_74, s204_75, s204_78, s204_81, s204_82, s204_86, s204_87, s204_90, s204_93, s204_94, s204_97, s204_99, s204_100, s204_102, s204_104, s204_108, s204_111, s204_112, s204_115, s204_116, s204_119, s204_121, s204_122, s204_123, s204_124, s204_125, s204_126, s204_129, s204_131, s204_132, s204_133, s204_136, s204_137, s204_140, s204_142, s204_143, s204_146, s204_148, s204_149, s204_150, s204_151, s204_152, s204_155, s204_158, s204_159, s204_162, s204_164, s204_166, s204_167, s204_170, s204_174, s204_175, s204_178, s204_181, s204_182, s204_185, s204_186, s204_187, s204_190, s204_191, okF, okA, mcC_o, mcF_o, mcT_i, mcT_l, mcT_z, mcT_q, mcN_i, mcN_l, mcN_z, mcN_q, mcI_i, mcI_z, mcL_l, mcQ_q, hg_hp, hp_hp, List.getD_cons_zero, List.getD_cons_succ, List.set_cons_zero, List.set_cons_succ, List.length_cons, List.length_nil, Nat.reduceAdd, Nat.reduceLT, Nat.reduceEqDiff, Nat.lt_add_one, decide_true, decide_false, Bool.and_true, Bool.true_and, Bool.and_false, Bool.false_and, Bool.false_eq_true, if_true, if_false, ↓reduceIte, Option.bind_some, Option.bind_none, kont_v, kont_n, h0, m_isText, w1, one0, e, g1, g2, f2, ec, ef, q4]
        rw [s204_173]
        simp only [s204_0, s204_1, s204_4, s204_7, s204_8, s204_9, s204_10, s204_13, s204_16, s204_17, s204_20, s204_22, s204_23, s204_24, s204_25, s204_28, s204_29, s204_32, s204_34, s204_35, s204_36, s204_37, s204_40, s204_41, s204_45, s204_46, s204_49, s204_52, s204_53, s204_56, s204_57, s204_60, s204_62, s204_63, s204_64, s204_65, s204_68, s204_70, s204_71, s204_74, s204_75, s204_78, s204_81, s204_82, s204_86, s204_87, s204_90, s204_93, s204_94, s204_97, s204_99, s204_100, s204_102, s204_104, s204_108, s204_111, s204_112, s204_115, s204_116, s204_119, s204_121, s204_122, s204_123, s204_124, s204_125, s204_126, s204_129, s204_131, s204_132, s204_133, s204_136, s204_137, s204_140, s204_142, s204_143, s204_146, s204_148, s204_149, s204_150, s204_151, s204_152, s204_155, s204_158, s204_159, s204_162, s204_164, s204_166, s204_167, s204_170, s204_174, s204_175, s204_178, s204_181, s204_182, s204_185, s204_186, s204_187, s204_190, s204_191, okF, okA, mcC_o, mcF_o, mcT_i, mcT_l, mcT_z, mcT_q, mcN_i, mcN_l, mcN_z, mcN_q, mcI_i, mcI_z, mcL_l, mcQ_q, hg_hp, hp_hp, List.getD_cons_zero, List.getD_cons_succ, List.set_cons_zero, List.set_cons_succ, List.length_cons, List.length_nil, Nat.reduceAdd, Nat.reduceLT, Nat.reduceEqDiff, Nat.lt_add_one, decide_true, decide_false, Bool.and_true, Bool.true_and, Bool.and_false, Bool.false_and, Bool.false_eq_true, if_true, if_false, ↓reduceIte, Option.bind_some, Option.bind_none, kont_v, kont_n, hB55, hB70, h2, MO_len, MO_16, MO_17, l, rj, cj, e2]
      · have l := nI_nlt (show n ≤ j by omega) hj
        rw [if_neg hjn]
        simp only [s204_0, s204_1, s204_4, s204_7, s204_8, s204_9, s204_10, s204_13, s204_16, s204_17, s204_20, s204_22, s204_23, s204_24, s204_25, s204_28, s204_29, s204_32, s204_34, s204_35, s204_36, s204_37, s204_40, s204_41, s204_45, s204_46, s204_49, s204_52, s204_53, s204_56, s204_57, s204_60, s204_62, s204_63, s204_64, s204_65, s204_68, s204_70, s204_71, s204_74, s204_75, s204_78, s204_81, s204_82, s204_86, s204_87, s204_90, s204_93, s204_94, s204_97, s204_99, s204_100, s204_102, s204_104, s204_108, s204_111, s204_112, s204_115, s204_116, s204_119, s204_121, s204_122, s204_123, s204_124, s204_125, s204_126, s204_129, s204_131, s204_132, s204_133, s204_136, s204_137, s204_140, s204_142, s204_143, s204_146, s204_148, s204_149, s204_150, s204_151, s204_152, s204_155, s204_158, s204_159, s204_162, s204_164, s204_166, s204_167, s204_170, s204_174, s204_175, s204_178, s204_181, s204_182, s204_185, s204_186, s204_187, s204_190, s204_191, okF, okA, mcC_o, mcF_o, mcT_i, mcT_l, mcT_z, mcT_q, mcN_i, mcN_l, mcN_z, mcN_q, mcI_i, mcI_z, mcL_l, mcQ_q, hg_hp, hp_hp, List.getD_cons_zero, List.getD_cons_succ, List.set_cons_zero, List.set_cons_succ, List.length_cons, List.length_nil, Nat.reduceAdd, Nat.reduceLT, Nat.reduceEqDiff, Nat.lt_add_one, decide_true, decide_false, Bool.and_true, Bool.true_and, Bool.and_false, Bool.false_and, Bool.false_eq_true, if_true, if_false, ↓reduceIte, Option.bind_some, Option.bind_none, kont_v, kont_n, h0, m_isText, w1, one0, e, g1, g2, f2, ec, ef, q4]
        rw [s204_173]
        simp only [s204_0, s204_1, s204_4, s204_7, s204_8, s204_9, s204_10, s204_13, s204_16, s204_17, s204_20, s204_22, s204_23, s204_24, s204_25, s204_28, s204_29, s204_32, s204_34, s204_35, s204_36, s204_37, s204_40, s204_41, s204_45, s204_46, s204_49, s204_52, s204_53, s204_56, s204_57, s204_60, s204_62, s204_63, s204_64, s204_65, s204_68, s204_70, s204_71, s204_74, s204_75, s204_78, s204_81, s204_82, s204_86, s204_87, s204_90, s204_93, s204_94, s204_97, s204_99, s204_100, s204_102, s204_104, s204_108, s204_111, s204_112, s204_115, s204_116, s204_119, s204_121, s204_122, s204_123, s204_124, s204_125, s204_126, s204_129, s204_131, s204_132, s204_133, s204_136, s204_137, s204_140, s204_142, s204_143, s204_146, s204_148, s204_149, s204_150, s204_151, s204_152, s204_155, s204_158, s204_159, s204_162, s204_164, s204_166, s204_167, s204_170, s204_174, s204_175, s204_178, s204_181, s204_182, s204_185, s204_186, s204_187, s204_190, s204_191, okF, okA, mcC_o, mcF_o, mcT_i, mcT_l, mcT_z, mcT_q, mcN_i, mcN_l, mcN_z, mcN_q, mcI_i, mcI_z, mcL_l, mcQ_q, hg_hp, hp_hp, List.getD_cons_zero, List.getD_cons_succ, List.set_cons_zero, List.set_cons_succ, List.length_cons, List.length_nil, Nat.reduceAdd, Nat.reduceLT, Nat.reduceEqDiff, Nat.lt_add_one, decide_true, decide_false, Bool.and_true, Bool.true_and, Bool.and_false, Bool.false_and, Bool.false_eq_true, if_true, if_false, ↓reduceIte, Option.bind_some, Option.bind_none, kont_v, kont_n, hB55, hB70, h2, MO_len, MO_16, MO_17, l]
  · have ec := eq_false hc
    refine step_ok I' (v := .int (-3)) ⟨H1, ?_, K1, L1⟩ (fun h' F' M' => ?_) R (N.mono (by omega))
    · simp only [s132_0, s132_1, s132_4, s132_7, s132_8, s132_11, s132_14, s132_15, s132_18, s132_21, s132_22, s132_25, s132_28, s132_29, s132_32, s132_34, s132_35, s132_36, s132_39, s132_40, s132_43, s132_44, s132_47, s132_49, s132_50, s132_51, s132_54, s132_55, s132_56, s132_57, s132_60, okF, okA, mcC_o, mcF_o, mcT_i, mcT_l, mcT_z, mcT_q, mcN_i, mcN_l, mcN_z, mcN_q, mcI_i, mcI_z, mcL_l, mcQ_q, hg_hp, hp_hp, List.getD_cons_zero, List.getD_cons_succ, List.set_cons_zero, List.set_cons_succ, List.length_cons, List.length_nil, Nat.reduceAdd, Nat.reduceLT, Nat.reduceEqDiff, Nat.lt_add_one, decide_true, decide_false, Bool.and_true, Bool.true_and, Bool.and_false, Bool.false_and, Bool.false_eq_true, if_true, if_false, ↓reduceIte, Option.bind_some, Option.bind_none, kont_v, kont_n, F.c0, e23, lgo L, T.1, T3.1, th, th3, w1, one0, g1, g2, e1, ec]
    · obtain ⟨H2, f2, f3, f4⟩ := same h' F' M'
      have e := em (nI k) h' F'.c55 M'.1
      obtain ⟨io, wl, pl, sp, wa, se, bc, sv, bq, h0⟩ := F'.c55
      refine ⟨H2, ?_, f3, f4⟩
      simp only [s204_0, s204_1, s204_4, s204_7, s204_8, s204_9, s204_10, s204_13, s204_16, s204_17, s204_20, s204_22, s204_23, s204_24, s204_25, s204_28, s204_29, s204_32, s204_34, s204_35, s204_36, s204_37, s204_40, s204_41, s204_43, s204_45, s204_46, s204_49, s204_52, s204_53, s204_56, s204_57, s204_60, s204_62, s204_63, s204_64, s204_65, s204_68, s204_70, s204_71, s204_74, s204_75, s204_78, s204_81, s204_82, s204_84, s204_86, s204_87, s204_90, s204_93, s204_94, s204_97, s204_99, s204_100, s204_102, s204_104, s204_106, s204_108, s204_111, s204_112, s204_115, s204_116, s204_119, s204_121, s204_122, s204_123, s204_124, s204_125, s204_126, s204_129, s204_131, s204_132, s204_133, s204_136, s204_137, s204_140, s204_142, s204_143, s204_146, s204_148, s204_149, s204_150, s204_151, s204_152, s204_155, s204_158, s204_159, s204_162, s204_164, s204_166, s204_167, s204_170, s204_173, s204_174, s204_175, s204_178, s204_181, s204_182, s204_185, s204_186, s204_187, s204_190, s204_191, okF, okA, mcC_o, mcF_o, mcT_i, mcT_l, mcT_z, mcT_q, mcN_i, mcN_l, mcN_z, mcN_q, mcI_i, mcI_z, mcL_l, mcQ_q, hg_hp, hp_hp, List.getD_cons_zero, List.getD_cons_succ, List.set_cons_zero, List.set_cons_succ, List.length_cons, List.length_nil, Nat.reduceAdd, Nat.reduceLT, Nat.reduceEqDiff, Nat.lt_add_one, decide_true, decide_false, Bool.and_true, Bool.true_and, Bool.and_false, Bool.false_and, Bool.false_eq_true, if_true, if_false, ↓reduceIte, Option.bind_some, Option.bind_none, kont_v, kont_n, h0, m_isText, w1, one0, e, g1, g2, f2, ec]
end BE3

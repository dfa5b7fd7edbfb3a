-- POOLS: values, who is ahead
section FP2
variable {X : MX} {h : MH} {S IM KP : Nat → Int32} {q : Nat → Int32} {g g' : G8}
def qof (h : MH) : Nat → Int32 := fun i => if i % 6 = 1 then mcI (hg h 64) (i / 6) else if i % 6 = 0 then mcI (hg h 65) (i / 6) else if i % 6 = 2 then mcI (hg h 66) (i / 6) else if i % 6 = 3 then mcI (hg h 67) (i / 6) else if i % 6 = 4 then mcI (hg h 68) (i / 6) else mcI (hg h 69) (i / 6)
theorem PH_self (F : FIX h) : PH h (qof h) = h := by
  obtain ⟨A4, q4⟩ := F.c64
  obtain ⟨A5, q5⟩ := F.c65
  obtain ⟨A6, q6⟩ := F.c66
  obtain ⟨A7, q7⟩ := F.c67
  obtain ⟨A8, q8⟩ := F.c68
  obtain ⟨A9, q9⟩ := F.c69
  have e : ∀ (A : Nat → Int32) (c : Nat), (∀ f, f < 16 → qof h (f * 6 + c) = A f) → g16 A (qof h) c = A := fun A c hc => by
    funext f
    unfold g16
    split
    · rename_i hf; exact hc f hf
    · rfl
  have e1 := e (mcI (hg h 64)) 1 (fun f hf => by unfold qof; rw [if_pos (by omega), show (f * 6 + 1) / 6 = f by omega])
  have e0 := e (mcI (hg h 65)) 0 (fun f hf => by unfold qof; rw [if_neg (by omega), if_pos (by omega), show (f * 6 + 0) / 6 = f by omega])
  have e2 := e (mcI (hg h 66)) 2 (fun f hf => by unfold qof; rw [if_neg (by omega), if_neg (by omega), if_pos (by omega), show (f * 6 + 2) / 6 = f by omega])
  have e3 := e (mcI (hg h 67)) 3 (fun f hf => by unfold qof; rw [if_neg (by omega), if_neg (by omega), if_neg (by omega), if_pos (by omega), show (f * 6 + 3) / 6 = f by omega])
  have e4 := e (mcI (hg h 68)) 4 (fun f hf => by unfold qof; rw [if_neg (by omega), if_neg (by omega), if_neg (by omega), if_neg (by omega), if_pos (by omega), show (f * 6 + 4) / 6 = f by omega])
  have e5 := e (mcI (hg h 69)) 5 (fun f hf => by unfold qof; rw [if_neg (by omega), if_neg (by omega), if_neg (by omega), if_neg (by omega), if_neg (by omega), show (f * 6 + 5) / 6 = f by omega])
  have x4 : iA 16 (mcI (hg h 64)) = hg h 64 := by rw [q4]; rfl
  have x5 : iA 16 (mcI (hg h 65)) = hg h 65 := by rw [q5]; rfl
  have x6 : iA 16 (mcI (hg h 66)) = hg h 66 := by rw [q6]; rfl
  have x7 : iA 16 (mcI (hg h 67)) = hg h 67 := by rw [q7]; rfl
  have x8 : iA 16 (mcI (hg h 68)) = hg h 68 := by rw [q8]; rfl
  have x9 : iA 16 (mcI (hg h 69)) = hg h 69 := by rw [q9]; rfl
  refine hx_ext rfl rfl (fun k => ?_)
  by_cases k6 : k < 64 ∨ 69 < k
  · exact PH_off k6
  · rcases (by omega : k = 64 ∨ k = 65 ∨ k = 66 ∨ k = 67 ∨ k = 68 ∨ k = 69) with rfl | rfl | rfl | rfl | rfl | rfl
    · rw [PH_64, e1]; exact x4
    · rw [PH_65, e0]; exact x5
    · rw [PH_66, e2]; exact x6
    · rw [PH_67, e3]; exact x7
    · rw [PH_68, e4]; exact x8
    · rw [PH_69, e5]; exact x9
theorem m_fp_init {p : Int32} {a3 a4 : Value} (F : FIX h) : ∀ (m k : Nat) (q : Nat → Int32), k + m = 16 → ev X 184 2 [.ref 55, .int p, .int (nI k), a3, a4] [] (PH h q) = ev X 184 56 [.ref 55, .int p, .int (nI 16), a3, a4] [] (PH h (fun i => if k * 6 ≤ i ∧ i < 96 then 0 else q i))
  | 0, k, q, hk => by
    have e : k = 16 := by omega
    subst e
    have q0 : ¬ nI 16 < 16 := by decide
    have eq : (fun i => if 16 * 6 ≤ i ∧ i < 96 then 0 else q i) = q := by
      funext i
      rw [if_neg (by omega)]
    rw [s184_2, eq]
    simp only [s184_0, s184_1, s184_3, s184_5, s184_8, s184_9, s184_12, s184_13, s184_14, s184_15, s184_16, s184_19, s184_20, s184_21, s184_22, s184_23, s184_26, s184_27, s184_28, s184_29, s184_30, s184_33, s184_34, s184_35, s184_36, s184_37, s184_40, s184_41, s184_42, s184_43, s184_44, s184_47, s184_48, s184_49, s184_50, s184_53, s184_57, s184_59, s184_60, s184_63, s184_64, s184_65, s184_68, s184_69, s184_70, s184_71, s184_74, s184_75, s184_78, s184_79, s184_80, s184_82, s184_85, s184_88, s184_89, s184_90, s184_93, s184_94, s184_95, s184_96, s184_97, s184_100, s184_101, s184_104, s184_107, s184_108, s184_109, s184_110, s184_113, s184_115, s184_116, s184_119, s184_121, s184_122, s184_123, s184_124, s184_125, s184_126, s184_127, s184_130, s184_132, s184_133, s184_134, s184_135, s184_138, s184_139, s184_142, s184_143, s184_146, s184_147, s184_148, s184_149, s184_150, s184_153, s184_155, s184_156, s184_157, s184_158, s184_161, s184_162, s184_163, s184_164, s184_165, s184_166, s184_169, s184_171, s184_172, s184_173, s184_174, s184_177, s184_178, s184_179, s184_180, s184_181, s184_182, s184_183, s184_184, s184_187, s184_189, s184_190, s184_191, s184_192, s184_195, s184_196, s184_197, s184_198, s184_199, s184_200, s184_203, s184_205, s184_206, s184_207, s184_208, s184_211, s184_212, s184_213, s184_214, s184_215, s184_218, s184_221, s184_224, s184_227, okF, okA, mcC_o, mcF_o, mcT_i, mcT_l, mcT_z, mcT_q, mcN_i, mcN_l, mcN_z, mcN_q, mcI_i, mcI_z, mcL_l, mcQ_q, hg_hp, hp_hp, List.getD_cons_zero, List.getD_cons_succ, List.set_cons_zero, List.set_cons_succ, List.length_cons, List.length_nil, Nat.reduceAdd, Nat.reduceLT, Nat.reduceEqDiff, Nat.lt_add_one, decide_true, decide_false, Bool.and_true, Bool.true_and, Bool.and_false, Bool.false_and, Bool.false_eq_true, if_true, if_false, ↓reduceIte, Option.bind_some, Option.bind_none, kont_v, kont_n, q0]
  | m + 1, k, q, hk => by
    have hk16 : k < 16 := by omega
    have q0 : nI k < 16 := nI_lt (b := 16) hk16 (by decide)
    obtain ⟨io, wl, pl, sp, wa, se, bc, sv, bq, h0⟩ := F.c55
    have c55 : ∀ q, hg (PH h q) 55 = oB 12 (MO io wl pl sp wa se bc sv bq) := fun q => by rw [PH_off (by decide)]; exact h0
    have ih := m_fp_init (p := p) (a3 := a3) (a4 := a4) F m (k + 1) (upd (upd (upd (upd (upd (upd q (k * 6 + 1) 0) (k * 6) 0) (k * 6 + 2) 0) (k * 6 + 3) 0) (k * 6 + 4) 0) (k * 6 + 5) 0) (by omega)
    have eq : (fun i => if (k + 1) * 6 ≤ i ∧ i < 96 then 0 else upd (upd (upd (upd (upd (upd q (k * 6 + 1) 0) (k * 6) 0) (k * 6 + 2) 0) (k * 6 + 3) 0) (k * 6 + 4) 0) (k * 6 + 5) 0 i) = fun i => if k * 6 ≤ i ∧ i < 96 then 0 else q i := by
      funext i
      simp only [upd]
      repeat' split
      all_goals first | rfl | omega
    rw [eq] at ih
    rw [← ih, s184_2]
    simp (disch := omega) only [s184_0, s184_1, s184_3, s184_5, s184_8, s184_9, s184_12, s184_13, s184_14, s184_15, s184_16, s184_19, s184_20, s184_21, s184_22, s184_23, s184_26, s184_27, s184_28, s184_29, s184_30, s184_33, s184_34, s184_35, s184_36, s184_37, s184_40, s184_41, s184_42, s184_43, s184_44, s184_47, s184_48, s184_49, s184_50, s184_53, s184_57, s184_59, s184_60, s184_63, s184_64, s184_65, s184_68, s184_69, s184_70, s184_71, s184_74, s184_75, s184_78, s184_79, s184_80, s184_82, s184_85, s184_88, s184_89, s184_90, s184_93, s184_94, s184_95, s184_96, s184_97, s184_100, s184_101, s184_104, s184_107, s184_108, s184_109, s184_110, s184_113, s184_115, s184_116, s184_119, s184_121, s184_122, s184_123, s184_124, s184_125, s184_126, s184_127, s184_130, s184_132, s184_133, s184_134, s184_135, s184_138, s184_139, s184_142, s184_143, s184_146, s184_147, s184_148, s184_149, s184_150, s184_153, s184_155, s184_156, s184_157, s184_158, s184_161, s184_162, s184_163, s184_164, s184_165, s184_166, s184_169, s184_171, s184_172, s184_173, s184_174, s184_177, s184_178, s184_179, s184_180, s184_181, s184_182, s184_183, s184_184, s184_187, s184_189, s184_190, s184_191, s184_192, s184_195, s184_196, s184_197, s184_198, s184_199, s184_200, s184_203, s184_205, s184_206, s184_207, s184_208, s184_211, s184_212, s184_213, s184_214, s184_215, s184_218, s184_221, s184_224, s184_227, okF, okA, mcC_o, mcF_o, mcT_i, mcT_l, mcT_z, mcT_q, mcN_i, mcN_l, mcN_z, mcN_q, mcI_i, mcI_z, mcL_l, mcQ_q, hg_hp, hp_hp, List.getD_cons_zero, List.getD_cons_succ, List.set_cons_zero, List.set_cons_succ, List.length_cons, List.length_nil, Nat.reduceAdd, Nat.reduceLT, Nat.reduceEqDiff, Nat.lt_add_one, decide_true, decide_false, Bool.and_true, Bool.true_and, Bool.and_false, Bool.false_and, Bool.false_eq_true, if_true, if_false, ↓reduceIte, Option.bind_some, Option.bind_none, kont_v, kont_n, MO_len, MO_10, MO_11, MO_12, MO_13, MO_14, MO_15, upd_eq, upd_ne, updL_eq, updL_ne, nI_clamp, inR_n, nI_add, nI_mul, na_0, nb_0, nm_0, nn_0, ns_0, nc_0, ni_0, na_1, nb_1, nm_1, nn_1, ns_1, nc_1, ni_1, na_2, nb_2, nm_2, nn_2, ns_2, nc_2, ni_2, na_3, nb_3, nm_3, nn_3, ns_3, nc_3, ni_3, na_4, nb_4, nm_4, nn_4, ns_4, nc_4, ni_4, na_5, nb_5, nm_5, nn_5, ns_5, nc_5, ni_5, na_6, nb_6, nm_6, nn_6, ns_6, nc_6, ni_6, na_7, nb_7, nm_7, nn_7, ns_7, nc_7, ni_7, na_8, nb_8, nm_8, nn_8, ns_8, nc_8, ni_8, na_9, nb_9, nm_9, nn_9, ns_9, nc_9, ni_9, na_10, nb_10, nm_10, nn_10, ns_10, nc_10, ni_10, na_11, nb_11, nm_11, nn_11, ns_11, nc_11, ni_11, na_12, nb_12, nm_12, nn_12, ns_12, nc_12, ni_12, na_13, nb_13, nm_13, nn_13, ns_13, nc_13, ni_13, na_14, nb_14, nm_14, nn_14, ns_14, nc_14, ni_14, na_15, nb_15, nm_15, nn_15, ns_15, nc_15, ni_15, na_16, nb_16, nm_16, nn_16, ns_16, nc_16, ni_16, na_17, nb_17, nm_17, nn_17, ns_17, nc_17, ni_17, na_18, nb_18, nm_18, nn_18, ns_18, nc_18, ni_18, na_19, nb_19, nm_19, nn_19, ns_19, nc_19, ni_19, na_20, nb_20, nm_20, nn_20, ns_20, nc_20, ni_20, na_21, nb_21, nm_21, nn_21, ns_21, nc_21, ni_21, na_22, nb_22, nm_22, nn_22, ns_22, nc_22, ni_22, na_23, nb_23, nm_23, nn_23, ns_23, nc_23, ni_23, na_24, nb_24, nm_24, nn_24, ns_24, nc_24, ni_24, na_25, nb_25, nm_25, nn_25, ns_25, nc_25, ni_25, na_26, nb_26, nm_26, nn_26, ns_26, nc_26, ni_26, na_27, nb_27, nm_27, nn_27, ns_27, nc_27, ni_27, na_28, nb_28, nm_28, nn_28, ns_28, nc_28, ni_28, na_29, nb_29, nm_29, nn_29, ns_29, nc_29, ni_29, na_30, nb_30, nm_30, nn_30, ns_30, nc_30, ni_30, na_31, nb_31, nm_31, nn_31, ns_31, nc_31, ni_31, na_32, nb_32, nm_32, nn_32, ns_32, nc_32, ni_32, na_33, nb_33, nm_33, nn_33, ns_33, nc_33, ni_33, na_34, nb_34, nm_34, nn_34, ns_34, nc_34, ni_34, na_35, nb_35, nm_35, nn_35, ns_35, nc_35, ni_35, na_36, nb_36, nm_36, nn_36, ns_36, nc_36, ni_36, na_37, nb_37, nm_37, nn_37, ns_37, nc_37, ni_37, na_38, nb_38, nm_38, nn_38, ns_38, nc_38, ni_38, na_39, nb_39, nm_39, nn_39, ns_39, nc_39, ni_39, na_40, nb_40, nm_40, nn_40, ns_40, nc_40, ni_40, na_41, nb_41, nm_41, nn_41, ns_41, nc_41, ni_41, na_42, nb_42, nm_42, nn_42, ns_42, nc_42, ni_42, na_43, nb_43, nm_43, nn_43, ns_43, nc_43, ni_43, na_44, nb_44, nm_44, nn_44, ns_44, nc_44, ni_44, na_45, nb_45, nm_45, nn_45, ns_45, nc_45, ni_45, na_46, nb_46, nm_46, nn_46, ns_46, nc_46, ni_46, na_47, nb_47, nm_47, nn_47, ns_47, nc_47, ni_47, na_48, nb_48, nm_48, nn_48, ns_48, nc_48, ni_48, na_49, nb_49, nm_49, nn_49, ns_49, nc_49, ni_49, na_50, nb_50, nm_50, nn_50, ns_50, nc_50, ni_50, na_51, nb_51, nm_51, nn_51, ns_51, nc_51, ni_51, na_52, nb_52, nm_52, nn_52, ns_52, nc_52, ni_52, na_53, nb_53, nm_53, nn_53, ns_53, nc_53, ni_53, na_54, nb_54, nm_54, nn_54, ns_54, nc_54, ni_54, na_55, nb_55, nm_55, nn_55, ns_55, nc_55, ni_55, na_56, nb_56, nm_56, nn_56, ns_56, nc_56, ni_56, na_57, nb_57, nm_57, nn_57, ns_57, nc_57, ni_57, na_58, nb_58, nm_58, nn_58, ns_58, nc_58, ni_58, na_59, nb_59, nm_59, nn_59, ns_59, nc_59, ni_59, na_60, nb_60, nm_60, nn_60, ns_60, nc_60, ni_60, na_61, nb_61, nm_61, nn_61, ns_61, nc_61, ni_61, na_62, nb_62, nm_62, nn_62, ns_62, nc_62, ni_62, na_63, nb_63, nm_63, nn_63, ns_63, nc_63, ni_63, na_70, nb_70, nm_70, nn_70, ns_70, nc_70, ni_70, na_100, nb_100, nm_100, nn_100, ns_100, nc_100, ni_100, na_118, nb_118, nm_118, nn_118, ns_118, nc_118, ni_118, na_124, nb_124, nm_124, nn_124, ns_124, nc_124, ni_124, na_127, nb_127, nm_127, nn_127, ns_127, nc_127, ni_127, na_128, nb_128, nm_128, nn_128, ns_128, nc_128, ni_128, na_130, nb_130, nm_130, nn_130, ns_130, nc_130, ni_130, na_148, nb_148, nm_148, nn_148, ns_148, nc_148, ni_148, na_170, nb_170, nm_170, nn_170, ns_170, nc_170, ni_170, na_200, nb_200, nm_200, nn_200, ns_200, nc_200, ni_200, na_300, nb_300, nm_300, nn_300, ns_300, nc_300, ni_300, na_388, nb_388, nm_388, nn_388, ns_388, nc_388, ni_388, na_628, nb_628, nm_628, nn_628, ns_628, nc_628, ni_628, na_646, nb_646, nm_646, nn_646, ns_646, nc_646, ni_646, na_850, nb_850, nm_850, nn_850, ns_850, nc_850, ni_850, na_999, nb_999, nm_999, nn_999, ns_999, nc_999, ni_999, na_1000, nb_1000, nm_1000, nn_1000, ns_1000, nc_1000, ni_1000, na_1001, nb_1001, nm_1001, nn_1001, ns_1001, nc_1001, ni_1001, na_9999, nb_9999, nm_9999, nn_9999, ns_9999, nc_9999, ni_9999, na_16450, nb_16450, nm_16450, nn_16450, ns_16450, nc_16450, ni_16450, c55, q0, PH_64, PH_65, PH_66, PH_67, PH_68, PH_69, g16u_0, g16u_1, g16u_2, g16u_3, g16u_4, g16u_5, PHu_64, PHu_65, PHu_66, PHu_67, PHu_68, PHu_69, nI_1]
theorem PH_congr {q q' : Nat → Int32} (hq : ∀ i, i < 96 → q i = q' i) : PH h q = PH h q' := by
  have e : ∀ (A : Nat → Int32) (c : Nat), c < 6 → g16 A q c = g16 A q' c := fun A c hc => by
    funext f
    unfold g16
    split
    · rw [hq _ (by omega)]
    · rfl
  unfold PH
  rw [e _ 0 (by decide), e _ 1 (by decide), e _ 2 (by decide), e _ 3 (by decide), e _ 4 (by decide), e _ 5 (by decide)]
theorem m_findPool {n : Nat} {f : Nat → Int32} {p : Int32} (F : FIX h) (M : MD h S IM KP) (hn : n ≤ 120) (z2 : S 2 = nI n) (hB : ∀ b, b < n → BR (tx S b) (rof17 f b)) (hF : FB n f) : ∃ g', (ev X 184 0 [.ref 55, .int p, .float 0, .float 0, .float 0] [] (h)) = some (none, (PH (GH h g') (qtl f p (-1) n 0 qz))) := by
  have e0 := m_fp_init (X := X) (p := p) (a3 := .float 0) (a4 := .float 0) F 16 0 (qof h) (by decide)
  rw [PH_self F, nI_0, PH_congr (q' := qz) (fun i hi => by rw [if_pos (by omega)]; rfl)] at e0
  obtain ⟨io, wl, pl, sp, wa, se, bc, sv, bq, h0⟩ := F.c55
  obtain ⟨A1, q1⟩ := F.c61
  obtain ⟨A2, q2⟩ := F.c62
  obtain ⟨A3, q3⟩ := F.c63
  obtain ⟨g', e1⟩ := m_findPool_loop (X := X) (p := p) F M hn z2 hB hF n 0 qz (A1 0, A1 1, A2 0, A2 1, A3 0, A3 1, io, wl) (.float 0) (.float 0) (by omega)
  rw [GH_self h0 q1 q2 q3, nI_0] at e1
  refine ⟨g', ?_⟩
  simp only [s184_0, s184_1, s184_3, s184_5, s184_8, s184_9, s184_12, s184_13, s184_14, s184_15, s184_16, s184_19, s184_20, s184_21, s184_22, s184_23, s184_26, s184_27, s184_28, s184_29, s184_30, s184_33, s184_34, s184_35, s184_36, s184_37, s184_40, s184_41, s184_42, s184_43, s184_44, s184_47, s184_48, s184_49, s184_50, s184_53, s184_57, s184_59, s184_60, s184_63, s184_64, s184_65, s184_68, s184_69, s184_70, s184_71, s184_74, s184_75, s184_78, s184_79, s184_80, s184_82, s184_85, s184_88, s184_89, s184_90, s184_93, s184_94, s184_95, s184_96, s184_97, s184_100, s184_101, s184_104, s184_107, s184_108, s184_109, s184_110, s184_113, s184_115, s184_116, s184_119, s184_121, s184_122, s184_123, s184_124, s184_125, s184_126, s184_127, s184_130, s184_132, s184_133, s184_134, s184_135, s184_138, s184_139, s184_142, s184_143, s184_146, s184_147, s184_148, s184_149, s184_150, s184_153, s184_155, s184_156, s184_157, s184_158, s184_161, s184_162, s184_163, s184_164, s184_165, s184_166, s184_169, s184_171, s184_172, s184_173, s184_174, s184_177, s184_178, s184_179, s184_180, s184_181, s184_182, s184_183, s184_184, s184_187, s184_189, s184_190, s184_191, s184_192, s184_195, s184_196, s184_197, s184_198, s184_199, s184_200, s184_203, s184_205, s184_206, s184_207, s184_208, s184_211, s184_212, s184_213, s184_214, s184_215, s184_218, s184_221, s184_224, s184_227, okF, okA, mcC_o, mcF_o, mcT_i, mcT_l, mcT_z, mcT_q, mcN_i, mcN_l, mcN_z, mcN_q, mcI_i, mcI_z, mcL_l, mcQ_q, hg_hp, hp_hp, List.getD_cons_zero, List.getD_cons_succ, List.set_cons_zero, List.set_cons_succ, List.length_cons, List.length_nil, Nat.reduceAdd, Nat.reduceLT, Nat.reduceEqDiff, Nat.lt_add_one, decide_true, decide_false, Bool.and_true, Bool.true_and, Bool.and_false, Bool.false_and, Bool.false_eq_true, if_true, if_false, ↓reduceIte, Option.bind_some, Option.bind_none, kont_v, kont_n]
  rw [e0]
  simp only [s184_0, s184_1, s184_3, s184_5, s184_8, s184_9, s184_12, s184_13, s184_14, s184_15, s184_16, s184_19, s184_20, s184_21, s184_22, s184_23, s184_26, s184_27, s184_28, s184_29, s184_30, s184_33, s184_34, s184_35, s184_36, s184_37, s184_40, s184_41, s184_42, s184_43, s184_44, s184_47, s184_48, s184_49, s184_50, s184_53, s184_56, s184_57, s184_59, s184_60, s184_63, s184_64, s184_65, s184_68, s184_69, s184_70, s184_71, s184_74, s184_75, s184_78, s184_79, s184_80, s184_82, s184_85, s184_88, s184_89, s184_90, s184_93, s184_94, s184_95, s184_96, s184_97, s184_100, s184_101, s184_104, s184_107, s184_108, s184_109, s184_110, s184_113, s184_115, s184_116, s184_119, s184_121, s184_122, s184_123, s184_124, s184_125, s184_126, s184_127, s184_130, s184_132, s184_133, s184_134, s184_135, s184_138, s184_139, s184_142, s184_143, s184_146, s184_147, s184_148, s184_149, s184_150, s184_153, s184_155, s184_156, s184_157, s184_158, s184_161, s184_162, s184_163, s184_164, s184_165, s184_166, s184_169, s184_171, s184_172, s184_173, s184_174, s184_177, s184_178, s184_179, s184_180, s184_181, s184_182, s184_183, s184_184, s184_187, s184_189, s184_190, s184_191, s184_192, s184_195, s184_196, s184_197, s184_198, s184_199, s184_200, s184_203, s184_205, s184_206, s184_207, s184_208, s184_211, s184_212, s184_213, s184_214, s184_215, s184_218, s184_221, s184_224, s184_227, okF, okA, mcC_o, mcF_o, mcT_i, mcT_l, mcT_z, mcT_q, mcN_i, mcN_l, mcN_z, mcN_q, mcI_i, mcI_z, mcL_l, mcQ_q, hg_hp, hp_hp, List.getD_cons_zero, List.getD_cons_succ, List.set_cons_zero, List.set_cons_succ, List.length_cons, List.length_nil, Nat.reduceAdd, Nat.reduceLT, Nat.reduceEqDiff, Nat.lt_add_one, decide_true, decide_false, Bool.and_true, Bool.true_and, Bool.and_false, Bool.false_and, Bool.false_eq_true, if_true, if_false, ↓reduceIte, Option.bind_some, Option.bind_none, kont_v, kont_n]
  exact e1
end FP2
/-- sums of j sides keep within bounds -/
def QB (j : Nat) (q : Nat → Int32) : Prop := ∀ a, a < 16 → ∃ w n g r : Nat, q (a * 6) = nI w ∧ q (a * 6 + 1) = nI n ∧ w ≤ n ∧ n ≤ j ∧ q (a * 6 + 2) = nI g ∧ g ≤ 15 * j ∧ q (a * 6 + 3) = nI r ∧ r ≤ 15 * j
def TB (n : Nat) (f : Nat → Int32) : Prop := ∀ b, b < n → ∃ x y : Nat, f (b * 17 + 6) = nI x ∧ x ≤ 15 ∧ f (b * 17 + 7) = nI y ∧ y ≤ 15
theorem QB.mono {j k : Nat} {q : Nat → Int32} (h : QB j q) (hk : j ≤ k) : QB k q := fun a ha => by
  obtain ⟨w, n, g, r, q1, q2, q3, q4, q5, q6, q7, q8⟩ := h a ha
  exact ⟨w, n, g, r, q1, q2, q3, by omega, q5, by omega, q7, by omega⟩
theorem QB.side {j : Nat} {q f : Nat → Int32} {b s a u v : Nat} (h : QB j q) (hu : f (b * 17 + (6 + s)) = nI u) (hu2 : u ≤ 15) (hv : f (b * 17 + (7 - s)) = nI v) (hv2 : v ≤ 15) : QB (j + 1) (qside f b s a q) := by
  intro c hc
  obtain ⟨w, n, g, r, q1, q2, q3, q4, q5, q6, q7, q8⟩ := h c hc
  unfold qside
  by_cases e : c = a
  · subst e
    rw [upd_ne (by omega), upd_ne (by omega), upd_ne (by omega), upd_ne (by omega), upd_ne (by omega), upd_eq, upd_ne (by omega), upd_ne (by omega), upd_ne (by omega), upd_ne (by omega), upd_eq, upd_ne (by omega), upd_ne (by omega), upd_ne (by omega), upd_eq, upd_ne (by omega), upd_ne (by omega), upd_eq]
    rw [q1, q2, q5, q7, hu, hv]
    by_cases k : f (b * 17 + 9) = nI s
    · rw [if_pos k]; exact ⟨w + 1, n + 1, g + u, r + v, nI_1 w, nI_1 n, by omega, by omega, nI_add g u, by omega, nI_add r v, by omega⟩
    · rw [if_neg k]; exact ⟨w, n + 1, g + u, r + v, nb_0 w, nI_1 n, by omega, by omega, nI_add g u, by omega, nI_add r v, by omega⟩
  · refine ⟨w, n, g, r, ?_, ?_, q3, by omega, ?_, by omega, ?_, by omega⟩
    · rw [upd_ne (by omega), upd_ne (by omega), upd_ne (by omega), upd_ne (by omega), upd_ne (by omega), upd_ne (by omega)]; exact q1
    · rw [upd_ne (by omega), upd_ne (by omega), upd_ne (by omega), upd_ne (by omega), upd_ne (by omega), upd_ne (by omega)]; exact q2
    · rw [upd_ne (by omega), upd_ne (by omega), upd_ne (by omega), upd_ne (by omega), upd_ne (by omega), upd_ne (by omega)]; exact q5
    · rw [upd_ne (by omega), upd_ne (by omega), upd_ne (by omega), upd_ne (by omega), upd_ne (by omega), upd_ne (by omega)]; exact q7
theorem QB.tl {f : Nat → Int32} {p w : Int32} {n : Nat} (hT : TB n f) : ∀ (m b : Nat) (q : Nat → Int32), b + m = n → QB (2 * b) q → QB (2 * n) (qtl f p w m b q)
  | 0, b, q, hb, h => by rw [← hb]; exact h
  | m + 1, b, q, hb, h => by
    simp only [qtl]
    refine QB.tl hT m (b + 1) _ (by omega) ?_
    split
    · obtain ⟨x, y, q1, q2, q3, q4⟩ := hT b (by omega)
      unfold qbout
      exact ((h.side (s := 0) (u := x) (v := y) q1 q2 q3 q4).side (s := 1) (u := y) (v := x) q3 q4 q1 q2).mono (by omega)
    · exact h.mono (by omega)
theorem QB_z : QB 0 qz := fun a _ => ⟨0, 0, 0, 0, rfl, rfl, by omega, by omega, rfl, by omega, rfl, by omega⟩
theorem QB_tl {f : Nat → Int32} {p w : Int32} {n : Nat} (hT : TB n f) : QB (2 * n) (qtl f p w n 0 qz) := QB.tl hT n 0 qz (by omega) (QB_z.mono (by omega))
theorem BR.tb {n : Nat} {S f : Nat → Int32} (hB : ∀ b, b < n → BR (tx S b) (rof17 f b)) : TB n f := fun b hb => by
  obtain ⟨-, -, -, k, n', L, a, b', -, -, -, -, -, -, gi, -, -, -, hn, -⟩ := hB b hb
  obtain ⟨t0, t1, _, _, e0, e1, h0, h1, _⟩ := gi
  exact ⟨t0, t1, e0, by omega, e1, by omega⟩
theorem BR.fb {n : Nat} {S f : Nat → Int32} (hB : ∀ b, b < n → BR (tx S b) (rof17 f b)) : FB n f := fun b hb => by
  obtain ⟨c, -, -, k, n', L, x, y, -, -, -, -, -, -, -, -, -, -, -, -, -, -, ex, hx, ey, hy, -⟩ := hB b hb
  exact ⟨x, y, (c 0 (by decide)).trans ex, hx, (c 1 (by decide)).trans ey, hy⟩
def vq0 (q : Nat → Int32) (a : Nat) : Int32 := if q (a * 6 + 1) = 0 then 0 else 1000 * q (a * 6) / q (a * 6 + 1)
def vq1 (q : Nat → Int32) (a : Nat) : Int32 := q (a * 6 + 2) - q (a * 6 + 3)
/-- 1 if the first is ahead -/
def ahv (q f1 : Nat → Int32) (a g : Nat) : Int32 := if vq0 q a = vq0 q g then (if vq1 q a = vq1 q g then (if q (a * 6 + 2) = q (g * 6 + 2) then (if f1 (a * 3 + 2) < f1 (g * 3 + 2) then 1 else 0) else if q (g * 6 + 2) < q (a * 6 + 2) then 1 else 0) else if vq1 q g < vq1 q a then 1 else 0) else if vq0 q g < vq0 q a then 1 else 0
theorem ahv_01 {q f1 : Nat → Int32} {a g : Nat} : ahv q f1 a g = 0 ∨ ahv q f1 a g = 1 := by
  unfold ahv
  repeat' split
  all_goals first | exact Or.inl rfl | exact Or.inr rfl
section CVA
variable {X : MX} {H : MH} {D : LD} {q A : Nat → Int32} {mm : Int32}
theorem c_val (h31 : hg H 31 = oB 6 [.ref 1, .ref 22, .ref 23, .ref 32, .ref 34, .ref 35, .ref 36, .int mm]) (T : TAB H 32 33 16 6 16 A) (hA : ∀ i, i < 96 → A i = q i) {a : Nat} (ha : a < 16) : ((ev X 64 0 [.ref 31, .int (nI a), .int 0, .float 0] [] (H)) = some (some (.int (vq0 q a)), (H))) ∧ ((ev X 64 0 [.ref 31, .int (nI a), .int 1, .float 0] [] (H)) = some (some (.int (vq1 q a)), (H))) ∧ ((ev X 64 0 [.ref 31, .int (nI a), .int 2, .float 0] [] (H)) = some (some (.int (q (a * 6 + 2))), (H))) ∧ ((ev X 64 0 [.ref 31, .int (nI a), .int 3, .float 0] [] (H)) = some (some (.int (q (a * 6 + 1))), (H))) := by
  have g0 := T.get' (X := X) (r := a) (q := 0) (q' := 0) rfl rfl ha (by decide)
  have g1 := T.get' (X := X) (r := a) (q := 1) (q' := 1) rfl rfl ha (by decide)
  have g2 := T.get' (X := X) (r := a) (q := 2) (q' := 2) rfl rfl ha (by decide)
  have g3 := T.get' (X := X) (r := a) (q := 3) (q' := 3) rfl rfl ha (by decide)
  rw [hA _ (by omega)] at g0 g1 g2 g3
  rw [Nat.add_zero] at g0
  refine ⟨?_, ?_, ?_, ?_⟩
  · unfold vq0
    by_cases k : q (a * 6 + 1) = 0
    · simp only [s64_0, s64_1, s64_4, s64_5, s64_6, s64_9, s64_10, s64_11_0, s64_11_1, s64_11_2, s64_11_d, s64_36, s64_37, s64_40, s64_41, s64_44, s64_47, s64_48, s64_51, s64_52, s64_53, s64_56, s64_57, s64_58, s64_59, s64_60, s64_61, s64_64, s64_65, s64_66, s64_69, s64_70, s64_73, s64_74, s64_75, s64_78, s64_79, s64_80, s64_81, s64_84, s64_85, s64_86, s64_89, s64_90, s64_91, okF, okA, mcC_o, mcF_o, mcT_i, mcT_l, mcT_z, mcT_q, mcN_i, mcN_l, mcN_z, mcN_q, mcI_i, mcI_z, mcL_l, mcQ_q, hg_hp, hp_hp, List.getD_cons_zero, List.getD_cons_succ, List.set_cons_zero, List.set_cons_succ, List.length_cons, List.length_nil, Nat.reduceAdd, Nat.reduceLT, Nat.reduceEqDiff, Nat.lt_add_one, decide_true, decide_false, Bool.and_true, Bool.true_and, Bool.and_false, Bool.false_and, Bool.false_eq_true, if_true, if_false, ↓reduceIte, Option.bind_some, Option.bind_none, kont_v, kont_n, h31, T.1, g0, g1, k]
    · simp only [s64_0, s64_1, s64_4, s64_5, s64_6, s64_9, s64_10, s64_11_0, s64_11_1, s64_11_2, s64_11_d, s64_36, s64_37, s64_40, s64_41, s64_44, s64_47, s64_48, s64_51, s64_52, s64_53, s64_56, s64_57, s64_58, s64_59, s64_60, s64_61, s64_64, s64_65, s64_66, s64_69, s64_70, s64_73, s64_74, s64_75, s64_78, s64_79, s64_80, s64_81, s64_84, s64_85, s64_86, s64_89, s64_90, s64_91, okF, okA, mcC_o, mcF_o, mcT_i, mcT_l, mcT_z, mcT_q, mcN_i, mcN_l, mcN_z, mcN_q, mcI_i, mcI_z, mcL_l, mcQ_q, hg_hp, hp_hp, List.getD_cons_zero, List.getD_cons_succ, List.set_cons_zero, List.set_cons_succ, List.length_cons, List.length_nil, Nat.reduceAdd, Nat.reduceLT, Nat.reduceEqDiff, Nat.lt_add_one, decide_true, decide_false, Bool.and_true, Bool.true_and, Bool.and_false, Bool.false_and, Bool.false_eq_true, if_true, if_false, ↓reduceIte, Option.bind_some, Option.bind_none, kont_v, kont_n, h31, T.1, g0, g1, k]
  · unfold vq1
    simp only [s64_0, s64_1, s64_4, s64_5, s64_6, s64_9, s64_10, s64_11_0, s64_11_1, s64_11_2, s64_11_d, s64_36, s64_37, s64_40, s64_41, s64_44, s64_47, s64_48, s64_51, s64_52, s64_53, s64_56, s64_57, s64_58, s64_59, s64_60, s64_61, s64_64, s64_65, s64_66, s64_69, s64_70, s64_73, s64_74, s64_75, s64_78, s64_79, s64_80, s64_81, s64_84, s64_85, s64_86, s64_89, s64_90, s64_91, okF, okA, mcC_o, mcF_o, mcT_i, mcT_l, mcT_z, mcT_q, mcN_i, mcN_l, mcN_z, mcN_q, mcI_i, mcI_z, mcL_l, mcQ_q, hg_hp, hp_hp, List.getD_cons_zero, List.getD_cons_succ, List.set_cons_zero, List.set_cons_succ, List.length_cons, List.length_nil, Nat.reduceAdd, Nat.reduceLT, Nat.reduceEqDiff, Nat.lt_add_one, decide_true, decide_false, Bool.and_true, Bool.true_and, Bool.and_false, Bool.false_and, Bool.false_eq_true, if_true, if_false, ↓reduceIte, Option.bind_some, Option.bind_none, kont_v, kont_n, h31, T.1, g1, g2, g3]
  · simp only [s64_0, s64_1, s64_4, s64_5, s64_6, s64_9, s64_10, s64_11_0, s64_11_1, s64_11_2, s64_11_d, s64_36, s64_37, s64_40, s64_41, s64_44, s64_47, s64_48, s64_51, s64_52, s64_53, s64_56, s64_57, s64_58, s64_59, s64_60, s64_61, s64_64, s64_65, s64_66, s64_69, s64_70, s64_73, s64_74, s64_75, s64_78, s64_79, s64_80, s64_81, s64_84, s64_85, s64_86, s64_89, s64_90, s64_91, okF, okA, mcC_o, mcF_o, mcT_i, mcT_l, mcT_z, mcT_q, mcN_i, mcN_l, mcN_z, mcN_q, mcI_i, mcI_z, mcL_l, mcQ_q, hg_hp, hp_hp, List.getD_cons_zero, List.getD_cons_succ, List.set_cons_zero, List.set_cons_succ, List.length_cons, List.length_nil, Nat.reduceAdd, Nat.reduceLT, Nat.reduceEqDiff, Nat.lt_add_one, decide_true, decide_false, Bool.and_true, Bool.true_and, Bool.and_false, Bool.false_and, Bool.false_eq_true, if_true, if_false, ↓reduceIte, Option.bind_some, Option.bind_none, kont_v, kont_n, h31, T.1, g1, g2]
  · simp only [s64_11_d (x := 3) (Or.inr (by decide)), s64_0, s64_1, s64_4, s64_5, s64_6, s64_9, s64_10, s64_11_0, s64_11_1, s64_11_2, s64_11_d, s64_36, s64_37, s64_40, s64_41, s64_44, s64_47, s64_48, s64_51, s64_52, s64_53, s64_56, s64_57, s64_58, s64_59, s64_60, s64_61, s64_64, s64_65, s64_66, s64_69, s64_70, s64_73, s64_74, s64_75, s64_78, s64_79, s64_80, s64_81, s64_84, s64_85, s64_86, s64_89, s64_90, s64_91, okF, okA, mcC_o, mcF_o, mcT_i, mcT_l, mcT_z, mcT_q, mcN_i, mcN_l, mcN_z, mcN_q, mcI_i, mcI_z, mcL_l, mcQ_q, hg_hp, hp_hp, List.getD_cons_zero, List.getD_cons_succ, List.set_cons_zero, List.set_cons_succ, List.length_cons, List.length_nil, Nat.reduceAdd, Nat.reduceLT, Nat.reduceEqDiff, Nat.lt_add_one, decide_true, decide_false, Bool.and_true, Bool.true_and, Bool.and_false, Bool.false_and, Bool.false_eq_true, if_true, if_false, ↓reduceIte, Option.bind_some, Option.bind_none, kont_v, kont_n, h31, T.1, g1]
theorem c_isAhead (L : LG H 1 D) (h31 : hg H 31 = oB 6 [.ref 1, .ref 22, .ref 23, .ref 32, .ref 34, .ref 35, .ref 36, .int mm]) (T : TAB H 32 33 16 6 16 A) (hA : ∀ i, i < 96 → A i = q i) {a g : Nat} (ha : a < 16) (hg_ : g < 16) : (ev X 67 0 [.ref 31, .int (nI a), .int (nI g), .float 0, .float 0, .float 0] [] (H)) = some (some (.int (ahv q (D.2.1 1) a g)), (H)) := by
  have va := c_val (X := X) h31 T hA ha
  have vg := c_val (X := X) h31 T hA hg_
  have T1 := lt1 L
  have s0 := T1.get' (X := X) (r := a) (q := 2) (q' := 2) rfl rfl ha (by decide)
  have s1 := T1.get' (X := X) (r := g) (q := 2) (q' := 2) rfl rfl hg_ (by decide)
  have l0 : ¬ (2 : Int32) < 0 := by decide
  have l1 : ¬ (2 : Int32) < 1 := by decide
  have l2 : ¬ (2 : Int32) < 2 := by decide
  have l3 : (2 : Int32) < 3 := by decide
  have a01 : (0 : Int32) + 1 = 1 := by decide
  have a12 : (1 : Int32) + 1 = 2 := by decide
  have a23 : (2 : Int32) + 1 = 3 := by decide
  unfold ahv
  by_cases k0 : vq0 q a = vq0 q g
  · by_cases k1 : vq1 q a = vq1 q g
    · by_cases k2 : q (a * 6 + 2) = q (g * 6 + 2)
      · by_cases k3 : D.2.1 1 (a * 3 + 2) < D.2.1 1 (g * 3 + 2)
        · simp only [s67_0, s67_1, s67_2, s67_3, s67_4, s67_7, s67_8, s67_9, s67_10, s67_13, s67_15, s67_16, s67_17, s67_18, s67_21, s67_23, s67_25, s67_27, s67_30, s67_32, s67_34, s67_37, s67_38, s67_41, s67_42, s67_43, s67_46, s67_49, s67_50, s67_53, s67_56, s67_57, s67_58, s67_61, s67_62, s67_65, s67_68, s67_69, s67_70, s67_73, s67_76, s67_77, s67_80, s67_81, okF, okA, mcC_o, mcF_o, mcT_i, mcT_l, mcT_z, mcT_q, mcN_i, mcN_l, mcN_z, mcN_q, mcI_i, mcI_z, mcL_l, mcQ_q, hg_hp, hp_hp, List.getD_cons_zero, List.getD_cons_succ, List.set_cons_zero, List.set_cons_succ, List.length_cons, List.length_nil, Nat.reduceAdd, Nat.reduceLT, Nat.reduceEqDiff, Nat.lt_add_one, decide_true, decide_false, Bool.and_true, Bool.true_and, Bool.and_false, Bool.false_and, Bool.false_eq_true, if_true, if_false, ↓reduceIte, Option.bind_some, Option.bind_none, kont_v, kont_n, h31, lgo L, T1.1, va, vg, s0, s1, l0, l1, l2, l3, a01, a12, a23, k0, k1, k2, k3, eq_self, b11, b01]
        · simp only [s67_0, s67_1, s67_2, s67_3, s67_4, s67_7, s67_8, s67_9, s67_10, s67_13, s67_15, s67_16, s67_17, s67_18, s67_21, s67_23, s67_25, s67_27, s67_30, s67_32, s67_34, s67_37, s67_38, s67_41, s67_42, s67_43, s67_46, s67_49, s67_50, s67_53, s67_56, s67_57, s67_58, s67_61, s67_62, s67_65, s67_68, s67_69, s67_70, s67_73, s67_76, s67_77, s67_80, s67_81, okF, okA, mcC_o, mcF_o, mcT_i, mcT_l, mcT_z, mcT_q, mcN_i, mcN_l, mcN_z, mcN_q, mcI_i, mcI_z, mcL_l, mcQ_q, hg_hp, hp_hp, List.getD_cons_zero, List.getD_cons_succ, List.set_cons_zero, List.set_cons_succ, List.length_cons, List.length_nil, Nat.reduceAdd, Nat.reduceLT, Nat.reduceEqDiff, Nat.lt_add_one, decide_true, decide_false, Bool.and_true, Bool.true_and, Bool.and_false, Bool.false_and, Bool.false_eq_true, if_true, if_false, ↓reduceIte, Option.bind_some, Option.bind_none, kont_v, kont_n, h31, lgo L, T1.1, va, vg, s0, s1, l0, l1, l2, l3, a01, a12, a23, k0, k1, k2, k3, eq_self, b11, b01]
      · by_cases k3 : q (g * 6 + 2) < q (a * 6 + 2)
        · simp only [s67_0, s67_1, s67_2, s67_3, s67_4, s67_7, s67_8, s67_9, s67_10, s67_13, s67_15, s67_16, s67_17, s67_18, s67_21, s67_23, s67_25, s67_27, s67_30, s67_32, s67_34, s67_37, s67_38, s67_41, s67_42, s67_43, s67_46, s67_49, s67_50, s67_53, s67_56, s67_57, s67_58, s67_61, s67_62, s67_65, s67_68, s67_69, s67_70, s67_73, s67_76, s67_77, s67_80, s67_81, okF, okA, mcC_o, mcF_o, mcT_i, mcT_l, mcT_z, mcT_q, mcN_i, mcN_l, mcN_z, mcN_q, mcI_i, mcI_z, mcL_l, mcQ_q, hg_hp, hp_hp, List.getD_cons_zero, List.getD_cons_succ, List.set_cons_zero, List.set_cons_succ, List.length_cons, List.length_nil, Nat.reduceAdd, Nat.reduceLT, Nat.reduceEqDiff, Nat.lt_add_one, decide_true, decide_false, Bool.and_true, Bool.true_and, Bool.and_false, Bool.false_and, Bool.false_eq_true, if_true, if_false, ↓reduceIte, Option.bind_some, Option.bind_none, kont_v, kont_n, h31, lgo L, T1.1, va, vg, l0, l1, l2, a01, a12, k0, k1, k2, k3, eq_self, b11, b01]
        · simp only [s67_0, s67_1, s67_2, s67_3, s67_4, s67_7, s67_8, s67_9, s67_10, s67_13, s67_15, s67_16, s67_17, s67_18, s67_21, s67_23, s67_25, s67_27, s67_30, s67_32, s67_34, s67_37, s67_38, s67_41, s67_42, s67_43, s67_46, s67_49, s67_50, s67_53, s67_56, s67_57, s67_58, s67_61, s67_62, s67_65, s67_68, s67_69, s67_70, s67_73, s67_76, s67_77, s67_80, s67_81, okF, okA, mcC_o, mcF_o, mcT_i, mcT_l, mcT_z, mcT_q, mcN_i, mcN_l, mcN_z, mcN_q, mcI_i, mcI_z, mcL_l, mcQ_q, hg_hp, hp_hp, List.getD_cons_zero, List.getD_cons_succ, List.set_cons_zero, List.set_cons_succ, List.length_cons, List.length_nil, Nat.reduceAdd, Nat.reduceLT, Nat.reduceEqDiff, Nat.lt_add_one, decide_true, decide_false, Bool.and_true, Bool.true_and, Bool.and_false, Bool.false_and, Bool.false_eq_true, if_true, if_false, ↓reduceIte, Option.bind_some, Option.bind_none, kont_v, kont_n, h31, lgo L, T1.1, va, vg, l0, l1, l2, a01, a12, k0, k1, k2, k3, eq_self, b11, b01]
    · by_cases k3 : vq1 q g < vq1 q a
      · simp only [s67_0, s67_1, s67_2, s67_3, s67_4, s67_7, s67_8, s67_9, s67_10, s67_13, s67_15, s67_16, s67_17, s67_18, s67_21, s67_23, s67_25, s67_27, s67_30, s67_32, s67_34, s67_37, s67_38, s67_41, s67_42, s67_43, s67_46, s67_49, s67_50, s67_53, s67_56, s67_57, s67_58, s67_61, s67_62, s67_65, s67_68, s67_69, s67_70, s67_73, s67_76, s67_77, s67_80, s67_81, okF, okA, mcC_o, mcF_o, mcT_i, mcT_l, mcT_z, mcT_q, mcN_i, mcN_l, mcN_z, mcN_q, mcI_i, mcI_z, mcL_l, mcQ_q, hg_hp, hp_hp, List.getD_cons_zero, List.getD_cons_succ, List.set_cons_zero, List.set_cons_succ, List.length_cons, List.length_nil, Nat.reduceAdd, Nat.reduceLT, Nat.reduceEqDiff, Nat.lt_add_one, decide_true, decide_false, Bool.and_true, Bool.true_and, Bool.and_false, Bool.false_and, Bool.false_eq_true, if_true, if_false, ↓reduceIte, Option.bind_some, Option.bind_none, kont_v, kont_n, h31, lgo L, T1.1, va, vg, l0, l1, a01, k0, k1, k3, eq_self, b11, b01]
      · simp only [s67_0, s67_1, s67_2, s67_3, s67_4, s67_7, s67_8, s67_9, s67_10, s67_13, s67_15, s67_16, s67_17, s67_18, s67_21, s67_23, s67_25, s67_27, s67_30, s67_32, s67_34, s67_37, s67_38, s67_41, s67_42, s67_43, s67_46, s67_49, s67_50, s67_53, s67_56, s67_57, s67_58, s67_61, s67_62, s67_65, s67_68, s67_69, s67_70, s67_73, s67_76, s67_77, s67_80, s67_81, okF, okA, mcC_o, mcF_o, mcT_i, mcT_l, mcT_z, mcT_q, mcN_i, mcN_l, mcN_z, mcN_q, mcI_i, mcI_z, mcL_l, mcQ_q, hg_hp, hp_hp, List.getD_cons_zero, List.getD_cons_succ, List.set_cons_zero, List.set_cons_succ, List.length_cons, List.length_nil, Nat.reduceAdd, Nat.reduceLT, Nat.reduceEqDiff, Nat.lt_add_one, decide_true, decide_false, Bool.and_true, Bool.true_and, Bool.and_false, Bool.false_and, Bool.false_eq_true, if_true, if_false, ↓reduceIte, Option.bind_some, Option.bind_none, kont_v, kont_n, h31, lgo L, T1.1, va, vg, l0, l1, a01, k0, k1, k3, eq_self, b11, b01]
  · by_cases k3 : vq0 q g < vq0 q a
    · simp only [s67_0, s67_1, s67_2, s67_3, s67_4, s67_7, s67_8, s67_9, s67_10, s67_13, s67_15, s67_16, s67_17, s67_18, s67_21, s67_23, s67_25, s67_27, s67_30, s67_32, s67_34, s67_37, s67_38, s67_41, s67_42, s67_43, s67_46, s67_49, s67_50, s67_53, s67_56, s67_57, s67_58, s67_61, s67_62, s67_65, s67_68, s67_69, s67_70, s67_73, s67_76, s67_77, s67_80, s67_81, okF, okA, mcC_o, mcF_o, mcT_i, mcT_l, mcT_z, mcT_q, mcN_i, mcN_l, mcN_z, mcN_q, mcI_i, mcI_z, mcL_l, mcQ_q, hg_hp, hp_hp, List.getD_cons_zero, List.getD_cons_succ, List.set_cons_zero, List.set_cons_succ, List.length_cons, List.length_nil, Nat.reduceAdd, Nat.reduceLT, Nat.reduceEqDiff, Nat.lt_add_one, decide_true, decide_false, Bool.and_true, Bool.true_and, Bool.and_false, Bool.false_and, Bool.false_eq_true, if_true, if_false, ↓reduceIte, Option.bind_some, Option.bind_none, kont_v, kont_n, h31, lgo L, T1.1, va, vg, l0, k0, k3, b11, b01]
    · simp only [s67_0, s67_1, s67_2, s67_3, s67_4, s67_7, s67_8, s67_9, s67_10, s67_13, s67_15, s67_16, s67_17, s67_18, s67_21, s67_23, s67_25, s67_27, s67_30, s67_32, s67_34, s67_37, s67_38, s67_41, s67_42, s67_43, s67_46, s67_49, s67_50, s67_53, s67_56, s67_57, s67_58, s67_61, s67_62, s67_65, s67_68, s67_69, s67_70, s67_73, s67_76, s67_77, s67_80, s67_81, okF, okA, mcC_o, mcF_o, mcT_i, mcT_l, mcT_z, mcT_q, mcN_i, mcN_l, mcN_z, mcN_q, mcI_i, mcI_z, mcL_l, mcQ_q, hg_hp, hp_hp, List.getD_cons_zero, List.getD_cons_succ, List.set_cons_zero, List.set_cons_succ, List.length_cons, List.length_nil, Nat.reduceAdd, Nat.reduceLT, Nat.reduceEqDiff, Nat.lt_add_one, decide_true, decide_false, Bool.and_true, Bool.true_and, Bool.and_false, Bool.false_and, Bool.false_eq_true, if_true, if_false, ↓reduceIte, Option.bind_some, Option.bind_none, kont_v, kont_n, h31, lgo L, T1.1, va, vg, l0, k0, k3, b11, b01]
end CVA

-- DIGEST: the reference's counts
section DGN
variable {X : MX} {t : Nat} {h H : MH} {D : LD} {S IM KP : Nat → Int32}
theorem m_cnt_lp (R : REL D S) (b2 : D.1 2 ≤ 120) (F : FIX H) (M : MD H S IM KP) {a4 : Value} : ∀ (d k : Nat) (g : G8), k + d = 8 → ∃ g', ev X 239 6 [.ref 55, .long (mx (cnv D) 293 k), .float 0, .int (nI k), a4] [] (GH H g) = ev X 239 31 [.ref 55, .long (mx (cnv D) 293 8), .float 0, .int (nI 8), a4] [] (GH H g')
  | 0, k, g, e => by
    have e : k = 8 := by omega
    have l : ¬ nI 8 < 8 := by decide
    subst e
    refine ⟨g, ?_⟩
    rw [s239_6]
    simp only [s239_0, s239_3, s239_4, s239_5, s239_7, s239_9, s239_12, s239_15, s239_16, s239_17, s239_18, s239_19, s239_22, s239_23, s239_24, s239_25, s239_28, s239_32, s239_33, s239_35, s239_36, s239_37, s239_40, s239_41, s239_42, s239_43, s239_46, s239_47, s239_48, s239_49, s239_51, s239_52, s239_53, s239_56, s239_57, s239_58, s239_59, s239_62, s239_63, s239_64, s239_66, s239_67, s239_70, s239_71, s239_72, s239_75, s239_76, s239_77, s239_80, s239_83, s239_84, s239_85, s239_86, s239_88, s239_91, s239_92, s239_93, s239_97, s239_99, s239_102, s239_105, s239_106, s239_107, s239_108, s239_109, s239_111, s239_114, s239_115, s239_116, s239_117, s239_120, s239_123, s239_126, s239_129, s239_130, s239_131, s239_133, s239_134, s239_137, s239_138, s239_139, s239_142, s239_143, s239_144, s239_146, s239_147, s239_150, s239_151, s239_152, s239_155, s239_157, s239_158, s239_159, s239_160, s239_161, s239_162, s239_165, s239_168, s239_170, s239_171, s239_172, s239_173, s239_174, s239_175, s239_178, s239_179, s239_182, s239_185, s239_186, s239_187, s239_189, s239_190, s239_191, s239_194, s239_195, s239_196, s239_197, s239_200, s239_201, s239_202, s239_203, s239_206, s239_207, s239_208, s239_211, s239_213, s239_214, s239_215, s239_218, s239_219, s239_220, s239_221, s239_223, s239_224, s239_227, okF, okA, mcC_o, mcF_o, mcT_i, mcT_l, mcT_z, mcT_q, mcN_i, mcN_l, mcN_z, mcN_q, mcI_i, mcI_z, mcL_l, mcQ_q, hg_hp, hp_hp, List.getD_cons_zero, List.getD_cons_succ, List.set_cons_zero, List.set_cons_succ, List.length_cons, List.length_nil, Nat.reduceAdd, Nat.reduceLT, Nat.reduceEqDiff, Nat.lt_add_one, decide_true, decide_false, Bool.and_true, Bool.true_and, Bool.and_false, Bool.false_and, Bool.false_eq_true, if_true, if_false, ↓reduceIte, Option.bind_some, Option.bind_none, kont_v, kont_n, l]
  | d + 1, k, g, e => by
    have K := GH_MOK F (g := g)
    have Mg := M.gh (g := g)
    have l : nI k < 8 := nI_lt (a := k) (b := 8) (by omega) (by decide)
    have p1 : nI k + 1 = nI (k + 1) := nI_add k 1
    obtain ⟨g1, mc⟩ := m_countOf (X := X) R b2 K.1 Mg (k := k) (by omega)
    rw [cnv_S R (by omega), GH_GH F] at mc
    obtain ⟨io, wl, pl, sp, wa, se, bc, sv, bq, h0⟩ := K.1.c55
    obtain ⟨g', ih⟩ := m_cnt_lp R b2 F M (a4 := a4) d (k + 1) g1 (by omega)
    refine ⟨g', ?_⟩
    rw [← ih, show mx (cnv D) 293 (k + 1) = 31 * mx (cnv D) 293 k + (cnv D k).toInt64 from rfl, s239_6]
    simp only [s239_0, s239_3, s239_4, s239_5, s239_7, s239_9, s239_12, s239_15, s239_16, s239_17, s239_18, s239_19, s239_22, s239_23, s239_24, s239_25, s239_28, s239_32, s239_33, s239_35, s239_36, s239_37, s239_40, s239_41, s239_42, s239_43, s239_46, s239_47, s239_48, s239_49, s239_51, s239_52, s239_53, s239_56, s239_57, s239_58, s239_59, s239_62, s239_63, s239_64, s239_66, s239_67, s239_70, s239_71, s239_72, s239_75, s239_76, s239_77, s239_80, s239_83, s239_84, s239_85, s239_86, s239_88, s239_91, s239_92, s239_93, s239_97, s239_99, s239_102, s239_105, s239_106, s239_107, s239_108, s239_109, s239_111, s239_114, s239_115, s239_116, s239_117, s239_120, s239_123, s239_126, s239_129, s239_130, s239_131, s239_133, s239_134, s239_137, s239_138, s239_139, s239_142, s239_143, s239_144, s239_146, s239_147, s239_150, s239_151, s239_152, s239_155, s239_157, s239_158, s239_159, s239_160, s239_161, s239_162, s239_165, s239_168, s239_170, s239_171, s239_172, s239_173, s239_174, s239_175, s239_178, s239_179, s239_182, s239_185, s239_186, s239_187, s239_189, s239_190, s239_191, s239_194, s239_195, s239_196, s239_197, s239_200, s239_201, s239_202, s239_203, s239_206, s239_207, s239_208, s239_211, s239_213, s239_214, s239_215, s239_218, s239_219, s239_220, s239_221, s239_223, s239_224, s239_227, okF, okA, mcC_o, mcF_o, mcT_i, mcT_l, mcT_z, mcT_q, mcN_i, mcN_l, mcN_z, mcN_q, mcI_i, mcI_z, mcL_l, mcQ_q, hg_hp, hp_hp, List.getD_cons_zero, List.getD_cons_succ, List.set_cons_zero, List.set_cons_succ, List.length_cons, List.length_nil, Nat.reduceAdd, Nat.reduceLT, Nat.reduceEqDiff, Nat.lt_add_one, decide_true, decide_false, Bool.and_true, Bool.true_and, Bool.and_false, Bool.false_and, Bool.false_eq_true, if_true, if_false, ↓reduceIte, Option.bind_some, Option.bind_none, kont_v, kont_n, h0, l, p1, mc]
end DGN

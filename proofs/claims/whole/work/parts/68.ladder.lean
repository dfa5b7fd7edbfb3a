-- CALLS 11: ladder
def pmv (N : Nat) (s : Nat → Int32) (v : Int32) : Int32 := if fnn v < N then s (fnn v) else -1
def pml (N : Nat) (s : Nat → Int32) (c : Nat) (a : Nat → Int32) : Nat → Int32 := fun k => if k < c then pmv N s (a k) else a k
def rnd (go : Int32 → Int32 → Int32) (c : Nat) (a : Nat → Int32) : Nat → Int32 := fun j => if j < c then go (a (2 * j)) (a (2 * j + 1)) else a j
def rds (go : Int32 → Int32 → Int32) : Nat → Nat → (Nat → Int32) → Nat → Int32
  | 0, _, a => a
  | d + 1, e, a => rds go d e (rnd go (2 ^ d * e) a)
theorem rds_congr {go : Int32 → Int32 → Int32} : ∀ (d e : Nat) (a b : Nat → Int32), (∀ i, i < 2 ^ d * e → a i = b i) → ∀ i, i < e → rds go d e a i = rds go d e b i
  | 0, e, a, b, h, i, hi => h i (by rw [Nat.pow_zero, Nat.one_mul]; exact hi)
  | d + 1, e, a, b, h, i, hi => by
    have p0 : 2 ^ (d + 1) * e = 2 * (2 ^ d * e) := by rw [Nat.pow_succ, Nat.mul_comm (2 ^ d) 2, Nat.mul_assoc]
    rw [p0] at h
    refine rds_congr d e _ _ (fun j hj => ?_) i hi
    unfold rnd
    rw [if_pos hj, if_pos hj, h (2 * j) (by omega), h (2 * j + 1) (by omega)]
theorem pml_step {N c : Nat} {s a : Nat → Int32} : upd (pml N s c a) c (pmv N s (a c)) = pml N s (c + 1) a := by
  funext k
  unfold pml
  by_cases e : k = c
  · rw [e, upd_eq, if_pos (by omega)]
  · rw [upd_ne e]
    by_cases h : k < c
    · rw [if_pos h, if_pos (by omega)]
    · rw [if_neg h, if_neg (by omega)]
theorem rnd_step {go : Int32 → Int32 → Int32} {c : Nat} {a : Nat → Int32} : upd (rnd go c a) c (go (a (2 * c)) (a (2 * c + 1))) = rnd go (c + 1) a := by
  funext k
  unfold rnd
  by_cases e : k = c
  · rw [e, upd_eq, if_pos (by omega)]
  · rw [upd_ne e]
    by_cases h : k < c
    · rw [if_pos h, if_pos (by omega)]
    · rw [if_neg h, if_neg (by omega)]
theorem pml_0 {N : Nat} {s a : Nat → Int32} : pml N s 0 a = a := by
  funext k
  unfold pml
  rw [if_neg (by omega)]
theorem rnd_0 {go : Int32 → Int32 → Int32} {a : Nat → Int32} : rnd go 0 a = a := by
  funext k
  unfold rnd
  rw [if_neg (by omega)]
def lgN (N : Nat) : Nat := if N ≤ 2 then 0 else if N ≤ 4 then 1 else if N ≤ 8 then 2 else 3
section LDR
variable {X : MX} {t : Nat} {h : MH} {D : LD} {S IM KP : Nat → Int32}
theorem c_tableSize {N : Nat} (hN : N ≤ 16) : (ev X 40 0 [.int (nI N), .float 0] [] (h)) = some (some (.int (nI (2 * 2 ^ lgN N))), (h)) := by
  have m22 : (2 : Int32) * 2 = 4 := by decide
  have m42 : (4 : Int32) * 2 = 8 := by decide
  have m82 : (8 : Int32) * 2 = 16 := by decide
  have c2 : (2 : Int32) < 16 := by decide
  have c4 : (4 : Int32) < 16 := by decide
  have c8 : (8 : Int32) < 16 := by decide
  have lt : ∀ k, k < 100 → (nI k < nI N ↔ k < N) := fun k hk => nI_ltI (by omega) (by omega)
  have l2 := lt 2 (by decide)
  have l4 := lt 4 (by decide)
  have l8 := lt 8 (by decide)
  have l16 := lt 16 (by decide)
  rw [← nl_2] at l2
  rw [← nl_4] at l4
  rw [← nl_8] at l8
  rw [← nl_16] at l16
  unfold lgN
  by_cases h2 : N ≤ 2
  · rw [if_pos h2]
    have k2 : ¬ (2 : Int32) < nI N := fun z => by have := l2.mp z; omega
    simp only [s40_0, s40_1, s40_2, s40_3, s40_4, s40_7, s40_8, s40_10, s40_13, s40_14, s40_15, s40_16, s40_17, s40_20, s40_21, okF, okA, mcC_o, mcF_o, mcT_i, mcT_l, mcT_z, mcT_q, mcN_i, mcN_l, mcN_z, mcN_q, mcI_i, mcI_z, mcL_l, mcQ_q, hg_hp, hp_hp, List.getD_cons_zero, List.getD_cons_succ, List.set_cons_zero, List.set_cons_succ, List.length_cons, List.length_nil, Nat.reduceAdd, Nat.reduceLT, Nat.reduceEqDiff, Nat.lt_add_one, decide_true, decide_false, Bool.and_true, Bool.true_and, Bool.and_false, Bool.false_and, Bool.false_eq_true, if_true, if_false, ↓reduceIte, Option.bind_some, Option.bind_none, kont_v, kont_n, k2]
    rfl
  have k2 : (2 : Int32) < nI N := l2.mpr (by omega)
  rw [if_neg h2]
  by_cases h4 : N ≤ 4
  · rw [if_pos h4]
    have k4 : ¬ (4 : Int32) < nI N := fun z => by have := l4.mp z; omega
    simp only [s40_0, s40_1, s40_2, s40_3, s40_4, s40_7, s40_8, s40_10, s40_13, s40_14, s40_15, s40_16, s40_17, s40_20, s40_21, okF, okA, mcC_o, mcF_o, mcT_i, mcT_l, mcT_z, mcT_q, mcN_i, mcN_l, mcN_z, mcN_q, mcI_i, mcI_z, mcL_l, mcQ_q, hg_hp, hp_hp, List.getD_cons_zero, List.getD_cons_succ, List.set_cons_zero, List.set_cons_succ, List.length_cons, List.length_nil, Nat.reduceAdd, Nat.reduceLT, Nat.reduceEqDiff, Nat.lt_add_one, decide_true, decide_false, Bool.and_true, Bool.true_and, Bool.and_false, Bool.false_and, Bool.false_eq_true, if_true, if_false, ↓reduceIte, Option.bind_some, Option.bind_none, kont_v, kont_n, k2, k4, c2, m22]
    rfl
  have k4 : (4 : Int32) < nI N := l4.mpr (by omega)
  rw [if_neg h4]
  by_cases h8 : N ≤ 8
  · rw [if_pos h8]
    have k8 : ¬ (8 : Int32) < nI N := fun z => by have := l8.mp z; omega
    simp only [s40_0, s40_1, s40_2, s40_3, s40_4, s40_7, s40_8, s40_10, s40_13, s40_14, s40_15, s40_16, s40_17, s40_20, s40_21, okF, okA, mcC_o, mcF_o, mcT_i, mcT_l, mcT_z, mcT_q, mcN_i, mcN_l, mcN_z, mcN_q, mcI_i, mcI_z, mcL_l, mcQ_q, hg_hp, hp_hp, List.getD_cons_zero, List.getD_cons_succ, List.set_cons_zero, List.set_cons_succ, List.length_cons, List.length_nil, Nat.reduceAdd, Nat.reduceLT, Nat.reduceEqDiff, Nat.lt_add_one, decide_true, decide_false, Bool.and_true, Bool.true_and, Bool.and_false, Bool.false_and, Bool.false_eq_true, if_true, if_false, ↓reduceIte, Option.bind_some, Option.bind_none, kont_v, kont_n, k2, k4, k8, c2, c4, m22, m42]
    rfl
  have k8 : (8 : Int32) < nI N := l8.mpr (by omega)
  have k16 : ¬ (16 : Int32) < nI N := fun z => by have := l16.mp z; omega
  rw [if_neg h8]
  simp only [s40_0, s40_1, s40_2, s40_3, s40_4, s40_7, s40_8, s40_10, s40_13, s40_14, s40_15, s40_16, s40_17, s40_20, s40_21, okF, okA, mcC_o, mcF_o, mcT_i, mcT_l, mcT_z, mcT_q, mcN_i, mcN_l, mcN_z, mcN_q, mcI_i, mcI_z, mcL_l, mcQ_q, hg_hp, hp_hp, List.getD_cons_zero, List.getD_cons_succ, List.set_cons_zero, List.set_cons_succ, List.length_cons, List.length_nil, Nat.reduceAdd, Nat.reduceLT, Nat.reduceEqDiff, Nat.lt_add_one, decide_true, decide_false, Bool.and_true, Bool.true_and, Bool.and_false, Bool.false_and, Bool.false_eq_true, if_true, if_false, ↓reduceIte, Option.bind_some, Option.bind_none, kont_v, kont_n, k2, k4, k8, k16, c2, c4, c8, m22, m42, m82]
  rfl
theorem c_map_loop {B : MH} {N sz : Nat} {s a : Nat → Int32} {a1 a2 a3 a7 : Value} (h37 : hg B 37 = oB 3 [.ref 1, .ref 22, .ref 38, .ref 39]) (h38 : hg B 38 = iA 16 s) (hN : N ≤ 16) (hs_ : sz ≤ 16) (hT : TE sz a) : ∀ (d c : Nat), c + d = sz → ev X 41 30 [.ref 37, a1, a2, a3, .int (nI N), .int (nI sz), .int (nI c), a7] [] (hp B 39 (iA 16 (pml N s c a))) = ev X 41 84 [.ref 37, a1, a2, a3, .int (nI N), .int (nI sz), .int (nI sz), a7] [] (hp B 39 (iA 16 (pml N s sz a)))
  | 0, c, hc => by
    have e : c = sz := by omega
    subst e
    have q := nI_nlt (Nat.le_refl c) (by omega)
    rw [s41_30]
    simp only [s41_0, s41_1, s41_4, s41_5, s41_6, s41_9, s41_12, s41_14, s41_16, s41_19, s41_21, s41_22, s41_24, s41_27, s41_28, s41_32, s41_34, s41_37, s41_38, s41_41, s41_43, s41_44, s41_47, s41_49, s41_50, s41_51, s41_53, s41_54, s41_55, s41_58, s41_61, s41_62, s41_65, s41_66, s41_69, s41_71, s41_72, s41_73, s41_76, s41_77, s41_78, s41_81, s41_85, s41_89, s41_90, s41_93, s41_95, s41_96, s41_99, s41_101, s41_102, s41_103, s41_105, s41_106, s41_110, s41_112, s41_115, s41_116, s41_119, s41_121, s41_122, s41_123, s41_126, s41_127, s41_129, s41_130, s41_131, s41_132, s41_135, s41_136, s41_138, s41_139, s41_140, s41_141, s41_142, s41_145, s41_146, s41_149, s41_152, s41_155, s41_158, s41_159, s41_160, s41_162, s41_163, s41_164, s41_167, s41_170, s41_171, s41_174, s41_175, s41_176, s41_179, s41_180, okF, okA, mcC_o, mcF_o, mcT_i, mcT_l, mcT_z, mcT_q, mcN_i, mcN_l, mcN_z, mcN_q, mcI_i, mcI_z, mcL_l, mcQ_q, hg_hp, hp_hp, List.getD_cons_zero, List.getD_cons_succ, List.set_cons_zero, List.set_cons_succ, List.length_cons, List.length_nil, Nat.reduceAdd, Nat.reduceLT, Nat.reduceEqDiff, Nat.lt_add_one, decide_true, decide_false, Bool.and_true, Bool.true_and, Bool.and_false, Bool.false_and, Bool.false_eq_true, if_true, if_false, ↓reduceIte, Option.bind_some, Option.bind_none, kont_v, kont_n, q]
  | d + 1, c, hc => by
    have q := nI_lt (show c < sz by omega) (by omega)
    obtain ⟨u, hu, eu⟩ := hT c (by omega)
    have rd : pml N s c a c = nI u := by unfold pml; rw [if_neg (by omega)]; exact eu
    have ih := c_map_loop (a1 := a1) (a2 := a2) (a3 := a3) (a7 := a7) h37 h38 hN hs_ hT d (c + 1) (by omega)
    have ew : ∀ B : MH, (ev X 112 0 [.int (nI u), .int 0, .int (nI N - 1)] [] (B)) = some (some (.int (hs N (nI u))), (B)) := fun B => by rw [c_within, wi_hs (by omega)]
    have st := pml_step (N := N) (c := c) (s := s) (a := a)
    have fu_ : fnn (nI u) = u := by unfold fnn; rw [nI_clamp (by omega)]
    rw [eu] at st
    unfold pmv at st
    rw [fu_] at st
    rw [← ih, s41_30]
    by_cases k : u < N
    · have w1 := hs_n k (by omega)
      rw [if_pos k] at st
      simp (disch := omega) only [s41_0, s41_1, s41_4, s41_5, s41_6, s41_9, s41_12, s41_14, s41_16, s41_19, s41_21, s41_22, s41_24, s41_27, s41_28, s41_32, s41_34, s41_37, s41_38, s41_41, s41_43, s41_44, s41_47, s41_49, s41_50, s41_51, s41_53, s41_54, s41_55, s41_58, s41_61, s41_62, s41_65, s41_66, s41_69, s41_71, s41_72, s41_73, s41_76, s41_77, s41_78, s41_81, s41_85, s41_89, s41_90, s41_93, s41_95, s41_96, s41_99, s41_101, s41_102, s41_103, s41_105, s41_106, s41_110, s41_112, s41_115, s41_116, s41_119, s41_121, s41_122, s41_123, s41_126, s41_127, s41_129, s41_130, s41_131, s41_132, s41_135, s41_136, s41_138, s41_139, s41_140, s41_141, s41_142, s41_145, s41_146, s41_149, s41_152, s41_155, s41_158, s41_159, s41_160, s41_162, s41_163, s41_164, s41_167, s41_170, s41_171, s41_174, s41_175, s41_176, s41_179, s41_180, okF, okA, mcC_o, mcF_o, mcT_i, mcT_l, mcT_z, mcT_q, mcN_i, mcN_l, mcN_z, mcN_q, mcI_i, mcI_z, mcL_l, mcQ_q, hg_hp, hp_hp, List.getD_cons_zero, List.getD_cons_succ, List.set_cons_zero, List.set_cons_succ, List.length_cons, List.length_nil, Nat.reduceAdd, Nat.reduceLT, Nat.reduceEqDiff, Nat.lt_add_one, decide_true, decide_false, Bool.and_true, Bool.true_and, Bool.and_false, Bool.false_and, Bool.false_eq_true, if_true, if_false, ↓reduceIte, Option.bind_some, Option.bind_none, kont_v, kont_n, h37, h38, q, nI_clamp, inR_n, rd, ew, w1, one0, nI_1, st]
    · have w0 : hs N (nI u) = 0 := by
        unfold hs
        rw [if_neg (nI_pos (by omega)), if_neg (nI_nlt (by omega) (by omega))]
      rw [if_neg k] at st
      simp (disch := omega) only [s41_0, s41_1, s41_4, s41_5, s41_6, s41_9, s41_12, s41_14, s41_16, s41_19, s41_21, s41_22, s41_24, s41_27, s41_28, s41_32, s41_34, s41_37, s41_38, s41_41, s41_43, s41_44, s41_47, s41_49, s41_50, s41_51, s41_53, s41_54, s41_55, s41_58, s41_61, s41_62, s41_65, s41_66, s41_69, s41_71, s41_72, s41_73, s41_76, s41_77, s41_78, s41_81, s41_85, s41_89, s41_90, s41_93, s41_95, s41_96, s41_99, s41_101, s41_102, s41_103, s41_105, s41_106, s41_110, s41_112, s41_115, s41_116, s41_119, s41_121, s41_122, s41_123, s41_126, s41_127, s41_129, s41_130, s41_131, s41_132, s41_135, s41_136, s41_138, s41_139, s41_140, s41_141, s41_142, s41_145, s41_146, s41_149, s41_152, s41_155, s41_158, s41_159, s41_160, s41_162, s41_163, s41_164, s41_167, s41_170, s41_171, s41_174, s41_175, s41_176, s41_179, s41_180, okF, okA, mcC_o, mcF_o, mcT_i, mcT_l, mcT_z, mcT_q, mcN_i, mcN_l, mcN_z, mcN_q, mcI_i, mcI_z, mcL_l, mcQ_q, hg_hp, hp_hp, List.getD_cons_zero, List.getD_cons_succ, List.set_cons_zero, List.set_cons_succ, List.length_cons, List.length_nil, Nat.reduceAdd, Nat.reduceLT, Nat.reduceEqDiff, Nat.lt_add_one, decide_true, decide_false, Bool.and_true, Bool.true_and, Bool.and_false, Bool.false_and, Bool.false_eq_true, if_true, if_false, ↓reduceIte, Option.bind_some, Option.bind_none, kont_v, kont_n, h37, h38, q, nI_clamp, inR_n, rd, ew, w0, nI_1, st]
theorem c_rnd_loop {B : MH} {sz : Nat} {a : Nat → Int32} {a1 a2 a3 a4 a6 : Value} (L : LG B 1 D) (h22 : hg B 22 = oB 1 [.ref 6]) (h37 : hg B 37 = oB 3 [.ref 1, .ref 22, .ref 38, .ref 39]) (hF : FB (D.1 2) (D.2.1 2)) (hs_ : 2 * sz ≤ 16) : ∀ (d c : Nat), c + d = sz → ev X 41 108 [.ref 37, a1, a2, a3, a4, .int (nI sz), a6, .int (nI c)] [] (hp B 39 (iA 16 (rnd (gos (D.2.1 2) (D.1 2)) c a))) = ev X 41 152 [.ref 37, a1, a2, a3, a4, .int (nI sz), a6, .int (nI sz)] [] (hp B 39 (iA 16 (rnd (gos (D.2.1 2) (D.1 2)) sz a)))
  | 0, c, hc => by
    have e : c = sz := by omega
    subst e
    have q := nI_nlt (Nat.le_refl c) (by omega)
    rw [s41_108]
    simp only [s41_0, s41_1, s41_4, s41_5, s41_6, s41_9, s41_12, s41_14, s41_16, s41_19, s41_21, s41_22, s41_24, s41_27, s41_28, s41_32, s41_34, s41_37, s41_38, s41_41, s41_43, s41_44, s41_47, s41_49, s41_50, s41_51, s41_53, s41_54, s41_55, s41_58, s41_61, s41_62, s41_65, s41_66, s41_69, s41_71, s41_72, s41_73, s41_76, s41_77, s41_78, s41_81, s41_84, s41_85, s41_89, s41_90, s41_93, s41_95, s41_96, s41_99, s41_101, s41_102, s41_103, s41_105, s41_106, s41_110, s41_112, s41_115, s41_116, s41_119, s41_121, s41_122, s41_123, s41_126, s41_127, s41_129, s41_130, s41_131, s41_132, s41_135, s41_136, s41_138, s41_139, s41_140, s41_141, s41_142, s41_145, s41_146, s41_149, s41_155, s41_158, s41_159, s41_160, s41_162, s41_163, s41_164, s41_167, s41_170, s41_171, s41_174, s41_175, s41_176, s41_179, s41_180, okF, okA, mcC_o, mcF_o, mcT_i, mcT_l, mcT_z, mcT_q, mcN_i, mcN_l, mcN_z, mcN_q, mcI_i, mcI_z, mcL_l, mcQ_q, hg_hp, hp_hp, List.getD_cons_zero, List.getD_cons_succ, List.set_cons_zero, List.set_cons_succ, List.length_cons, List.length_nil, Nat.reduceAdd, Nat.reduceLT, Nat.reduceEqDiff, Nat.lt_add_one, decide_true, decide_false, Bool.and_true, Bool.true_and, Bool.and_false, Bool.false_and, Bool.false_eq_true, if_true, if_false, ↓reduceIte, Option.bind_some, Option.bind_none, kont_v, kont_n, q]
  | d + 1, c, hc => by
    have q := nI_lt (show c < sz by omega) (by omega)
    have ih := c_rnd_loop (a1 := a1) (a2 := a2) (a3 := a3) (a4 := a4) (a6 := a6) (a := a) L h22 h37 hF hs_ d (c + 1) (by omega)
    have r0 : rnd (gos (D.2.1 2) (D.1 2)) c a (2 * c) = a (2 * c) := by unfold rnd; rw [if_neg (by omega)]
    have r1 : rnd (gos (D.2.1 2) (D.1 2)) c a (2 * c + 1) = a (2 * c + 1) := by unfold rnd; rw [if_neg (by omega)]
    have eg := c_goesOn (X := X) (H := hp B 39 (iA 16 (rnd (gos (D.2.1 2) (D.1 2)) c a))) (x := a (2 * c)) (y := a (2 * c + 1)) (hp_lg L (by decide)) (by rw [hg_hp, if_neg (by decide)]; exact h22) (by rw [hg_hp, if_neg (by decide)]; exact h37) hF
    have st := rnd_step (go := gos (D.2.1 2) (D.1 2)) (c := c) (a := a)
    rw [← ih, s41_108]
    simp (disch := omega) only [s41_0, s41_1, s41_4, s41_5, s41_6, s41_9, s41_12, s41_14, s41_16, s41_19, s41_21, s41_22, s41_24, s41_27, s41_28, s41_32, s41_34, s41_37, s41_38, s41_41, s41_43, s41_44, s41_47, s41_49, s41_50, s41_51, s41_53, s41_54, s41_55, s41_58, s41_61, s41_62, s41_65, s41_66, s41_69, s41_71, s41_72, s41_73, s41_76, s41_77, s41_78, s41_81, s41_84, s41_85, s41_89, s41_90, s41_93, s41_95, s41_96, s41_99, s41_101, s41_102, s41_103, s41_105, s41_106, s41_110, s41_112, s41_115, s41_116, s41_119, s41_121, s41_122, s41_123, s41_126, s41_127, s41_129, s41_130, s41_131, s41_132, s41_135, s41_136, s41_138, s41_139, s41_140, s41_141, s41_142, s41_145, s41_146, s41_149, s41_155, s41_158, s41_159, s41_160, s41_162, s41_163, s41_164, s41_167, s41_170, s41_171, s41_174, s41_175, s41_176, s41_179, s41_180, okF, okA, mcC_o, mcF_o, mcT_i, mcT_l, mcT_z, mcT_q, mcN_i, mcN_l, mcN_z, mcN_q, mcI_i, mcI_z, mcL_l, mcQ_q, hg_hp, hp_hp, List.getD_cons_zero, List.getD_cons_succ, List.set_cons_zero, List.set_cons_succ, List.length_cons, List.length_nil, Nat.reduceAdd, Nat.reduceLT, Nat.reduceEqDiff, Nat.lt_add_one, decide_true, decide_false, Bool.and_true, Bool.true_and, Bool.and_false, Bool.false_and, Bool.false_eq_true, if_true, if_false, ↓reduceIte, Option.bind_some, Option.bind_none, kont_v, kont_n, h37, q, nm_2, nI_1, nI_clamp, inR_n, r0, r1, eg, st]
theorem c_rds_loop {B : MH} {e r : Nat} {a1 a3 a4 : Value} (L : LG B 1 D) (h22 : hg B 22 = oB 1 [.ref 6]) (h37 : hg B 37 = oB 3 [.ref 1, .ref 22, .ref 38, .ref 39]) (hF : FB (D.1 2) (D.2.1 2)) (he : 1 ≤ e) (hr : r ≤ 4) : ∀ (d st : Nat) (a : Nat → Int32) (a7 : Value), st + d = r → 2 ^ d * e ≤ 16 → ∃ b7, ev X 41 87 [.ref 37, a1, .int (nI r), a3, a4, .int (nI (2 ^ d * e)), .int (nI st), a7] [] (hp B 39 (iA 16 a)) = ev X 41 158 [.ref 37, a1, .int (nI r), a3, a4, .int (nI e), .int (nI r), b7] [] (hp B 39 (iA 16 (rds (gos (D.2.1 2) (D.1 2)) d e a)))
  | 0, st, a, a7, hst, hz => by
    have e0 : st = r := by omega
    subst e0
    have q := nI_nlt (Nat.le_refl st) (by omega)
    refine ⟨a7, ?_⟩
    rw [s41_87, Nat.pow_zero, Nat.one_mul]
    simp only [s41_0, s41_1, s41_4, s41_5, s41_6, s41_9, s41_12, s41_14, s41_16, s41_19, s41_21, s41_22, s41_24, s41_27, s41_28, s41_32, s41_34, s41_37, s41_38, s41_41, s41_43, s41_44, s41_47, s41_49, s41_50, s41_51, s41_53, s41_54, s41_55, s41_58, s41_61, s41_62, s41_65, s41_66, s41_69, s41_71, s41_72, s41_73, s41_76, s41_77, s41_78, s41_81, s41_84, s41_85, s41_89, s41_90, s41_93, s41_95, s41_96, s41_99, s41_101, s41_102, s41_103, s41_105, s41_106, s41_110, s41_112, s41_115, s41_116, s41_119, s41_121, s41_122, s41_123, s41_126, s41_127, s41_129, s41_130, s41_131, s41_132, s41_135, s41_136, s41_138, s41_139, s41_140, s41_141, s41_142, s41_145, s41_146, s41_149, s41_152, s41_155, s41_159, s41_160, s41_162, s41_163, s41_164, s41_167, s41_170, s41_171, s41_174, s41_175, s41_176, s41_179, s41_180, okF, okA, mcC_o, mcF_o, mcT_i, mcT_l, mcT_z, mcT_q, mcN_i, mcN_l, mcN_z, mcN_q, mcI_i, mcI_z, mcL_l, mcQ_q, hg_hp, hp_hp, List.getD_cons_zero, List.getD_cons_succ, List.set_cons_zero, List.set_cons_succ, List.length_cons, List.length_nil, Nat.reduceAdd, Nat.reduceLT, Nat.reduceEqDiff, Nat.lt_add_one, decide_true, decide_false, Bool.and_true, Bool.true_and, Bool.and_false, Bool.false_and, Bool.false_eq_true, if_true, if_false, ↓reduceIte, Option.bind_some, Option.bind_none, kont_v, kont_n, q, rds]
  | d + 1, st, a, a7, hst, hz => by
    have p0 : 2 ^ (d + 1) * e = 2 * (2 ^ d * e) := by rw [Nat.pow_succ, Nat.mul_comm (2 ^ d) 2, Nat.mul_assoc]
    have p1 : 1 ≤ 2 ^ d * e := Nat.mul_pos (Nat.two_pow_pos d) he
    rw [p0] at hz ⊢
    have q := nI_lt (show st < r by omega) (by omega)
    have q1 : (1 : Int32) < nI (2 * (2 ^ d * e)) := by rw [nl_1, nI_ltI (by omega) (by omega)]; omega
    have dv : nI (2 * (2 ^ d * e)) / 2 = nI (2 ^ d * e) := by
      have := pk_div (a := 2 * (2 ^ d * e)) (d := 2) (by omega) (by decide) (by decide)
      rw [Nat.mul_div_cancel_left _ (by decide)] at this
      exact this
    have lp := c_rnd_loop (X := X) (B := B) (sz := 2 ^ d * e) (a := a) (a1 := a1) (a2 := .int (nI r)) (a3 := a3) (a4 := a4) (a6 := .int (nI st)) L h22 h37 hF (by omega) (2 ^ d * e) 0 (by omega)
    rw [rnd_0, nI_0] at lp
    obtain ⟨b7, ih⟩ := c_rds_loop (a1 := a1) (a3 := a3) (a4 := a4) L h22 h37 hF he hr d (st + 1) (rnd (gos (D.2.1 2) (D.1 2)) (2 ^ d * e) a) (.int (nI (2 ^ d * e))) (by omega) (by omega)
    refine ⟨b7, ?_⟩
    have two : ¬ (2 : Int32) = 0 := by decide
    simp only [rds]
    rw [← ih, s41_87]
    simp only [s41_0, s41_1, s41_4, s41_5, s41_6, s41_9, s41_12, s41_14, s41_16, s41_19, s41_21, s41_22, s41_24, s41_27, s41_28, s41_32, s41_34, s41_37, s41_38, s41_41, s41_43, s41_44, s41_47, s41_49, s41_50, s41_51, s41_53, s41_54, s41_55, s41_58, s41_61, s41_62, s41_65, s41_66, s41_69, s41_71, s41_72, s41_73, s41_76, s41_77, s41_78, s41_81, s41_84, s41_85, s41_89, s41_90, s41_93, s41_95, s41_96, s41_99, s41_101, s41_102, s41_103, s41_105, s41_106, s41_110, s41_112, s41_115, s41_116, s41_119, s41_121, s41_122, s41_123, s41_126, s41_127, s41_129, s41_130, s41_131, s41_132, s41_135, s41_136, s41_138, s41_139, s41_140, s41_141, s41_142, s41_145, s41_146, s41_149, s41_152, s41_155, s41_159, s41_160, s41_162, s41_163, s41_164, s41_167, s41_170, s41_171, s41_174, s41_175, s41_176, s41_179, s41_180, okF, okA, mcC_o, mcF_o, mcT_i, mcT_l, mcT_z, mcT_q, mcN_i, mcN_l, mcN_z, mcN_q, mcI_i, mcI_z, mcL_l, mcQ_q, hg_hp, hp_hp, List.getD_cons_zero, List.getD_cons_succ, List.set_cons_zero, List.set_cons_succ, List.length_cons, List.length_nil, Nat.reduceAdd, Nat.reduceLT, Nat.reduceEqDiff, Nat.lt_add_one, decide_true, decide_false, Bool.and_true, Bool.true_and, Bool.and_false, Bool.false_and, Bool.false_eq_true, if_true, if_false, ↓reduceIte, Option.bind_some, Option.bind_none, kont_v, kont_n, q, q1, two, dv]
    rw [lp]
    simp only [s41_0, s41_1, s41_4, s41_5, s41_6, s41_9, s41_12, s41_14, s41_16, s41_19, s41_21, s41_22, s41_24, s41_27, s41_28, s41_32, s41_34, s41_37, s41_38, s41_41, s41_43, s41_44, s41_47, s41_49, s41_50, s41_51, s41_53, s41_54, s41_55, s41_58, s41_61, s41_62, s41_65, s41_66, s41_69, s41_71, s41_72, s41_73, s41_76, s41_77, s41_78, s41_81, s41_84, s41_85, s41_89, s41_90, s41_93, s41_95, s41_96, s41_99, s41_101, s41_102, s41_103, s41_105, s41_106, s41_110, s41_112, s41_115, s41_116, s41_119, s41_121, s41_122, s41_123, s41_126, s41_127, s41_129, s41_130, s41_131, s41_132, s41_135, s41_136, s41_138, s41_139, s41_140, s41_141, s41_142, s41_145, s41_146, s41_149, s41_152, s41_155, s41_159, s41_160, s41_162, s41_163, s41_164, s41_167, s41_170, s41_171, s41_174, s41_175, s41_176, s41_179, s41_180, okF, okA, mcC_o, mcF_o, mcT_i, mcT_l, mcT_z, mcT_q, mcN_i, mcN_l, mcN_z, mcN_q, mcI_i, mcI_z, mcL_l, mcQ_q, hg_hp, hp_hp, List.getD_cons_zero, List.getD_cons_succ, List.set_cons_zero, List.set_cons_succ, List.length_cons, List.length_nil, Nat.reduceAdd, Nat.reduceLT, Nat.reduceEqDiff, Nat.lt_add_one, decide_true, decide_false, Bool.and_true, Bool.true_and, Bool.and_false, Bool.false_and, Bool.false_eq_true, if_true, if_false, ↓reduceIte, Option.bind_some, Option.bind_none, kont_v, kont_n, nI_1]
theorem lgN_ok {N : Nat} (hN : N ≤ 16) : lgN N ≤ 3 ∧ (2 * 2 ^ lgN N = 2 ∨ 2 * 2 ^ lgN N = 4 ∨ 2 * 2 ^ lgN N = 8 ∨ 2 * 2 ^ lgN N = 16) ∧ N ≤ 2 * 2 ^ lgN N := by
  unfold lgN
  by_cases h2 : N ≤ 2
  · rw [if_pos h2]; omega
  · rw [if_neg h2]
    by_cases h4 : N ≤ 4
    · rw [if_pos h4]; omega
    · rw [if_neg h4]
      by_cases h8 : N ≤ 8
      · rw [if_pos h8]; omega
      · rw [if_neg h8]; omega
theorem TE01 {a : Nat → Int32} : TE 2 (upd (upd a 0 0) 1 1) := fun i hi => by
  rcases (by omega : i = 0 ∨ i = 1) with rfl | rfl
  · exact ⟨0, by omega, rfl⟩
  · exact ⟨1, by omega, rfl⟩
theorem c_standsAt {m r e j : Nat} (L : LG h 1 D) (F : FIX h) (hF : FB (D.1 2) (D.2.1 2)) (hm : m < 2 ^ D.1 1) (hz : 2 * 2 ^ lgN (pcn 32 m) = 2 ^ r * e) (hp16 : pcn 32 m ≤ 16) (he : 1 ≤ e) (hr : r ≤ 4) (hj : j < e) {s0 a0 : Nat → Int32} (h38 : hg h 38 = iA 16 s0) (h39 : hg h 39 = iA 16 a0) : ∃ h', (ev X 41 0 [.ref 37, .int (nI m), .int (nI r), .int (nI j), .float 0, .float 0, .float 0, .float 0] [] (h)) = some (some (.int (rds (gos (D.2.1 2) (D.1 2)) r e (pml (pcn 32 m) (SEE D m s0).2 (2 * 2 ^ lgN (pcn 32 m)) (lay (lgN (pcn 32 m)) 2 (upd (upd a0 0 0) 1 1))) j)), (h')) ∧ COK h h' ∧ LG h' 1 D := by
  have b1 := (LBD L).2.1
  obtain ⟨l1, l2, l3⟩ := lgN_ok hp16
  have es := c_seeded (X := X) (c := 38) (Lr := 16) L (by decide) (by decide) hm hp16 h38
  have hn : (SEE D m s0).1 = pcn 32 m := by
    rw [SEE_num, ← pcn_more 16 16 m (Nat.lt_of_lt_of_le hm (Nat.pow_le_pow_right (by decide) b1))]
  rw [hn] at es
  have K1 : COK h (hp h 38 (iA 16 (SEE D m s0).2)) := (COK.refl F).put (k := 38) (by decide) ⟨_, rfl⟩
  have L1 : LG (hp h 38 (iA 16 (SEE D m s0).2)) 1 D := hp_lg L (by decide)
  have et := fun B : MH => c_tableSize (X := X) (h := B) hp16
  have h39' : hg (hp h 38 (iA 16 (SEE D m s0).2)) 39 = iA 16 a0 := by rw [hg_hp, if_neg (by decide)]; exact h39
  have h37' : hg (hp h 38 (iA 16 (SEE D m s0).2)) 37 = oB 3 [.ref 1, .ref 22, .ref 38, .ref 39] := by rw [hg_hp, if_neg (by decide)]; exact F.c37
  have h22' : hg (hp h 38 (iA 16 (SEE D m s0).2)) 22 = oB 1 [.ref 6] := by rw [hg_hp, if_neg (by decide)]; exact F.c22
  have h38' : hg (hp h 38 (iA 16 (SEE D m s0).2)) 38 = iA 16 (SEE D m s0).2 := by rw [hg_hp, if_pos rfl]
  have el := c_lay_all (X := X) (B := hp h 38 (iA 16 (SEE D m s0).2)) (a := a0) h37' l2 rfl
  rw [hp_self h39'] at el
  have tT := TE.lay (lgN (pcn 32 m)) 2 _ (TE01 (a := a0)) (by omega)
  have lm := c_map_loop (X := X) (B := hp h 38 (iA 16 (SEE D m s0).2)) (N := pcn 32 m) (sz := 2 * 2 ^ lgN (pcn 32 m)) (s := (SEE D m s0).2) (a1 := .int (nI m)) (a2 := .int (nI r)) (a3 := .int (nI j)) (a7 := .float 0) h37' h38' hp16 (by omega) tT (2 * 2 ^ lgN (pcn 32 m)) 0 (by omega)
  rw [pml_0, nI_0] at lm
  obtain ⟨b7, lr⟩ := c_rds_loop (X := X) (B := hp h 38 (iA 16 (SEE D m s0).2)) (e := e) (r := r) (a1 := .int (nI m)) (a3 := .int (nI j)) (a4 := .int (nI (pcn 32 m))) L1 h22' h37' hF he hr r 0 (pml (pcn 32 m) (SEE D m s0).2 (2 * 2 ^ lgN (pcn 32 m)) (lay (lgN (pcn 32 m)) 2 (upd (upd a0 0 0) 1 1))) (.float 0) (by omega) (by omega)
  rw [← hz, nI_0] at lr
  have he16 : e ≤ 16 := by
    have : e ≤ 2 ^ r * e := Nat.le_mul_of_pos_left _ (Nat.two_pow_pos r)
    omega
  refine ⟨hp (hp h 38 (iA 16 (SEE D m s0).2)) 39 (iA 16 (rds (gos (D.2.1 2) (D.1 2)) r e (pml (pcn 32 m) (SEE D m s0).2 (2 * 2 ^ lgN (pcn 32 m)) (lay (lgN (pcn 32 m)) 2 (upd (upd a0 0 0) 1 1))))), ?_, K1.put (k := 39) (by decide) ⟨_, rfl⟩, hp_lg L1 (by decide)⟩
  have ew : ∀ B : MH, (ev X 112 0 [.int (nI j), .int 0, .int (nI e - 1)] [] (B)) = some (some (.int (1)), (B)) := fun B => by rw [c_within, wi_hs (by omega), hs_n hj (by omega)]
  simp only [s41_0, s41_1, s41_4, s41_5, s41_6, s41_9, s41_12, s41_14, s41_16, s41_19, s41_21, s41_22, s41_24, s41_27, s41_28, s41_32, s41_34, s41_37, s41_38, s41_41, s41_43, s41_44, s41_47, s41_49, s41_50, s41_51, s41_53, s41_54, s41_55, s41_58, s41_61, s41_62, s41_65, s41_66, s41_69, s41_71, s41_72, s41_73, s41_76, s41_77, s41_78, s41_81, s41_84, s41_85, s41_89, s41_90, s41_93, s41_95, s41_96, s41_99, s41_101, s41_102, s41_103, s41_105, s41_106, s41_110, s41_112, s41_115, s41_116, s41_119, s41_121, s41_122, s41_123, s41_126, s41_127, s41_129, s41_130, s41_131, s41_132, s41_135, s41_136, s41_138, s41_139, s41_140, s41_141, s41_142, s41_145, s41_146, s41_149, s41_152, s41_155, s41_158, s41_159, s41_160, s41_162, s41_163, s41_164, s41_167, s41_170, s41_171, s41_174, s41_175, s41_176, s41_179, s41_180, okF, mcC_o, mcF_o, List.getD_cons_zero, List.getD_cons_succ, List.length_cons, List.length_nil, Nat.reduceAdd, Nat.reduceLT, Nat.lt_add_one, decide_true, Bool.and_true, Bool.true_and, if_true, ↓reduceIte, Option.bind_some, kont_v, kont_n, F.c37, h37', lgo L, es, et, el]
  rw [lm]
  simp only [s41_0, s41_1, s41_4, s41_5, s41_6, s41_9, s41_12, s41_14, s41_16, s41_19, s41_21, s41_22, s41_24, s41_27, s41_28, s41_32, s41_34, s41_37, s41_38, s41_41, s41_43, s41_44, s41_47, s41_49, s41_50, s41_51, s41_53, s41_54, s41_55, s41_58, s41_61, s41_62, s41_65, s41_66, s41_69, s41_71, s41_72, s41_73, s41_76, s41_77, s41_78, s41_81, s41_84, s41_85, s41_89, s41_90, s41_93, s41_95, s41_96, s41_99, s41_101, s41_102, s41_103, s41_105, s41_106, s41_110, s41_112, s41_115, s41_116, s41_119, s41_121, s41_122, s41_123, s41_126, s41_127, s41_129, s41_130, s41_131, s41_132, s41_135, s41_136, s41_138, s41_139, s41_140, s41_141, s41_142, s41_145, s41_146, s41_149, s41_152, s41_155, s41_158, s41_159, s41_160, s41_162, s41_163, s41_164, s41_167, s41_170, s41_171, s41_174, s41_175, s41_176, s41_179, s41_180]
  rw [lr]
  simp (disch := omega) only [s41_0, s41_1, s41_4, s41_5, s41_6, s41_9, s41_12, s41_14, s41_16, s41_19, s41_21, s41_22, s41_24, s41_27, s41_28, s41_32, s41_34, s41_37, s41_38, s41_41, s41_43, s41_44, s41_47, s41_49, s41_50, s41_51, s41_53, s41_54, s41_55, s41_58, s41_61, s41_62, s41_65, s41_66, s41_69, s41_71, s41_72, s41_73, s41_76, s41_77, s41_78, s41_81, s41_84, s41_85, s41_89, s41_90, s41_93, s41_95, s41_96, s41_99, s41_101, s41_102, s41_103, s41_105, s41_106, s41_110, s41_112, s41_115, s41_116, s41_119, s41_121, s41_122, s41_123, s41_126, s41_127, s41_129, s41_130, s41_131, s41_132, s41_135, s41_136, s41_138, s41_139, s41_140, s41_141, s41_142, s41_145, s41_146, s41_149, s41_152, s41_155, s41_158, s41_159, s41_160, s41_162, s41_163, s41_164, s41_167, s41_170, s41_171, s41_174, s41_175, s41_176, s41_179, s41_180, okF, okA, mcC_o, mcF_o, mcT_i, mcT_l, mcT_z, mcT_q, mcN_i, mcN_l, mcN_z, mcN_q, mcI_i, mcI_z, mcL_l, mcQ_q, hg_hp, hp_hp, List.getD_cons_zero, List.getD_cons_succ, List.set_cons_zero, List.set_cons_succ, List.length_cons, List.length_nil, Nat.reduceAdd, Nat.reduceLT, Nat.reduceEqDiff, Nat.lt_add_one, decide_true, decide_false, Bool.and_true, Bool.true_and, Bool.and_false, Bool.false_and, Bool.false_eq_true, if_true, if_false, ↓reduceIte, Option.bind_some, Option.bind_none, kont_v, kont_n, h37', ew, one0, nI_clamp, inR_n]
end LDR

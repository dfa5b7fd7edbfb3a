-- CALLS 10: hangs
def hbits (a b : Nat → Int32) : Nat → Nat → Int32 → Int32
  | 0, _, s => s
  | m + 1, i, s => hbits a b m (i + 1) (if a i = b i then s else s ||| (1 : Int32) <<< (a i &&& 31))
theorem hbits_congr {a b a' b' : Nat → Int32} : ∀ (m i : Nat) (s : Int32), (∀ j, i ≤ j → j < i + m → a j = a' j ∧ b j = b' j) → hbits a b m i s = hbits a' b' m i s
  | 0, _, _, _ => rfl
  | m + 1, i, s, h => by
    obtain ⟨h1, h2⟩ := h i (by omega) (by omega)
    simp only [hbits, h1, h2]
    exact hbits_congr m (i + 1) _ (fun j k1 k2 => h j (by omega) (by omega))
theorem okb_void {f : Nat → Int32} {p : Int32} {b c : Nat} (hb : b < 2 ^ 31) (hc : c < 2 ^ 31) : okb f p (nI b) c ↔ okb (upd f (b * 17 + 14) 1) p (-1) c := by
  unfold okb
  by_cases e : c = b
  · subst e
    rw [upd_eq]
    exact ⟨fun z => absurd rfl z.1, fun z => absurd rfl z.2.2.2⟩
  · rw [upd_ne (by omega), upd_ne (by omega), upd_ne (by omega), nI_eq hc hb]
    exact ⟨fun z => ⟨nI_m1 hc, z.2⟩, fun z => ⟨e, z.2⟩⟩
theorem qbout_void {f : Nat → Int32} {b c : Nat} {v : Int32} {q : Nat → Int32} : qbout (upd f (b * 17 + 14) v) c q = qbout f c q := by
  have e : ∀ i, i ≠ b * 17 + 14 → upd f (b * 17 + 14) v i = f i := fun i hi => upd_ne hi
  have es : ∀ (s a : Nat) (q : Nat → Int32), s ≤ 1 → qside (upd f (b * 17 + 14) v) c s a q = qside f c s a q := fun s a q hs => by
    rw [qside_ref, qside_ref, e (c * 17 + 9) (by omega), e (c * 17 + (6 + s)) (by omega), e (c * 17 + (7 - s)) (by omega), e (c * 17 + (10 + s)) (by omega), e (c * 17 + (12 + s)) (by omega)]
  unfold qbout
  rw [es 1 _ _ (by decide), es 0 _ _ (by decide), e (c * 17 + 1) (by omega), e (c * 17) (by omega)]
theorem qtl_void {f : Nat → Int32} {p : Int32} {b : Nat} (hb : b < 2 ^ 31) : ∀ (m c : Nat) (q : Nat → Int32), c + m < 2 ^ 31 → qtl f p (nI b) m c q = qtl (upd f (b * 17 + 14) 1) p (-1) m c q
  | 0, _, _, _ => rfl
  | m + 1, c, q, h => by
    simp only [qtl, qbout_void]
    rw [← qtl_void hb m (c + 1) _ (by omega)]
    by_cases k : okb f p (nI b) c
    · rw [if_pos k, if_pos ((okb_void hb (by omega)).mp k)]
    · rw [if_neg k, if_neg (fun z => k ((okb_void hb (by omega)).mpr z))]
section CLA
variable {X : MX} {t : Nat} {h : MH} {D : LD} {S IM KP : Nat → Int32}
theorem c_hang_loop {B : MH} {n : Nat} {a b : Nat → Int32} {a1 a2 : Value} (hn : n ≤ 7) (h31 : hg B 31 = oB 6 [.ref 1, .ref 22, .ref 23, .ref 32, .ref 34, .ref 35, .ref 36, .int (nI n)]) (h34 : hg B 34 = iA 7 a) (h35 : hg B 35 = iA 7 b) : ∀ (m i : Nat) (s : Int32), i + m = n → ev X 72 32 [.ref 31, a1, a2, .int s, .int (nI i)] [] B = some (some (.int (hbits a b m i s)), (B))
  | 0, i, s, hi => by
    have e : i = n := by omega
    subst e
    have q := nI_nlt (Nat.le_refl i) (by omega)
    rw [s72_32]
    simp only [s72_0, s72_1, s72_2, s72_3, s72_6, s72_7, s72_10, s72_11, s72_12, s72_15, s72_16, s72_18, s72_21, s72_22, s72_23, s72_24, s72_27, s72_28, s72_29, s72_30, s72_34, s72_35, s72_38, s72_41, s72_42, s72_45, s72_47, s72_48, s72_49, s72_52, s72_54, s72_55, s72_58, s72_59, s72_60, s72_61, s72_64, s72_66, s72_67, s72_68, s72_69, s72_70, s72_73, s72_76, s72_77, okF, okA, mcC_o, mcF_o, mcT_i, mcT_l, mcT_z, mcT_q, mcN_i, mcN_l, mcN_z, mcN_q, mcI_i, mcI_z, mcL_l, mcQ_q, hg_hp, hp_hp, List.getD_cons_zero, List.getD_cons_succ, List.set_cons_zero, List.set_cons_succ, List.length_cons, List.length_nil, Nat.reduceAdd, Nat.reduceLT, Nat.reduceEqDiff, Nat.lt_add_one, decide_true, decide_false, Bool.and_true, Bool.true_and, Bool.and_false, Bool.false_and, Bool.false_eq_true, if_true, if_false, ↓reduceIte, Option.bind_some, Option.bind_none, kont_v, kont_n, h31, q, hbits]
  | m + 1, i, s, hi => by
    have q := nI_lt (show i < n by omega) (by omega)
    have ih := c_hang_loop (a1 := a1) (a2 := a2) hn h31 h34 h35 m (i + 1)
    rw [s72_32]
    by_cases e : a i = b i
    · simp (disch := omega) only [s72_0, s72_1, s72_2, s72_3, s72_6, s72_7, s72_10, s72_11, s72_12, s72_15, s72_16, s72_18, s72_21, s72_22, s72_23, s72_24, s72_27, s72_28, s72_29, s72_30, s72_34, s72_35, s72_38, s72_41, s72_42, s72_45, s72_47, s72_48, s72_49, s72_52, s72_54, s72_55, s72_58, s72_59, s72_60, s72_61, s72_64, s72_66, s72_67, s72_68, s72_69, s72_70, s72_73, s72_76, s72_77, okF, okA, mcC_o, mcF_o, mcT_i, mcT_l, mcT_z, mcT_q, mcN_i, mcN_l, mcN_z, mcN_q, mcI_i, mcI_z, mcL_l, mcQ_q, hg_hp, hp_hp, List.getD_cons_zero, List.getD_cons_succ, List.set_cons_zero, List.set_cons_succ, List.length_cons, List.length_nil, Nat.reduceAdd, Nat.reduceLT, Nat.reduceEqDiff, Nat.lt_add_one, decide_true, decide_false, Bool.and_true, Bool.true_and, Bool.and_false, Bool.false_and, Bool.false_eq_true, if_true, if_false, ↓reduceIte, Option.bind_some, Option.bind_none, kont_v, kont_n, h31, h34, h35, q, nI_clamp, inR_n, e, nI_1, hbits]
      exact ih _ (by omega)
    · simp (disch := omega) only [s72_0, s72_1, s72_2, s72_3, s72_6, s72_7, s72_10, s72_11, s72_12, s72_15, s72_16, s72_18, s72_21, s72_22, s72_23, s72_24, s72_27, s72_28, s72_29, s72_30, s72_34, s72_35, s72_38, s72_41, s72_42, s72_45, s72_47, s72_48, s72_49, s72_52, s72_54, s72_55, s72_58, s72_59, s72_60, s72_61, s72_64, s72_66, s72_67, s72_68, s72_69, s72_70, s72_73, s72_76, s72_77, okF, okA, mcC_o, mcF_o, mcT_i, mcT_l, mcT_z, mcT_q, mcN_i, mcN_l, mcN_z, mcN_q, mcI_i, mcI_z, mcL_l, mcQ_q, hg_hp, hp_hp, List.getD_cons_zero, List.getD_cons_succ, List.set_cons_zero, List.set_cons_succ, List.length_cons, List.length_nil, Nat.reduceAdd, Nat.reduceLT, Nat.reduceEqDiff, Nat.lt_add_one, decide_true, decide_false, Bool.and_true, Bool.true_and, Bool.and_false, Bool.false_and, Bool.false_eq_true, if_true, if_false, ↓reduceIte, Option.bind_some, Option.bind_none, kont_v, kont_n, h31, h34, h35, q, nI_clamp, inR_n, e, nI_1, hbits]
      exact ih _ (by omega)
theorem m_had_loop {H : MH} {n : Nat} {a : Nat → Int32} {a1 a2 a3 a5 : Value} {io wl sp wa se bc sv bq : Int32} (hn : n ≤ 7) (h0 : hg H 55 = oB 12 (MO io wl (nI n) sp wa se bc sv bq)) (h70 : hg H 70 = iA 16 a) : ∀ (m i : Nat) (b : Nat → Int32), i + m = n → hg H 71 = iA 16 b → ∃ b', (ev X 189 43 [.ref 55, a1, a2, a3, .int (nI i), a5] [] H = ev X 189 72 [.ref 55, a1, a2, a3, .int (nI n), a5] [] (hp H 71 (iA 16 b'))) ∧ (∀ j, j < i → b' j = b j) ∧ ∀ j, i ≤ j → j < n → b' j = a j := by
  intro m
  have gen : ∀ (m i : Nat) (b : Nat → Int32), i + m = n → ∃ b', (ev X 189 43 [.ref 55, a1, a2, a3, .int (nI i), a5] [] (hp H 71 (iA 16 b)) = ev X 189 72 [.ref 55, a1, a2, a3, .int (nI n), a5] [] (hp H 71 (iA 16 b'))) ∧ (∀ j, j < i → b' j = b j) ∧ ∀ j, i ≤ j → j < n → b' j = a j := by
    intro m
    induction m with
    | zero =>
      intro i b hi
      have e : i = n := by omega
      subst e
      have q := nI_nlt (Nat.le_refl i) (by omega)
      refine ⟨b, ?_, fun _ _ => rfl, fun j h1 h2 => absurd h2 (by omega)⟩
      rw [s189_43]
      simp (disch := omega) only [s189_0, s189_1, s189_2, s189_3, s189_6, s189_9, s189_11, s189_12, s189_13, s189_14, s189_15, s189_18, s189_19, s189_20, s189_21, s189_24, s189_26, s189_27, s189_28, s189_29, s189_31, s189_34, s189_35, s189_36, s189_37, s189_40, s189_41, s189_45, s189_46, s189_49, s189_52, s189_53, s189_56, s189_58, s189_59, s189_62, s189_64, s189_65, s189_66, s189_69, s189_73, s189_76, s189_79, s189_82, s189_83, s189_84, s189_85, s189_87, s189_88, s189_89, s189_90, s189_91, s189_92, s189_95, s189_96, s189_99, s189_102, s189_105, s189_106, s189_107, s189_108, s189_110, s189_111, s189_112, s189_113, s189_114, s189_116, s189_117, s189_121, s189_122, s189_125, s189_128, s189_130, s189_131, s189_134, s189_136, s189_137, s189_138, s189_141, s189_143, s189_144, s189_147, s189_148, s189_151, s189_152, s189_153, s189_156, s189_158, s189_159, s189_160, s189_161, s189_163, s189_166, s189_169, s189_171, okF, okA, mcC_o, mcF_o, mcT_i, mcT_l, mcT_z, mcT_q, mcN_i, mcN_l, mcN_z, mcN_q, mcI_i, mcI_z, mcL_l, mcQ_q, hg_hp, hp_hp, List.getD_cons_zero, List.getD_cons_succ, List.set_cons_zero, List.set_cons_succ, List.length_cons, List.length_nil, Nat.reduceAdd, Nat.reduceLT, Nat.reduceEqDiff, Nat.lt_add_one, decide_true, decide_false, Bool.and_true, Bool.true_and, Bool.and_false, Bool.false_and, Bool.false_eq_true, if_true, if_false, ↓reduceIte, Option.bind_some, Option.bind_none, kont_v, kont_n, MO_len, MO_16, h0, q]
    | succ m ih =>
      intro i b hi
      have q := nI_lt (show i < n by omega) (by omega)
      obtain ⟨b', e1, e2, e3⟩ := ih (i + 1) (upd b i (a i)) (by omega)
      refine ⟨b', ?_, fun j hj => by rw [e2 j (by omega), upd_ne (by omega)], fun j h1 h2 => ?_⟩
      · rw [← e1, s189_43]
        simp (disch := omega) only [s189_0, s189_1, s189_2, s189_3, s189_6, s189_9, s189_11, s189_12, s189_13, s189_14, s189_15, s189_18, s189_19, s189_20, s189_21, s189_24, s189_26, s189_27, s189_28, s189_29, s189_31, s189_34, s189_35, s189_36, s189_37, s189_40, s189_41, s189_45, s189_46, s189_49, s189_52, s189_53, s189_56, s189_58, s189_59, s189_62, s189_64, s189_65, s189_66, s189_69, s189_73, s189_76, s189_79, s189_82, s189_83, s189_84, s189_85, s189_87, s189_88, s189_89, s189_90, s189_91, s189_92, s189_95, s189_96, s189_99, s189_102, s189_105, s189_106, s189_107, s189_108, s189_110, s189_111, s189_112, s189_113, s189_114, s189_116, s189_117, s189_121, s189_122, s189_125, s189_128, s189_130, s189_131, s189_134, s189_136, s189_137, s189_138, s189_141, s189_143, s189_144, s189_147, s189_148, s189_151, s189_152, s189_153, s189_156, s189_158, s189_159, s189_160, s189_161, s189_163, s189_166, s189_169, s189_171, okF, okA, mcC_o, mcF_o, mcT_i, mcT_l, mcT_z, mcT_q, mcN_i, mcN_l, mcN_z, mcN_q, mcI_i, mcI_z, mcL_l, mcQ_q, hg_hp, hp_hp, List.getD_cons_zero, List.getD_cons_succ, List.set_cons_zero, List.set_cons_succ, List.length_cons, List.length_nil, Nat.reduceAdd, Nat.reduceLT, Nat.reduceEqDiff, Nat.lt_add_one, decide_true, decide_false, Bool.and_true, Bool.true_and, Bool.and_false, Bool.false_and, Bool.false_eq_true, if_true, if_false, ↓reduceIte, Option.bind_some, Option.bind_none, kont_v, kont_n, MO_len, MO_16, MO_17, MO_18, h0, h70, q, nI_clamp, inR_n, nI_1]
      · by_cases e : j = i
        · rw [e, e2 i (by omega), upd_eq]
        · exact e3 j (by omega) h2
  intro i b hi h71
  have := gen m i b hi
  rw [hp_self h71] at this
  exact this
theorem m_hang_loop {H : MH} {n : Nat} {a b : Nat → Int32} {a1 a2 a3 : Value} {io wl sp wa se bc sv bq : Int32} (hn : n ≤ 7) (h0 : hg H 55 = oB 12 (MO io wl (nI n) sp wa se bc sv bq)) (h70 : hg H 70 = iA 16 a) (h71 : hg H 71 = iA 16 b) : ∀ (m i : Nat) (s : Int32), i + m = n → ev X 189 119 [.ref 55, a1, a2, a3, .int s, .int (nI i)] [] H = some (some (.int (hbits a b m i s)), (H))
  | 0, i, s, hi => by
    have e : i = n := by omega
    subst e
    have q := nI_nlt (Nat.le_refl i) (by omega)
    rw [s189_119]
    simp only [s189_0, s189_1, s189_2, s189_3, s189_6, s189_9, s189_11, s189_12, s189_13, s189_14, s189_15, s189_18, s189_19, s189_20, s189_21, s189_24, s189_26, s189_27, s189_28, s189_29, s189_31, s189_34, s189_35, s189_36, s189_37, s189_40, s189_41, s189_45, s189_46, s189_49, s189_52, s189_53, s189_56, s189_58, s189_59, s189_62, s189_64, s189_65, s189_66, s189_69, s189_72, s189_73, s189_76, s189_79, s189_82, s189_83, s189_84, s189_85, s189_87, s189_88, s189_89, s189_90, s189_91, s189_92, s189_95, s189_96, s189_99, s189_102, s189_105, s189_106, s189_107, s189_108, s189_110, s189_111, s189_112, s189_113, s189_114, s189_116, s189_117, s189_121, s189_122, s189_125, s189_128, s189_130, s189_131, s189_134, s189_136, s189_137, s189_138, s189_141, s189_143, s189_144, s189_147, s189_148, s189_151, s189_152, s189_153, s189_156, s189_158, s189_159, s189_160, s189_161, s189_163, s189_166, s189_169, s189_171, okF, okA, mcC_o, mcF_o, mcT_i, mcT_l, mcT_z, mcT_q, mcN_i, mcN_l, mcN_z, mcN_q, mcI_i, mcI_z, mcL_l, mcQ_q, hg_hp, hp_hp, List.getD_cons_zero, List.getD_cons_succ, List.set_cons_zero, List.set_cons_succ, List.length_cons, List.length_nil, Nat.reduceAdd, Nat.reduceLT, Nat.reduceEqDiff, Nat.lt_add_one, decide_true, decide_false, Bool.and_true, Bool.true_and, Bool.and_false, Bool.false_and, Bool.false_eq_true, if_true, if_false, ↓reduceIte, Option.bind_some, Option.bind_none, kont_v, kont_n, MO_len, MO_16, h0, q, hbits]
  | m + 1, i, s, hi => by
    have q := nI_lt (show i < n by omega) (by omega)
    have ih := m_hang_loop (a1 := a1) (a2 := a2) (a3 := a3) hn h0 h70 h71 m (i + 1)
    have or0 : s ||| 0 = s := Int32.or_zero
    rw [s189_119]
    by_cases e : a i = b i
    · simp (disch := omega) only [s189_0, s189_1, s189_2, s189_3, s189_6, s189_9, s189_11, s189_12, s189_13, s189_14, s189_15, s189_18, s189_19, s189_20, s189_21, s189_24, s189_26, s189_27, s189_28, s189_29, s189_31, s189_34, s189_35, s189_36, s189_37, s189_40, s189_41, s189_45, s189_46, s189_49, s189_52, s189_53, s189_56, s189_58, s189_59, s189_62, s189_64, s189_65, s189_66, s189_69, s189_72, s189_73, s189_76, s189_79, s189_82, s189_83, s189_84, s189_85, s189_87, s189_88, s189_89, s189_90, s189_91, s189_92, s189_95, s189_96, s189_99, s189_102, s189_105, s189_106, s189_107, s189_108, s189_110, s189_111, s189_112, s189_113, s189_114, s189_116, s189_117, s189_121, s189_122, s189_125, s189_128, s189_130, s189_131, s189_134, s189_136, s189_137, s189_138, s189_141, s189_143, s189_144, s189_147, s189_148, s189_151, s189_152, s189_153, s189_156, s189_158, s189_159, s189_160, s189_161, s189_163, s189_166, s189_169, s189_171, okF, okA, mcC_o, mcF_o, mcT_i, mcT_l, mcT_z, mcT_q, mcN_i, mcN_l, mcN_z, mcN_q, mcI_i, mcI_z, mcL_l, mcQ_q, hg_hp, hp_hp, List.getD_cons_zero, List.getD_cons_succ, List.set_cons_zero, List.set_cons_succ, List.length_cons, List.length_nil, Nat.reduceAdd, Nat.reduceLT, Nat.reduceEqDiff, Nat.lt_add_one, decide_true, decide_false, Bool.and_true, Bool.true_and, Bool.and_false, Bool.false_and, Bool.false_eq_true, if_true, if_false, ↓reduceIte, Option.bind_some, Option.bind_none, kont_v, kont_n, MO_len, MO_16, MO_17, MO_18, h0, h70, h71, q, nI_clamp, inR_n, e, eq_self, or0, nI_1, hbits]
      exact ih _ (by omega)
    · have e' : ¬ b i = a i := fun z => e z.symm
      simp (disch := omega) only [s189_0, s189_1, s189_2, s189_3, s189_6, s189_9, s189_11, s189_12, s189_13, s189_14, s189_15, s189_18, s189_19, s189_20, s189_21, s189_24, s189_26, s189_27, s189_28, s189_29, s189_31, s189_34, s189_35, s189_36, s189_37, s189_40, s189_41, s189_45, s189_46, s189_49, s189_52, s189_53, s189_56, s189_58, s189_59, s189_62, s189_64, s189_65, s189_66, s189_69, s189_72, s189_73, s189_76, s189_79, s189_82, s189_83, s189_84, s189_85, s189_87, s189_88, s189_89, s189_90, s189_91, s189_92, s189_95, s189_96, s189_99, s189_102, s189_105, s189_106, s189_107, s189_108, s189_110, s189_111, s189_112, s189_113, s189_114, s189_116, s189_117, s189_121, s189_122, s189_125, s189_128, s189_130, s189_131, s189_134, s189_136, s189_137, s189_138, s189_141, s189_143, s189_144, s189_147, s189_148, s189_151, s189_152, s189_153, s189_156, s189_158, s189_159, s189_160, s189_161, s189_163, s189_166, s189_169, s189_171, okF, okA, mcC_o, mcF_o, mcT_i, mcT_l, mcT_z, mcT_q, mcN_i, mcN_l, mcN_z, mcN_q, mcI_i, mcI_z, mcL_l, mcQ_q, hg_hp, hp_hp, List.getD_cons_zero, List.getD_cons_succ, List.set_cons_zero, List.set_cons_succ, List.length_cons, List.length_nil, Nat.reduceAdd, Nat.reduceLT, Nat.reduceEqDiff, Nat.lt_add_one, decide_true, decide_false, Bool.and_true, Bool.true_and, Bool.and_false, Bool.false_and, Bool.false_eq_true, if_true, if_false, ↓reduceIte, Option.bind_some, Option.bind_none, kont_v, kont_n, MO_len, MO_16, MO_17, MO_18, h0, h70, h71, q, nI_clamp, inR_n, e, e', nI_1, hbits]
      exact ih _ (by omega)
theorem S_hangs (I : INVD t h D S IM KP) {a : Int32} : SAME X t h 133 [.ref 0, .int a, .float 0] 189 [.ref 55, .int a, .float 0, .float 0, .float 0, .float 0] := by
  have I' := I
  obtain ⟨L, F, M, R, N, G⟩ := I
  obtain ⟨-, z1, z2, z3, -⟩ := RCC R
  obtain ⟨-, b1, b2, b3, -⟩ := LBD L
  have T := lt2 L
  rcases hs_case (n := D.1 2) (by omega) a with g1 | ⟨g1, b, hb, rfl⟩
  · refine step_id I' (v := .int (-2)) (by simp only [s133_0, s133_1, s133_4, s133_7, s133_8, s133_11, s133_14, s133_16, s133_17, s133_18, s133_21, s133_24, s133_25, s133_26, s133_29, s133_30, s133_31, s133_32, s133_35, s133_37, s133_40, s133_41, s133_44, s133_45, s133_46, s133_49, okF, okA, mcC_o, mcF_o, mcT_i, mcT_l, mcT_z, mcT_q, mcN_i, mcN_l, mcN_z, mcN_q, mcI_i, mcI_z, mcL_l, mcQ_q, hg_hp, hp_hp, List.getD_cons_zero, List.getD_cons_succ, List.set_cons_zero, List.set_cons_succ, List.length_cons, List.length_nil, Nat.reduceAdd, Nat.reduceLT, Nat.reduceEqDiff, Nat.lt_add_one, decide_true, decide_false, Bool.and_true, Bool.true_and, Bool.and_false, Bool.false_and, Bool.false_eq_true, if_true, if_false, ↓reduceIte, Option.bind_some, Option.bind_none, kont_v, kont_n, F.c0, lgo L, T.1, T.hs, g1]) (fun h' q0 q1 => ?_)
    obtain ⟨io, wl, pl, sp, wa, se, bc, sv, bq, h0⟩ := q0
    have e := m_hs (X := X) (c' := 2) (i := a) h0 q1 rfl (by decide) z2 (by omega)
    simp only [s189_0, s189_1, s189_2, s189_3, s189_6, s189_9, s189_11, s189_12, s189_13, s189_14, s189_15, s189_18, s189_19, s189_20, s189_21, s189_24, s189_26, s189_27, s189_28, s189_29, s189_31, s189_34, s189_35, s189_36, s189_37, s189_40, s189_41, s189_43, s189_45, s189_46, s189_49, s189_52, s189_53, s189_56, s189_58, s189_59, s189_62, s189_64, s189_65, s189_66, s189_69, s189_72, s189_73, s189_76, s189_79, s189_82, s189_83, s189_84, s189_85, s189_87, s189_88, s189_89, s189_90, s189_91, s189_92, s189_95, s189_96, s189_99, s189_102, s189_105, s189_106, s189_107, s189_108, s189_110, s189_111, s189_112, s189_113, s189_114, s189_116, s189_117, s189_119, s189_121, s189_122, s189_125, s189_128, s189_130, s189_131, s189_134, s189_136, s189_137, s189_138, s189_141, s189_143, s189_144, s189_147, s189_148, s189_151, s189_152, s189_153, s189_156, s189_158, s189_159, s189_160, s189_161, s189_163, s189_166, s189_169, s189_171, okF, okA, mcC_o, mcF_o, mcT_i, mcT_l, mcT_z, mcT_q, mcN_i, mcN_l, mcN_z, mcN_q, mcI_i, mcI_z, mcL_l, mcQ_q, hg_hp, hp_hp, List.getD_cons_zero, List.getD_cons_succ, List.set_cons_zero, List.set_cons_succ, List.length_cons, List.length_nil, Nat.reduceAdd, Nat.reduceLT, Nat.reduceEqDiff, Nat.lt_add_one, decide_true, decide_false, Bool.and_true, Bool.true_and, Bool.and_false, Bool.false_and, Bool.false_eq_true, if_true, if_false, ↓reduceIte, Option.bind_some, Option.bind_none, kont_v, kont_n, h0, e, g1]
  have hb120 : b < 120 := by omega
  have em := m_is2 (X := X) R L hb
  have eP := T.get' (X := X) (r := b) (q := 2) (q' := 2) rfl rfl hb120 (by decide)
  have Bb := R.2.2.2.2 b hb
  have e2S : S (850 + 130 * b + 2) = D.2.1 2 (b * 17 + 2) := (Bb.1 2 (by decide)).symm
  have e8S : S (850 + 130 * b + 8) = D.2.1 2 (b * 17 + 14) := Bb.2.1.symm
  rcases N.2.2.2.2.2.2.2.2 b hb with gp | ⟨k, hk, ek⟩
  · rw [gp] at eP e2S
    refine step_id I' (v := .int (-3)) (by simp only [s133_0, s133_1, s133_4, s133_7, s133_8, s133_11, s133_14, s133_16, s133_17, s133_18, s133_21, s133_24, s133_25, s133_26, s133_29, s133_30, s133_31, s133_32, s133_35, s133_37, s133_40, s133_41, s133_44, s133_45, s133_46, s133_49, okF, okA, mcC_o, mcF_o, mcT_i, mcT_l, mcT_z, mcT_q, mcN_i, mcN_l, mcN_z, mcN_q, mcI_i, mcI_z, mcL_l, mcQ_q, hg_hp, hp_hp, List.getD_cons_zero, List.getD_cons_succ, List.set_cons_zero, List.set_cons_succ, List.length_cons, List.length_nil, Nat.reduceAdd, Nat.reduceLT, Nat.reduceEqDiff, Nat.lt_add_one, decide_true, decide_false, Bool.and_true, Bool.true_and, Bool.and_false, Bool.false_and, Bool.false_eq_true, if_true, if_false, ↓reduceIte, Option.bind_some, Option.bind_none, kont_v, kont_n, F.c0, lgo L, T.1, T.hs, g1, one0, eP, eq_self]) (fun h' q0 q1 => ?_)
    have e := em h' q0 q1
    obtain ⟨io, wl, pl, sp, wa, se, bc, sv, bq, h0⟩ := q0
    have et := m_toldL (X := X) h0 q1 hb120
    simp only [s189_0, s189_1, s189_2, s189_3, s189_6, s189_9, s189_11, s189_12, s189_13, s189_14, s189_15, s189_18, s189_19, s189_20, s189_21, s189_24, s189_26, s189_27, s189_28, s189_29, s189_31, s189_34, s189_35, s189_36, s189_37, s189_40, s189_41, s189_43, s189_45, s189_46, s189_49, s189_52, s189_53, s189_56, s189_58, s189_59, s189_62, s189_64, s189_65, s189_66, s189_69, s189_72, s189_73, s189_76, s189_79, s189_82, s189_83, s189_84, s189_85, s189_87, s189_88, s189_89, s189_90, s189_91, s189_92, s189_95, s189_96, s189_99, s189_102, s189_105, s189_106, s189_107, s189_108, s189_110, s189_111, s189_112, s189_113, s189_114, s189_116, s189_117, s189_119, s189_121, s189_122, s189_125, s189_128, s189_130, s189_131, s189_134, s189_136, s189_137, s189_138, s189_141, s189_143, s189_144, s189_147, s189_148, s189_151, s189_152, s189_153, s189_156, s189_158, s189_159, s189_160, s189_161, s189_163, s189_166, s189_169, s189_171, okF, okA, mcC_o, mcF_o, mcT_i, mcT_l, mcT_z, mcT_q, mcN_i, mcN_l, mcN_z, mcN_q, mcI_i, mcI_z, mcL_l, mcQ_q, hg_hp, hp_hp, List.getD_cons_zero, List.getD_cons_succ, List.set_cons_zero, List.set_cons_succ, List.length_cons, List.length_nil, Nat.reduceAdd, Nat.reduceLT, Nat.reduceEqDiff, Nat.lt_add_one, decide_true, decide_false, Bool.and_true, Bool.true_and, Bool.and_false, Bool.false_and, Bool.false_eq_true, if_true, if_false, ↓reduceIte, Option.bind_some, Option.bind_none, kont_v, kont_n, h0, e, one0, et, e2S, eq_self]
  rw [ek] at eP e2S
  have nk := nI_m1 (b := k) (by omega)
  obtain ⟨m, hm, h7, m3⟩ := N.2.2.1 k hk
  obtain ⟨a0, h34⟩ := F.c34
  have er1 := c_rank (X := X) (w := -1) L F N (BR.fb R.2.2.2.2) hk m3 hm h7 h34
  have num1 : (POS D k m (-1) a0).1 = pcn 16 m := rk_num 16 0 0 a0 rfl
  have n7 : pcn 16 m ≤ 7 := by have := pcn_mono (m := m) (show 16 ≤ 32 by decide); omega
  have R56 : S (118 + k) = nI m := (R.s (i := 3) (c := k) (by decide) (by decide) (by show _ < 6; omega) rfl).trans m3
  have K1 := (SH_COK F (q := qtl (D.2.1 2) (nI k) (-1) (D.1 2) 0 qz)).trans (RK_COK (SH_COK F).1 (n := (POS D k m (-1) a0).1) (a := (POS D k m (-1) a0).2))
  have L1 : LG (RK (SH h (qtl (D.2.1 2) (nI k) (-1) (D.1 2) 0 qz)) (POS D k m (-1) a0).1 (POS D k m (-1) a0).2) 1 D := RK_lg (SH_lg L)
  obtain ⟨c0, h35⟩ := K1.1.c35
  have okc : okC (iA 7 (POS D k m (-1) a0).2) (iA 7 c0) 0 0 7 = true := rfl
  let H2 := hp (RK (SH h (qtl (D.2.1 2) (nI k) (-1) (D.1 2) 0 qz)) (POS D k m (-1) a0).1 (POS D k m (-1) a0).2) 35 (iA 7 (va_cpy (POS D k m (-1) a0).2 c0 0 0 7))
  have K2 : COK h H2 := K1.put (k := 35) (by decide) ⟨_, rfl⟩
  have L2 : LG H2 1 D := L1.off (by decide)
  have h34' : hg H2 34 = iA 7 (POS D k m (-1) a0).2 := by show hg (hp _ 35 _) 34 = _; rw [hg_hp, if_neg (by decide)]; exact RK_34
  have er2 := c_rank (X := X) (w := nI b) L2 K2.1 N (BR.fb R.2.2.2.2) hk m3 hm h7 h34'
  have num2 : (POS D k m (nI b) (POS D k m (-1) a0).2).1 = pcn 16 m := rk_num 16 0 0 _ rfl
  let H3 := RK (SH H2 (qtl (D.2.1 2) (nI k) (nI b) (D.1 2) 0 qz)) (POS D k m (nI b) (POS D k m (-1) a0).2).1 (POS D k m (nI b) (POS D k m (-1) a0).2).2
  have K3 : COK h H3 := K2.trans ((SH_COK K2.1).trans (RK_COK (SH_COK K2.1).1))
  have L3 : LG H3 1 D := RK_lg (SH_lg L2)
  have h35' : hg H3 35 = iA 7 (va_cpy (POS D k m (-1) a0).2 c0 0 0 7) := by
    show hg (RK _ _ _) 35 = _
    rw [RK_off (by decide) (by decide), SH_off (by decide) (by decide)]
    show hg (hp _ 35 _) 35 = _
    rw [hg_hp, if_pos rfl]
  have lp := c_hang_loop (X := X) (B := H3) (a1 := .int (nI k)) (a2 := .int (nI b)) (by rw [num2]; exact n7) RK_31 RK_34 h35' (POS D k m (nI b) (POS D k m (-1) a0).2).1 0 0 (by omega)
  rw [nI_0] at lp
  obtain ⟨mm, h31⟩ := F.c31
  refine step_ok I' (D' := D) (v := .int (hbits (POS D k m (nI b) (POS D k m (-1) a0).2).2 (va_cpy (POS D k m (-1) a0).2 c0 0 0 7) (POS D k m (nI b) (POS D k m (-1) a0).2).1 0 0)) ⟨H3, ?_, K3, L3⟩ (fun h' F' M' => ?_) R (N.mono (by omega))
  · have o31 : hg H2 31 = oB 6 [.ref 1, .ref 22, .ref 23, .ref 32, .ref 34, .ref 35, .ref 36, .int (nI (POS D k m (-1) a0).1)] := by show hg (hp _ 35 _) 31 = _; rw [hg_hp, if_neg (by decide)]; exact RK_31
    have eH2 : hp (RK (SH h (qtl (D.2.1 2) (nI k) (-1) (D.1 2) 0 qz)) (POS D k m (-1) a0).1 (POS D k m (-1) a0).2) 35 (iA 7 (va_cpy (POS D k m (-1) a0).2 c0 (0 : Int32).toNatClampNeg (0 : Int32).toNatClampNeg (7 : Int32).toNatClampNeg)) = H2 := rfl
    simp only [s133_0, s133_1, s133_4, s133_7, s133_8, s133_11, s133_14, s133_16, s133_17, s133_18, s133_21, s133_24, s133_25, s133_26, s133_29, s133_30, s133_31, s133_32, s133_35, s133_37, s133_40, s133_41, s133_44, s133_45, s133_46, s133_49, s72_0, s72_1, s72_2, s72_3, s72_6, s72_7, s72_10, s72_11, s72_12, s72_15, s72_16, s72_18, s72_21, s72_22, s72_23, s72_24, s72_27, s72_28, s72_29, s72_30, s72_34, s72_35, s72_38, s72_41, s72_42, s72_45, s72_47, s72_48, s72_49, s72_52, s72_54, s72_55, s72_58, s72_59, s72_60, s72_61, s72_64, s72_66, s72_67, s72_68, s72_69, s72_70, s72_73, s72_76, s72_77, okF, okA, mcC_o, mcF_o, mcT_i, mcT_l, mcT_z, mcT_q, mcN_i, mcN_l, mcN_z, mcN_q, mcI_i, mcI_z, mcL_l, mcQ_q, hg_hp, hp_hp, List.getD_cons_zero, List.getD_cons_succ, List.set_cons_zero, List.set_cons_succ, List.length_cons, List.length_nil, Nat.reduceAdd, Nat.reduceLT, Nat.reduceEqDiff, Nat.lt_add_one, decide_true, decide_false, Bool.and_true, Bool.true_and, Bool.and_false, Bool.false_and, Bool.false_eq_true, if_true, if_false, ↓reduceIte, Option.bind_some, Option.bind_none, kont_v, kont_n, F.c0, lgo L, T.1, T.hs, g1, one0, eP, nk, h31, er1, RK_31, RK_34, h35, okc, eH2, o31, er2]
    rw [show RK (SH H2 (qtl (D.2.1 2) (nI k) (nI b) (D.1 2) 0 qz)) (POS D k m (nI b) (POS D k m (-1) a0).2).1 (POS D k m (nI b) (POS D k m (-1) a0).2).2 = H3 from rfl, lp]
    simp only [s133_0, s133_1, s133_4, s133_7, s133_8, s133_11, s133_14, s133_16, s133_17, s133_18, s133_21, s133_24, s133_25, s133_26, s133_29, s133_30, s133_31, s133_32, s133_35, s133_37, s133_40, s133_41, s133_44, s133_45, s133_46, s133_49, okF, okA, mcC_o, mcF_o, mcT_i, mcT_l, mcT_z, mcT_q, mcN_i, mcN_l, mcN_z, mcN_q, mcI_i, mcI_z, mcL_l, mcQ_q, hg_hp, hp_hp, List.getD_cons_zero, List.getD_cons_succ, List.set_cons_zero, List.set_cons_succ, List.length_cons, List.length_nil, Nat.reduceAdd, Nat.reduceLT, Nat.reduceEqDiff, Nat.lt_add_one, decide_true, decide_false, Bool.and_true, Bool.true_and, Bool.and_false, Bool.false_and, Bool.false_eq_true, if_true, if_false, ↓reduceIte, Option.bind_some, Option.bind_none, kont_v, kont_n]
  · have e := em h' F'.c55 M'.1
    obtain ⟨d0, h70⟩ := F'.c70
    obtain ⟨g', ef⟩ := m_findOrder (X := X) F' M' b2 z2 R.2.2.2.2 (seeds_m R) (seeds_r N) b1 (by omega) R56 hm h7 h70
    have P1 := PG_MOK F' (g := g') (q := qtl (D.2.1 2) (nI k) (-1) (D.1 2) 0 qz)
    have numA : (rk (ahv (qtl (D.2.1 2) (nI k) (-1) (D.1 2) 0 qz) (D.2.1 1)) m 16 0 (0, d0)).1 = pcn 16 m := rk_num 16 0 0 d0 rfl
    let U1 := OR (PH (GH h' g') (qtl (D.2.1 2) (nI k) (-1) (D.1 2) 0 qz)) (rk (ahv (qtl (D.2.1 2) (nI k) (-1) (D.1 2) 0 qz) (D.2.1 1)) m 16 0 (0, d0)).1 (rk (ahv (qtl (D.2.1 2) (nI k) (-1) (D.1 2) 0 qz) (D.2.1 1)) m 16 0 (0, d0)).2
    have Q1 : MOK h' U1 := P1.trans (OR_MOK P1.1)
    have M1 : MD U1 S IM KP := MD.or ((M'.gh (g := g')).ph (q := qtl (D.2.1 2) (nI k) (-1) (D.1 2) 0 qz))
    obtain ⟨io1, wl1, pl1, sp1, wa1, se1, bc1, sv1, bq1, u0⟩ := P1.1.c55
    have u55 := OR_55 (n := (rk (ahv (qtl (D.2.1 2) (nI k) (-1) (D.1 2) 0 qz) (D.2.1 1)) m 16 0 (0, d0)).1) (a := (rk (ahv (qtl (D.2.1 2) (nI k) (-1) (D.1 2) 0 qz) (D.2.1 1)) m 16 0 (0, d0)).2) u0
    obtain ⟨d1, h71⟩ := Q1.1.c71
    obtain ⟨d2, el, -, eb⟩ := m_had_loop (X := X) (H := U1) (a1 := .int (nI b)) (a2 := .int (nI k)) (a3 := .int (D.2.1 2 (b * 17 + 14))) (a5 := .float 0) (by rw [numA]; exact n7) u55 OR_70 (rk (ahv (qtl (D.2.1 2) (nI k) (-1) (D.1 2) 0 qz) (D.2.1 1)) m 16 0 (0, d0)).1 0 d1 (by omega) h71
    rw [nI_0] at el
    let U2 := hp (hp U1 71 (iA 16 d2)) 56 (iA 16450 (upd S (850 + 130 * b + 8) 1))
    have Q2 : MOK h' U2 := (Q1.put (k := 71) (by decide) ⟨_, rfl⟩).put (k := 56) (by decide) trivial
    have M2 : MD U2 (upd S (850 + 130 * b + 8) 1) IM KP := (M1.off (k := 71) (by decide)).put _
    have B2 : ∀ c, c < D.1 2 → BR (tx (upd S (850 + 130 * b + 8) 1) c) (rof17 (upd (D.2.1 2) (b * 17 + 14) 1) c) := fun c hc => by
      by_cases e : c = b
      · subst e
        rw [tx_upd rfl]
        refine (Bb.tear (v := 1) (Or.inr rfl)).congr (fun i hi => ?_) (fun i _ => rfl)
        show upd (D.2.1 2) (c * 17 + 14) 1 (c * 17 + i) = upd (rof17 (D.2.1 2) c) 14 1 i
        by_cases e : i = 14
        · rw [e, upd_eq, upd_eq]
        · rw [upd_ne (by omega), upd_ne e]; rfl
      · refine (R.2.2.2.2 c hc).congr (fun i hi => ?_) (fun i hi => ?_)
        · show upd (D.2.1 2) (b * 17 + 14) 1 (c * 17 + i) = _
          rw [upd_ne (by omega)]; rfl
        · show upd S (850 + 130 * b + 8) 1 (850 + 130 * c + i) = _
          rw [upd_ne (by omega)]; rfl
    have h70' : hg U2 70 = iA 16 (rk (ahv (qtl (D.2.1 2) (nI k) (-1) (D.1 2) 0 qz) (D.2.1 1)) m 16 0 (0, d0)).2 := by
      show hg (hp (hp _ 71 _) 56 _) 70 = _
      rw [hg_hp, if_neg (by decide), hg_hp, if_neg (by decide)]
      exact OR_70
    obtain ⟨g2, ef2⟩ := m_findOrder (X := X) Q2.1 M2 b2 (by rw [upd_ne (by omega)]; exact z2) B2 (fun f hf => by rw [upd_ne (by omega)]; exact seeds_m R f hf) (seeds_r N) b1 (show k < 6 by omega) (by rw [upd_ne (by omega)]; exact R56) hm h7 h70'
    rw [← qtl_void (by omega) _ _ _ (by omega)] at ef2
    have P3 := PG_MOK Q2.1 (g := g2) (q := qtl (D.2.1 2) (nI k) (nI b) (D.1 2) 0 qz)
    let dA := (rk (ahv (qtl (D.2.1 2) (nI k) (-1) (D.1 2) 0 qz) (D.2.1 1)) m 16 0 (0, d0)).2
    let U3 := OR (PH (GH U2 g2) (qtl (D.2.1 2) (nI k) (nI b) (D.1 2) 0 qz)) (rk (ahv (qtl (D.2.1 2) (nI k) (nI b) (D.1 2) 0 qz) (D.2.1 1)) m 16 0 (0, dA)).1 (rk (ahv (qtl (D.2.1 2) (nI k) (nI b) (D.1 2) 0 qz) (D.2.1 1)) m 16 0 (0, dA)).2
    have numB : (rk (ahv (qtl (D.2.1 2) (nI k) (nI b) (D.1 2) 0 qz) (D.2.1 1)) m 16 0 (0, dA)).1 = pcn 16 m := rk_num 16 0 0 dA rfl
    have Q3 : MOK h' U3 := Q2.trans (P3.trans (OR_MOK P3.1))
    have M3 : MD U3 (upd S (850 + 130 * b + 8) 1) IM KP := MD.or ((M2.gh (g := g2)).ph (q := qtl (D.2.1 2) (nI k) (nI b) (D.1 2) 0 qz))
    have eSS : upd (upd S (850 + 130 * b + 8) 1) (850 + 130 * b + 8) (D.2.1 2 (b * 17 + 14)) = S := by
      funext i
      by_cases e : i = 850 + 130 * b + 8
      · rw [e, upd_eq, e8S]
      · rw [upd_ne e, upd_ne e]
    let U4 := hp U3 56 (iA 16450 S)
    have Q4 : MOK h' U4 := Q3.put (k := 56) (by decide) trivial
    have M4 : MD U4 S IM KP := M3.put S
    obtain ⟨io3, wl3, pl3, sp3, wa3, se3, bc3, sv3, bq3, u3⟩ := P3.1.c55
    have u355 := OR_55 (n := (rk (ahv (qtl (D.2.1 2) (nI k) (nI b) (D.1 2) 0 qz) (D.2.1 1)) m 16 0 (0, dA)).1) (a := (rk (ahv (qtl (D.2.1 2) (nI k) (nI b) (D.1 2) 0 qz) (D.2.1 1)) m 16 0 (0, dA)).2) u3
    have v55 : hg U4 55 = _ := (show hg (hp U3 56 _) 55 = hg U3 55 by rw [hg_hp, if_neg (by decide)]).trans u355
    have v70 : hg U4 70 = iA 16 (rk (ahv (qtl (D.2.1 2) (nI k) (nI b) (D.1 2) 0 qz) (D.2.1 1)) m 16 0 (0, dA)).2 := (show hg (hp U3 56 _) 70 = hg U3 70 by rw [hg_hp, if_neg (by decide)]).trans OR_70
    have v71 : hg U4 71 = iA 16 d2 := by
      show hg (hp U3 56 _) 71 = _
      rw [hg_hp, if_neg (by decide)]
      show hg (OR _ _ _) 71 = _
      rw [OR_off (by decide) (by decide), PH_off (by decide), GH_off (by decide) (by decide) (by decide) (by decide)]
      show hg (hp (hp _ 71 _) 56 _) 71 = _
      rw [hg_hp, if_neg (by decide), hg_hp, if_pos rfl]
    have lp2 := m_hang_loop (X := X) (H := U4) (a1 := .int (nI b)) (a2 := .int (nI k)) (a3 := .int (D.2.1 2 (b * 17 + 14))) (by rw [numB]; exact n7) v55 v70 v71 (rk (ahv (qtl (D.2.1 2) (nI k) (nI b) (D.1 2) 0 qz) (D.2.1 1)) m 16 0 (0, dA)).1 0 0 (by omega)
    rw [nI_0] at lp2
    -- the same bits
    obtain ⟨c1, c2⟩ := rk_congr (ah := ahv (qtl (D.2.1 2) (nI k) (-1) (D.1 2) 0 qz) (D.2.1 1)) (m := m) 16 0 0 a0 d0 (fun i hi => absurd hi (by omega))
    obtain ⟨c3, c4⟩ := rk_congr (ah := ahv (qtl (D.2.1 2) (nI k) (nI b) (D.1 2) 0 qz) (D.2.1 1)) (m := m) 16 0 0 (POS D k m (-1) a0).2 dA (fun i hi => absurd hi (by omega))
    have same : hbits (POS D k m (nI b) (POS D k m (-1) a0).2).2 (va_cpy (POS D k m (-1) a0).2 c0 0 0 7) (POS D k m (nI b) (POS D k m (-1) a0).2).1 0 0 = hbits (rk (ahv (qtl (D.2.1 2) (nI k) (nI b) (D.1 2) 0 qz) (D.2.1 1)) m 16 0 (0, dA)).2 d2 (rk (ahv (qtl (D.2.1 2) (nI k) (nI b) (D.1 2) 0 qz) (D.2.1 1)) m 16 0 (0, dA)).1 0 0 := by
      rw [num2, numB]
      refine hbits_congr _ _ _ (fun j h1 h2 => ⟨c4 j (by show j < (POS D k m (nI b) (POS D k m (-1) a0).2).1; omega), ?_⟩)
      rw [pk_cpy_in (by omega) (by omega), eb j (by omega) (by omega)]
      rw [show 0 + (j - 0) = j by omega]
      exact c2 j (by show j < (POS D k m (-1) a0).1; omega)
    rw [same]
    refine ⟨U4, ?_, Q4, M4⟩
    obtain ⟨io, wl, pl, sp, wa, se, bc, sv, bq, h0⟩ := F'.c55
    have et := m_toldL (X := X) h0 M'.1 hb120
    have st1 : ev X 189 72 [.ref 55, .int (nI b), .int (nI k), .int (D.2.1 2 (b * 17 + 14)), .int (nI (rk (ahv (qtl (D.2.1 2) (nI k) (-1) (D.1 2) 0 qz) (D.2.1 1)) m 16 0 (0, d0)).1), .float 0] [] (hp U1 71 (iA 16 d2)) = ev X 189 119 [.ref 55, .int (nI b), .int (nI k), .int (D.2.1 2 (b * 17 + 14)), .int 0, .int 0] [] U4 := by
      have o55 : hg (hp U1 71 (iA 16 d2)) 55 = _ := (show hg (hp U1 71 _) 55 = hg U1 55 by rw [hg_hp, if_neg (by decide)]).trans u55
      have o56 : hg (hp U1 71 (iA 16 d2)) 56 = iA 16450 S := (show hg (hp U1 71 _) 56 = hg U1 56 by rw [hg_hp, if_neg (by decide)]).trans M1.1
      have eU2 : hp (hp U1 71 (iA 16 d2)) 56 (iA 16450 (upd S (850 + 130 * b + 8) 1)) = U2 := rfl
      have o255 : hg U2 55 = _ := (show hg (hp (hp U1 71 _) 56 _) 55 = hg U1 55 by rw [hg_hp, if_neg (by decide), hg_hp, if_neg (by decide)]).trans u55
      have ef2' : (ev X 187 0 [.ref 55, .int (nI k), .float 0, .float 0] [] (U2)) = some (none, (U3)) := ef2
      have o356 : hg U3 56 = iA 16450 (upd S (850 + 130 * b + 8) 1) := M3.1
      have eU4 : hp U3 56 (iA 16450 S) = U4 := rfl
      have o355 : hg U3 55 = _ := u355
      simp (disch := omega) only [s189_0, s189_1, s189_2, s189_3, s189_6, s189_9, s189_11, s189_12, s189_13, s189_14, s189_15, s189_18, s189_19, s189_20, s189_21, s189_24, s189_26, s189_27, s189_28, s189_29, s189_31, s189_34, s189_35, s189_36, s189_37, s189_40, s189_41, s189_45, s189_46, s189_49, s189_52, s189_53, s189_56, s189_58, s189_59, s189_62, s189_64, s189_65, s189_66, s189_69, s189_72, s189_73, s189_76, s189_79, s189_82, s189_83, s189_84, s189_85, s189_87, s189_88, s189_89, s189_90, s189_91, s189_92, s189_95, s189_96, s189_99, s189_102, s189_105, s189_106, s189_107, s189_108, s189_110, s189_111, s189_112, s189_113, s189_114, s189_116, s189_117, s189_121, s189_122, s189_125, s189_128, s189_130, s189_131, s189_134, s189_136, s189_137, s189_138, s189_141, s189_143, s189_144, s189_147, s189_148, s189_151, s189_152, s189_153, s189_156, s189_158, s189_159, s189_160, s189_161, s189_163, s189_166, s189_169, s189_171, okF, okA, mcC_o, mcF_o, mcT_i, mcN_i, mcI_i, List.length_cons, List.length_nil, Nat.reduceAdd, Nat.reduceLT, decide_true, Bool.and_true, Bool.true_and, if_true, ↓reduceIte, Option.bind_some, kont_v, kont_n, MO_len, MO_0, upd_eq, upd_ne, updL_eq, updL_ne, nI_clamp, inR_n, nI_add, nI_mul, na_0, nb_0, nm_0, nn_0, ns_0, nc_0, ni_0, na_1, nb_1, nm_1, nn_1, ns_1, nc_1, ni_1, na_2, nb_2, nm_2, nn_2, ns_2, nc_2, ni_2, na_3, nb_3, nm_3, nn_3, ns_3, nc_3, ni_3, na_4, nb_4, nm_4, nn_4, ns_4, nc_4, ni_4, na_5, nb_5, nm_5, nn_5, ns_5, nc_5, ni_5, na_6, nb_6, nm_6, nn_6, ns_6, nc_6, ni_6, na_7, nb_7, nm_7, nn_7, ns_7, nc_7, ni_7, na_8, nb_8, nm_8, nn_8, ns_8, nc_8, ni_8, na_9, nb_9, nm_9, nn_9, ns_9, nc_9, ni_9, na_10, nb_10, nm_10, nn_10, ns_10, nc_10, ni_10, na_11, nb_11, nm_11, nn_11, ns_11, nc_11, ni_11, na_12, nb_12, nm_12, nn_12, ns_12, nc_12, ni_12, na_13, nb_13, nm_13, nn_13, ns_13, nc_13, ni_13, na_14, nb_14, nm_14, nn_14, ns_14, nc_14, ni_14, na_15, nb_15, nm_15, nn_15, ns_15, nc_15, ni_15, na_16, nb_16, nm_16, nn_16, ns_16, nc_16, ni_16, na_17, nb_17, nm_17, nn_17, ns_17, nc_17, ni_17, na_18, nb_18, nm_18, nn_18, ns_18, nc_18, ni_18, na_19, nb_19, nm_19, nn_19, ns_19, nc_19, ni_19, na_20, nb_20, nm_20, nn_20, ns_20, nc_20, ni_20, na_21, nb_21, nm_21, nn_21, ns_21, nc_21, ni_21, na_22, nb_22, nm_22, nn_22, ns_22, nc_22, ni_22, na_23, nb_23, nm_23, nn_23, ns_23, nc_23, ni_23, na_24, nb_24, nm_24, nn_24, ns_24, nc_24, ni_24, na_25, nb_25, nm_25, nn_25, ns_25, nc_25, ni_25, na_26, nb_26, nm_26, nn_26, ns_26, nc_26, ni_26, na_27, nb_27, nm_27, nn_27, ns_27, nc_27, ni_27, na_28, nb_28, nm_28, nn_28, ns_28, nc_28, ni_28, na_29, nb_29, nm_29, nn_29, ns_29, nc_29, ni_29, na_30, nb_30, nm_30, nn_30, ns_30, nc_30, ni_30, na_31, nb_31, nm_31, nn_31, ns_31, nc_31, ni_31, na_32, nb_32, nm_32, nn_32, ns_32, nc_32, ni_32, na_33, nb_33, nm_33, nn_33, ns_33, nc_33, ni_33, na_34, nb_34, nm_34, nn_34, ns_34, nc_34, ni_34, na_35, nb_35, nm_35, nn_35, ns_35, nc_35, ni_35, na_36, nb_36, nm_36, nn_36, ns_36, nc_36, ni_36, na_37, nb_37, nm_37, nn_37, ns_37, nc_37, ni_37, na_38, nb_38, nm_38, nn_38, ns_38, nc_38, ni_38, na_39, nb_39, nm_39, nn_39, ns_39, nc_39, ni_39, na_40, nb_40, nm_40, nn_40, ns_40, nc_40, ni_40, na_41, nb_41, nm_41, nn_41, ns_41, nc_41, ni_41, na_42, nb_42, nm_42, nn_42, ns_42, nc_42, ni_42, na_43, nb_43, nm_43, nn_43, ns_43, nc_43, ni_43, na_44, nb_44, nm_44, nn_44, ns_44, nc_44, ni_44, na_45, nb_45, nm_45, nn_45, ns_45, nc_45, ni_45, na_46, nb_46, nm_46, nn_46, ns_46, nc_46, ni_46, na_47, nb_47, nm_47, nn_47, ns_47, nc_47, ni_47, na_48, nb_48, nm_48, nn_48, ns_48, nc_48, ni_48, na_49, nb_49, nm_49, nn_49, ns_49, nc_49, ni_49, na_50, nb_50, nm_50, nn_50, ns_50, nc_50, ni_50, na_51, nb_51, nm_51, nn_51, ns_51, nc_51, ni_51, na_52, nb_52, nm_52, nn_52, ns_52, nc_52, ni_52, na_53, nb_53, nm_53, nn_53, ns_53, nc_53, ni_53, na_54, nb_54, nm_54, nn_54, ns_54, nc_54, ni_54, na_55, nb_55, nm_55, nn_55, ns_55, nc_55, ni_55, na_56, nb_56, nm_56, nn_56, ns_56, nc_56, ni_56, na_57, nb_57, nm_57, nn_57, ns_57, nc_57, ni_57, na_58, nb_58, nm_58, nn_58, ns_58, nc_58, ni_58, na_59, nb_59, nm_59, nn_59, ns_59, nc_59, ni_59, na_60, nb_60, nm_60, nn_60, ns_60, nc_60, ni_60, na_61, nb_61, nm_61, nn_61, ns_61, nc_61, ni_61, na_62, nb_62, nm_62, nn_62, ns_62, nc_62, ni_62, na_63, nb_63, nm_63, nn_63, ns_63, nc_63, ni_63, na_70, nb_70, nm_70, nn_70, ns_70, nc_70, ni_70, na_100, nb_100, nm_100, nn_100, ns_100, nc_100, ni_100, na_118, nb_118, nm_118, nn_118, ns_118, nc_118, ni_118, na_124, nb_124, nm_124, nn_124, ns_124, nc_124, ni_124, na_127, nb_127, nm_127, nn_127, ns_127, nc_127, ni_127, na_128, nb_128, nm_128, nn_128, ns_128, nc_128, ni_128, na_130, nb_130, nm_130, nn_130, ns_130, nc_130, ni_130, na_148, nb_148, nm_148, nn_148, ns_148, nc_148, ni_148, na_170, nb_170, nm_170, nn_170, ns_170, nc_170, ni_170, na_200, nb_200, nm_200, nn_200, ns_200, nc_200, ni_200, na_300, nb_300, nm_300, nn_300, ns_300, nc_300, ni_300, na_388, nb_388, nm_388, nn_388, ns_388, nc_388, ni_388, na_628, nb_628, nm_628, nn_628, ns_628, nc_628, ni_628, na_646, nb_646, nm_646, nn_646, ns_646, nc_646, ni_646, na_850, nb_850, nm_850, nn_850, ns_850, nc_850, ni_850, na_999, nb_999, nm_999, nn_999, ns_999, nc_999, ni_999, na_1000, nb_1000, nm_1000, nn_1000, ns_1000, nc_1000, ni_1000, na_1001, nb_1001, nm_1001, nn_1001, ns_1001, nc_1001, ni_1001, na_9999, nb_9999, nm_9999, nn_9999, ns_9999, nc_9999, ni_9999, na_16450, nb_16450, nm_16450, nn_16450, ns_16450, nc_16450, ni_16450, o55, o56, eU2, o255, ef2', o355, o356, eSS, eU4]
    have ef' : (ev X 187 0 [.ref 55, .int (nI k), .float 0, .float 0] [] (h')) = some (none, (U1)) := ef
    have oU1 : hg U1 55 = _ := u55
    have pre : (ev X 189 0 [.ref 55, .int (nI b), .float 0, .float 0, .float 0, .float 0] [] (h')) = ev X 189 43 [.ref 55, .int (nI b), .int (nI k), .int (D.2.1 2 (b * 17 + 14)), .int 0, .float 0] [] U1 := by
      simp (disch := omega) only [s189_0, s189_1, s189_2, s189_3, s189_6, s189_9, s189_11, s189_12, s189_13, s189_14, s189_15, s189_18, s189_19, s189_20, s189_21, s189_24, s189_26, s189_27, s189_28, s189_29, s189_31, s189_34, s189_35, s189_36, s189_37, s189_40, s189_41, s189_45, s189_46, s189_49, s189_52, s189_53, s189_56, s189_58, s189_59, s189_62, s189_64, s189_65, s189_66, s189_69, s189_73, s189_76, s189_79, s189_82, s189_83, s189_84, s189_85, s189_87, s189_88, s189_89, s189_90, s189_91, s189_92, s189_95, s189_96, s189_99, s189_102, s189_105, s189_106, s189_107, s189_108, s189_110, s189_111, s189_112, s189_113, s189_114, s189_116, s189_117, s189_121, s189_122, s189_125, s189_128, s189_130, s189_131, s189_134, s189_136, s189_137, s189_138, s189_141, s189_143, s189_144, s189_147, s189_148, s189_151, s189_152, s189_153, s189_156, s189_158, s189_159, s189_160, s189_161, s189_163, s189_166, s189_169, s189_171, okF, okA, mcC_o, mcF_o, mcT_i, mcT_l, mcT_z, mcT_q, mcN_i, mcN_l, mcN_z, mcN_q, mcI_i, mcI_z, mcL_l, mcQ_q, hg_hp, hp_hp, List.getD_cons_zero, List.getD_cons_succ, List.set_cons_zero, List.set_cons_succ, List.length_cons, List.length_nil, Nat.reduceAdd, Nat.reduceLT, Nat.reduceEqDiff, Nat.lt_add_one, decide_true, decide_false, Bool.and_true, Bool.true_and, Bool.and_false, Bool.false_and, Bool.false_eq_true, if_true, if_false, ↓reduceIte, Option.bind_some, Option.bind_none, kont_v, kont_n, h0, e, one0, et, e2S, e8S, nk, ef']
    rw [pre, el, st1, lp2]
end CLA

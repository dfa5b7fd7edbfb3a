-- LADDERS: in order of seeds
/-- 1 if g's seed is greater: e goes ahead of g -/
def sdv (f1 : Nat → Int32) (e g : Nat) : Int32 := if f1 (e * 3 + 2) < f1 (g * 3 + 2) then 1 else 0
theorem sdv_01 {f1 : Nat → Int32} {e g : Nat} : sdv f1 e g = 0 ∨ sdv f1 e g = 1 := by
  unfold sdv
  split
  · exact Or.inr rfl
  · exact Or.inl rfl
section SDS
variable {X : MX} {h : MH} {D : LD} {t : Nat} {S IM KP : Nat → Int32}
theorem hp_lg {c : Nat} {d : MC} (L : LG h 1 D) (hc : 19 < c) : LG (hp h c d) 1 D := L.off (Or.inr hc)
theorem c_sins {c Lr e m : Nat} (L : LG h 1 D) (hc : 19 < c) (hl : Lr ≤ 16) (he : e < 16) {n : Nat} (hn : n < Lr) {sv : Int32} (hsv : sv = D.2.1 1 (e * 3 + 2)) : ∀ (k : Nat) (a : Nat → Int32), k < Lr → (∀ i, i < k → ∃ g, g < 16 ∧ a i = nI g) → ∃ a6 a5, ev X 48 48 [.ref 1, .int (nI m), .ref c, .int (nI n), .int (nI e), .int sv, .int (nI k)] [] (hp h c (iA Lr a)) = ev X 48 5 [.ref 1, .int (nI m), .ref c, .int (nI (n + 1)), .int (nI (e + 1)), a5, a6] [] (hp h c (iA Lr (ins (sdv (D.2.1 1)) e k a)))
  | 0, a, hk, hE => by
    refine ⟨.int (nI 0), .int sv, ?_⟩
    have l0 : ¬ (0 : Int32) < nI 0 := by decide
    rw [s48_48]
    simp (disch := omega) only [s48_0, s48_1, s48_2, s48_3, s48_7, s48_8, s48_11, s48_14, s48_17, s48_18, s48_19, s48_20, s48_23, s48_24, s48_25, s48_27, s48_30, s48_33, s48_34, s48_37, s48_39, s48_40, s48_43, s48_45, s48_46, s48_50, s48_53, s48_54, s48_57, s48_58, s48_60, s48_61, s48_62, s48_63, s48_64, s48_67, s48_69, s48_72, s48_73, s48_75, s48_76, s48_78, s48_79, s48_80, s48_81, s48_82, s48_85, s48_88, s48_89, s48_91, s48_93, s48_94, s48_97, s48_100, s48_103, s48_104, okF, okA, mcC_o, mcF_o, mcT_i, mcT_l, mcT_z, mcT_q, mcN_i, mcN_l, mcN_z, mcN_q, mcI_i, mcI_z, mcL_l, mcQ_q, hg_hp, hp_hp, List.getD_cons_zero, List.getD_cons_succ, List.set_cons_zero, List.set_cons_succ, List.length_cons, List.length_nil, Nat.reduceAdd, Nat.reduceLT, Nat.reduceEqDiff, Nat.lt_add_one, decide_true, decide_false, Bool.and_true, Bool.true_and, Bool.and_false, Bool.false_and, Bool.false_eq_true, if_true, if_false, ↓reduceIte, Option.bind_some, Option.bind_none, kont_v, kont_n, l0, nI_clamp, inR_n, nI_1, ins]
  | k + 1, a, hk, hE => by
    have l0 : (0 : Int32) < nI (k + 1) := by rw [nl_0, nI_ltI (by omega) (by omega)]; omega
    obtain ⟨g, hg16, eg⟩ := hE k (by omega)
    have T := lt1 (hp_lg (c := c) (d := iA Lr a) L hc)
    have s1 := T.get' (X := X) (r := g) (q := 2) (q' := 2) rfl rfl hg16 (by decide)
    have fg : fnn (nI g) = g := by unfold fnn; rw [nI_clamp (by omega)]
    have o1 := lgo (hp_lg (c := c) (d := iA Lr a) L hc)
    have oc : hg (hp h c (iA Lr a)) c = iA Lr a := by rw [hg_hp, if_pos rfl]
    have kc : (c = 1) = False := eq_false (by omega)
    have kc4 : (c = 4) = False := eq_false (by omega)
    have t1 := T.1
    by_cases k0 : sv < D.2.1 1 (g * 3 + 2)
    · have d1 : sdv (D.2.1 1) e g = 1 := by unfold sdv; rw [← hsv, if_pos k0]
      obtain ⟨a6, a5, ih⟩ := c_sins (m := m) L hc hl he hn hsv k (upd a (k + 1) (a k)) (by omega) (fun i hi => by rw [upd_ne (by omega)]; exact hE i (by omega))
      refine ⟨a6, a5, ?_⟩
      have n10 : ¬ (1 : Int32) = 0 := by decide
      rw [s48_48]
      simp only [ins]
      rw [eg, fg, d1, if_neg n10]
      rw [eg] at ih
      rw [← ih]
      simp (disch := omega) only [s48_0, s48_1, s48_2, s48_3, s48_7, s48_8, s48_11, s48_14, s48_17, s48_18, s48_19, s48_20, s48_23, s48_24, s48_25, s48_27, s48_30, s48_33, s48_34, s48_37, s48_39, s48_40, s48_43, s48_45, s48_46, s48_50, s48_53, s48_54, s48_57, s48_58, s48_60, s48_61, s48_62, s48_63, s48_64, s48_67, s48_69, s48_72, s48_73, s48_75, s48_76, s48_78, s48_79, s48_80, s48_81, s48_82, s48_85, s48_88, s48_89, s48_91, s48_93, s48_94, s48_97, s48_100, s48_103, s48_104, okF, okA, mcC_o, mcF_o, mcT_i, mcN_i, mcI_i, List.getD_cons_zero, List.getD_cons_succ, List.length_cons, List.length_nil, Nat.reduceAdd, Nat.reduceLT, Nat.lt_add_one, decide_true, Bool.and_true, Bool.true_and, if_true, ↓reduceIte, Option.bind_some, kont_v, hp_hp, o1, oc, t1, l0, nI_pred, nI_clamp, inR_n, eg, s1, k0, pk_m1]
    · have d0 : sdv (D.2.1 1) e g = 0 := by unfold sdv; rw [← hsv, if_neg k0]
      refine ⟨.int (nI (k + 1)), .int sv, ?_⟩
      rw [s48_48]
      simp only [ins]
      rw [eg, fg, d0, if_pos rfl]
      simp (disch := omega) only [s48_0, s48_1, s48_2, s48_3, s48_7, s48_8, s48_11, s48_14, s48_17, s48_18, s48_19, s48_20, s48_23, s48_24, s48_25, s48_27, s48_30, s48_33, s48_34, s48_37, s48_39, s48_40, s48_43, s48_45, s48_46, s48_50, s48_53, s48_54, s48_57, s48_58, s48_60, s48_61, s48_62, s48_63, s48_64, s48_67, s48_69, s48_72, s48_73, s48_75, s48_76, s48_78, s48_79, s48_80, s48_81, s48_82, s48_85, s48_88, s48_89, s48_91, s48_93, s48_94, s48_97, s48_100, s48_103, s48_104, okF, okA, mcC_o, mcF_o, mcT_i, mcN_i, mcI_i, List.getD_cons_zero, List.getD_cons_succ, List.length_cons, List.length_nil, Nat.reduceAdd, Nat.reduceLT, Nat.lt_add_one, decide_true, Bool.and_true, Bool.true_and, if_true, ↓reduceIte, Option.bind_some, kont_v, hp_hp, o1, oc, t1, l0, nI_pred, nI_clamp, inR_n, eg, s1, k0, nI_1]
theorem c_seeded_loop {c Lr m : Nat} (L : LG h 1 D) (hc : 19 < c) (hl : Lr ≤ 16) (hm : m < 2 ^ D.1 1) (hp_ : pcn 32 m ≤ Lr) : ∀ (d e n : Nat) (a : Nat → Int32) (a5 a6 : Value), e + d = 16 → n = pcn e m → ENT m e n a → ev X 48 5 [.ref 1, .int (nI m), .ref c, .int (nI n), .int (nI e), a5, a6] [] (hp h c (iA Lr a)) = some (some (.int (nI (rk (sdv (D.2.1 1)) m d e (n, a)).1)), (hp h c (iA Lr (rk (sdv (D.2.1 1)) m d e (n, a)).2)))
  | 0, e, n, a, a5, a6, he, hn, hE => by
    have b1 := (LBD L).2.1
    have q0 := nI_nlt (show D.1 1 ≤ e by omega) (show e < 2 ^ 31 by omega)
    have o1 := lgo (hp_lg (c := c) (d := iA Lr a) L hc)
    have t1 := (lt1 (hp_lg (c := c) (d := iA Lr a) L hc)).1
    rw [s48_5]
    simp only [s48_0, s48_1, s48_2, s48_3, s48_7, s48_8, s48_11, s48_14, s48_17, s48_18, s48_19, s48_20, s48_23, s48_24, s48_25, s48_27, s48_30, s48_33, s48_34, s48_37, s48_39, s48_40, s48_43, s48_45, s48_46, s48_50, s48_53, s48_54, s48_57, s48_58, s48_60, s48_61, s48_62, s48_63, s48_64, s48_67, s48_69, s48_72, s48_73, s48_75, s48_76, s48_78, s48_79, s48_80, s48_81, s48_82, s48_85, s48_88, s48_89, s48_91, s48_93, s48_94, s48_97, s48_100, s48_103, s48_104, okF, mcC_o, mcF_o, List.getD_cons_zero, List.getD_cons_succ, List.length_cons, List.length_nil, Nat.reduceAdd, Nat.reduceLT, Nat.lt_add_one, decide_true, Bool.and_true, Bool.true_and, if_true, ↓reduceIte, o1, t1, q0, rk]
  | d + 1, e, n, a, a5, a6, he, hn, hE => by
    have b1 := (LBD L).2.1
    have m65 := pow16 b1
    have L' := hp_lg (c := c) (d := iA Lr a) L hc
    have o1 := lgo L'
    have T := lt1 L'
    have t1 := T.1
    have oc : hg (hp h c (iA Lr a)) c = iA Lr a := by rw [hg_hp, if_pos rfl]
    by_cases h0 : e < D.1 1
    · have q0 := nI_lt h0 (by omega)
      by_cases h1 : n < Lr
      · have q1 : nI n < Int32.ofNat Lr := nI_lt (b := Lr) h1 (by omega)
        have em := c_isMember (X := X) L' (m := m) (by omega) (f := nI e)
        have ev_ : mem (D.1 1) m (nI e) = nI (bit m e) := by unfold mem; rw [hs_n h0 (by omega), if_neg one0, nI_clamp (by omega)]
        rw [ev_] at em
        simp only [rk]
        rcases bit_01 m e with hb | hb
        · rw [hb] at em
          have ih := c_seeded_loop L hc hl hm hp_ d (e + 1) n a a5 a6 (by omega) (by rw [pcn_add e 1 m]; show n = _ + (bit m e + 0); omega) hE.up
          rw [if_neg (show ¬ bit m e = 1 by omega)]
          rw [← ih, s48_5]
          simp only [s48_0, s48_1, s48_2, s48_3, s48_7, s48_8, s48_11, s48_14, s48_17, s48_18, s48_19, s48_20, s48_23, s48_24, s48_25, s48_27, s48_30, s48_33, s48_34, s48_37, s48_39, s48_40, s48_43, s48_45, s48_46, s48_50, s48_53, s48_54, s48_57, s48_58, s48_60, s48_61, s48_62, s48_63, s48_64, s48_67, s48_69, s48_72, s48_73, s48_75, s48_76, s48_78, s48_79, s48_80, s48_81, s48_82, s48_85, s48_88, s48_89, s48_91, s48_93, s48_94, s48_97, s48_100, s48_103, s48_104, okF, mcC_o, mcF_o, mcT_i, mcN_i, List.getD_cons_zero, List.getD_cons_succ, List.length_cons, List.length_nil, Nat.reduceAdd, Nat.reduceLT, Nat.lt_add_one, Nat.zero_le, decide_true, Bool.and_true, Bool.true_and, if_true, ↓reduceIte, Option.bind_some, kont_v, o1, t1, oc, q0, q1, em, nI_0, nI_1]
        · rw [hb] at em
          have es := T.get' (X := X) (r := e) (q := 2) (q' := 2) rfl rfl (by omega) (by decide)
          obtain ⟨x6, x5, ek⟩ := c_sins (X := X) (c := c) (Lr := Lr) (e := e) (m := m) L hc hl (by omega) h1 rfl n a h1 (fun i hi => by obtain ⟨g, g1, -, g3⟩ := hE i hi; exact ⟨g, by omega, g3⟩)
          have ih := c_seeded_loop L hc hl hm hp_ d (e + 1) (n + 1) _ x5 x6 (by omega) (by rw [pcn_add e 1 m]; show n + 1 = _ + (bit m e + 0); omega) (hE.ins (ah := sdv (D.2.1 1)) hb)
          have n10 : ¬ nI 1 = 0 := by decide
          rw [if_pos hb]
          rw [← ih, ← ek, s48_5]
          simp only [s48_0, s48_1, s48_2, s48_3, s48_7, s48_8, s48_11, s48_14, s48_17, s48_18, s48_19, s48_20, s48_23, s48_24, s48_25, s48_27, s48_30, s48_33, s48_34, s48_37, s48_39, s48_40, s48_43, s48_45, s48_46, s48_50, s48_53, s48_54, s48_57, s48_58, s48_60, s48_61, s48_62, s48_63, s48_64, s48_67, s48_69, s48_72, s48_73, s48_75, s48_76, s48_78, s48_79, s48_80, s48_81, s48_82, s48_85, s48_88, s48_89, s48_91, s48_93, s48_94, s48_97, s48_100, s48_103, s48_104, okF, mcC_o, mcF_o, mcT_i, mcN_i, List.getD_cons_zero, List.getD_cons_succ, List.length_cons, List.length_nil, Nat.reduceAdd, Nat.reduceLT, Nat.lt_add_one, Nat.zero_le, decide_true, Bool.and_true, Bool.true_and, if_true, ↓reduceIte, Option.bind_some, kont_v, o1, t1, oc, q0, q1, em, n10, es]
      · have q1 : ¬ nI n < Int32.ofNat Lr := nI_nlt (b := Lr) (a := n) (by omega) (by have := pcn_le e m; omega)
        have e7 : pcn e m = pcn 32 m := by have := pcn_mono (m := m) (show e ≤ 32 by omega); omega
        rw [rk_skip (d + 1) e (n, a) (fun j h1 h2 => pcn_full e7 h1 (by omega))]
        rw [s48_5]
        simp only [s48_0, s48_1, s48_2, s48_3, s48_7, s48_8, s48_11, s48_14, s48_17, s48_18, s48_19, s48_20, s48_23, s48_24, s48_25, s48_27, s48_30, s48_33, s48_34, s48_37, s48_39, s48_40, s48_43, s48_45, s48_46, s48_50, s48_53, s48_54, s48_57, s48_58, s48_60, s48_61, s48_62, s48_63, s48_64, s48_67, s48_69, s48_72, s48_73, s48_75, s48_76, s48_78, s48_79, s48_80, s48_81, s48_82, s48_85, s48_88, s48_89, s48_91, s48_93, s48_94, s48_97, s48_100, s48_103, s48_104, okF, mcC_o, mcF_o, mcT_i, mcN_i, List.getD_cons_zero, List.getD_cons_succ, List.length_cons, List.length_nil, Nat.reduceAdd, Nat.reduceLT, Nat.lt_add_one, Nat.zero_le, decide_true, Bool.and_true, Bool.true_and, if_true, ↓reduceIte, o1, t1, oc, q0, q1]
    · have q0 := nI_nlt (show D.1 1 ≤ e by omega) (show e < 2 ^ 31 by omega)
      rw [rk_skip (d + 1) e (n, a) (fun j h1 h2 => bit_hi hm (by omega))]
      rw [s48_5]
      simp only [s48_0, s48_1, s48_2, s48_3, s48_7, s48_8, s48_11, s48_14, s48_17, s48_18, s48_19, s48_20, s48_23, s48_24, s48_25, s48_27, s48_30, s48_33, s48_34, s48_37, s48_39, s48_40, s48_43, s48_45, s48_46, s48_50, s48_53, s48_54, s48_57, s48_58, s48_60, s48_61, s48_62, s48_63, s48_64, s48_67, s48_69, s48_72, s48_73, s48_75, s48_76, s48_78, s48_79, s48_80, s48_81, s48_82, s48_85, s48_88, s48_89, s48_91, s48_93, s48_94, s48_97, s48_100, s48_103, s48_104, okF, mcC_o, mcF_o, List.getD_cons_zero, List.getD_cons_succ, List.length_cons, List.length_nil, Nat.reduceAdd, Nat.reduceLT, Nat.lt_add_one, decide_true, Bool.and_true, Bool.true_and, if_true, ↓reduceIte, o1, t1, q0]
/-- a set by seeds: how many, who -/
def SEE (D : LD) (m : Nat) (a : Nat → Int32) : Nat × (Nat → Int32) := rk (sdv (D.2.1 1)) m 16 0 (0, a)
theorem c_seeded {c Lr m : Nat} {a : Nat → Int32} (L : LG h 1 D) (hc : 19 < c) (hl : Lr ≤ 16) (hm : m < 2 ^ D.1 1) (hp_ : pcn 32 m ≤ Lr) (oc : hg h c = iA Lr a) : (ev X 48 0 [.ref 1, .int (nI m), .ref c, .float 0, .float 0, .float 0, .float 0] [] (h)) = some (some (.int (nI (SEE D m a).1)), (hp h c (iA Lr (SEE D m a).2))) := by
  have lp := c_seeded_loop (X := X) (c := c) (Lr := Lr) L hc hl hm hp_ 16 0 0 a (.float 0) (.float 0) (by omega) rfl (fun i hi => absurd hi (by omega))
  rw [hp_self oc, nI_0] at lp
  simp only [s48_0, s48_1, s48_2, s48_3, s48_7, s48_8, s48_11, s48_14, s48_17, s48_18, s48_19, s48_20, s48_23, s48_24, s48_25, s48_27, s48_30, s48_33, s48_34, s48_37, s48_39, s48_40, s48_43, s48_45, s48_46, s48_50, s48_53, s48_54, s48_57, s48_58, s48_60, s48_61, s48_62, s48_63, s48_64, s48_67, s48_69, s48_72, s48_73, s48_75, s48_76, s48_78, s48_79, s48_80, s48_81, s48_82, s48_85, s48_88, s48_89, s48_91, s48_93, s48_94, s48_97, s48_100, s48_103, s48_104, okF, okA, mcC_o, mcF_o, mcT_i, mcT_l, mcT_z, mcT_q, mcN_i, mcN_l, mcN_z, mcN_q, mcI_i, mcI_z, mcL_l, mcQ_q, hg_hp, hp_hp, List.getD_cons_zero, List.getD_cons_succ, List.set_cons_zero, List.set_cons_succ, List.length_cons, List.length_nil, Nat.reduceAdd, Nat.reduceLT, Nat.reduceEqDiff, Nat.lt_add_one, decide_true, decide_false, Bool.and_true, Bool.true_and, Bool.and_false, Bool.false_and, Bool.false_eq_true, if_true, if_false, ↓reduceIte, Option.bind_some, Option.bind_none, kont_v, kont_n]
  exact lp
theorem SEE_num {m : Nat} {a : Nat → Int32} : (SEE D m a).1 = pcn 16 m := rk_num 16 0 0 a rfl
/-- the reference: seeds n, by seed a -/
def SR (B : MH) (n : Nat) (a : Nat → Int32) : MH := hp (hp B 55 (oB 12 ((mcF (hg B 55)).set 26 (.int (nI n))))) 77 (iA 16 a)
variable {B : MH} {n n' : Nat} {a a' : Nat → Int32} {io wl pl sp wa se bc sv bq : Int32}
theorem SR_off {k : Nat} (h1 : k ≠ 55) (h2 : k ≠ 77) : hg (SR B n a) k = hg B k := by
  unfold SR
  rw [hg_hp, if_neg h2, hg_hp, if_neg h1]
theorem SR_55 (h0 : hg B 55 = oB 12 (MO io wl pl sp wa se bc sv bq)) : hg (SR B n a) 55 = oB 12 (MO io wl pl sp wa (nI n) bc sv bq) := by
  unfold SR
  rw [hg_hp, if_neg (by decide), hg_hp, if_pos rfl, h0]
  rfl
theorem SR_77 : hg (SR B n a) 77 = iA 16 a := by
  unfold SR
  rw [hg_hp, if_pos rfl]
theorem SRu_77 : hp (SR B n a) 77 (iA 16 a') = SR B n a' := by
  unfold SR
  rw [hp_hp]
theorem SRu_55 (h0 : hg B 55 = oB 12 (MO io wl pl sp wa se bc sv bq)) : hp (SR B n a) 55 (oB 12 (MO io wl pl sp wa (nI n') bc sv bq)) = SR B n' a := by
  unfold SR
  rw [hp_cm (a := 55) (b := 77) (by decide), hp_hp, hp_cm (a := 55) (b := 77) (by decide), h0]
  rfl
theorem m_seedE {f1 : Nat → Int32} {H : MH} (c55 : hg H 55 = oB 12 (MO io wl pl sp wa se bc sv bq)) (c56 : hg H 56 = iA 16450 S) (es : ∀ f, f < 16 → S (70 + 3 * f + 2) = f1 (f * 3 + 2)) {g : Nat} (hg_ : g < 16) : (ev X 165 0 [.ref 55, .int (nI g)] [] (H)) = some (some (.int (f1 (g * 3 + 2))), (H)) := by
  have := es g hg_
  simp (disch := omega) only [s165_0, s165_1, s165_4, s165_6, s165_7, s165_8, s165_9, s165_10, s165_11, s165_12, s165_13, okF, okA, mcC_o, mcF_o, mcT_i, mcT_l, mcT_z, mcT_q, mcN_i, mcN_l, mcN_z, mcN_q, mcI_i, mcI_z, mcL_l, mcQ_q, hg_hp, hp_hp, List.getD_cons_zero, List.getD_cons_succ, List.set_cons_zero, List.set_cons_succ, List.length_cons, List.length_nil, Nat.reduceAdd, Nat.reduceLT, Nat.reduceEqDiff, Nat.lt_add_one, decide_true, decide_false, Bool.and_true, Bool.true_and, Bool.and_false, Bool.false_and, Bool.false_eq_true, if_true, if_false, ↓reduceIte, Option.bind_some, Option.bind_none, kont_v, kont_n, MO_len, MO_0, upd_eq, upd_ne, updL_eq, updL_ne, nI_clamp, inR_n, nI_add, nI_mul, na_0, nb_0, nm_0, nn_0, ns_0, nc_0, ni_0, na_1, nb_1, nm_1, nn_1, ns_1, nc_1, ni_1, na_2, nb_2, nm_2, nn_2, ns_2, nc_2, ni_2, na_3, nb_3, nm_3, nn_3, ns_3, nc_3, ni_3, na_4, nb_4, nm_4, nn_4, ns_4, nc_4, ni_4, na_5, nb_5, nm_5, nn_5, ns_5, nc_5, ni_5, na_6, nb_6, nm_6, nn_6, ns_6, nc_6, ni_6, na_7, nb_7, nm_7, nn_7, ns_7, nc_7, ni_7, na_8, nb_8, nm_8, nn_8, ns_8, nc_8, ni_8, na_9, nb_9, nm_9, nn_9, ns_9, nc_9, ni_9, na_10, nb_10, nm_10, nn_10, ns_10, nc_10, ni_10, na_11, nb_11, nm_11, nn_11, ns_11, nc_11, ni_11, na_12, nb_12, nm_12, nn_12, ns_12, nc_12, ni_12, na_13, nb_13, nm_13, nn_13, ns_13, nc_13, ni_13, na_14, nb_14, nm_14, nn_14, ns_14, nc_14, ni_14, na_15, nb_15, nm_15, nn_15, ns_15, nc_15, ni_15, na_16, nb_16, nm_16, nn_16, ns_16, nc_16, ni_16, na_17, nb_17, nm_17, nn_17, ns_17, nc_17, ni_17, na_18, nb_18, nm_18, nn_18, ns_18, nc_18, ni_18, na_19, nb_19, nm_19, nn_19, ns_19, nc_19, ni_19, na_20, nb_20, nm_20, nn_20, ns_20, nc_20, ni_20, na_21, nb_21, nm_21, nn_21, ns_21, nc_21, ni_21, na_22, nb_22, nm_22, nn_22, ns_22, nc_22, ni_22, na_23, nb_23, nm_23, nn_23, ns_23, nc_23, ni_23, na_24, nb_24, nm_24, nn_24, ns_24, nc_24, ni_24, na_25, nb_25, nm_25, nn_25, ns_25, nc_25, ni_25, na_26, nb_26, nm_26, nn_26, ns_26, nc_26, ni_26, na_27, nb_27, nm_27, nn_27, ns_27, nc_27, ni_27, na_28, nb_28, nm_28, nn_28, ns_28, nc_28, ni_28, na_29, nb_29, nm_29, nn_29, ns_29, nc_29, ni_29, na_30, nb_30, nm_30, nn_30, ns_30, nc_30, ni_30, na_31, nb_31, nm_31, nn_31, ns_31, nc_31, ni_31, na_32, nb_32, nm_32, nn_32, ns_32, nc_32, ni_32, na_33, nb_33, nm_33, nn_33, ns_33, nc_33, ni_33, na_34, nb_34, nm_34, nn_34, ns_34, nc_34, ni_34, na_35, nb_35, nm_35, nn_35, ns_35, nc_35, ni_35, na_36, nb_36, nm_36, nn_36, ns_36, nc_36, ni_36, na_37, nb_37, nm_37, nn_37, ns_37, nc_37, ni_37, na_38, nb_38, nm_38, nn_38, ns_38, nc_38, ni_38, na_39, nb_39, nm_39, nn_39, ns_39, nc_39, ni_39, na_40, nb_40, nm_40, nn_40, ns_40, nc_40, ni_40, na_41, nb_41, nm_41, nn_41, ns_41, nc_41, ni_41, na_42, nb_42, nm_42, nn_42, ns_42, nc_42, ni_42, na_43, nb_43, nm_43, nn_43, ns_43, nc_43, ni_43, na_44, nb_44, nm_44, nn_44, ns_44, nc_44, ni_44, na_45, nb_45, nm_45, nn_45, ns_45, nc_45, ni_45, na_46, nb_46, nm_46, nn_46, ns_46, nc_46, ni_46, na_47, nb_47, nm_47, nn_47, ns_47, nc_47, ni_47, na_48, nb_48, nm_48, nn_48, ns_48, nc_48, ni_48, na_49, nb_49, nm_49, nn_49, ns_49, nc_49, ni_49, na_50, nb_50, nm_50, nn_50, ns_50, nc_50, ni_50, na_51, nb_51, nm_51, nn_51, ns_51, nc_51, ni_51, na_52, nb_52, nm_52, nn_52, ns_52, nc_52, ni_52, na_53, nb_53, nm_53, nn_53, ns_53, nc_53, ni_53, na_54, nb_54, nm_54, nn_54, ns_54, nc_54, ni_54, na_55, nb_55, nm_55, nn_55, ns_55, nc_55, ni_55, na_56, nb_56, nm_56, nn_56, ns_56, nc_56, ni_56, na_57, nb_57, nm_57, nn_57, ns_57, nc_57, ni_57, na_58, nb_58, nm_58, nn_58, ns_58, nc_58, ni_58, na_59, nb_59, nm_59, nn_59, ns_59, nc_59, ni_59, na_60, nb_60, nm_60, nn_60, ns_60, nc_60, ni_60, na_61, nb_61, nm_61, nn_61, ns_61, nc_61, ni_61, na_62, nb_62, nm_62, nn_62, ns_62, nc_62, ni_62, na_63, nb_63, nm_63, nn_63, ns_63, nc_63, ni_63, na_70, nb_70, nm_70, nn_70, ns_70, nc_70, ni_70, na_100, nb_100, nm_100, nn_100, ns_100, nc_100, ni_100, na_118, nb_118, nm_118, nn_118, ns_118, nc_118, ni_118, na_124, nb_124, nm_124, nn_124, ns_124, nc_124, ni_124, na_127, nb_127, nm_127, nn_127, ns_127, nc_127, ni_127, na_128, nb_128, nm_128, nn_128, ns_128, nc_128, ni_128, na_130, nb_130, nm_130, nn_130, ns_130, nc_130, ni_130, na_148, nb_148, nm_148, nn_148, ns_148, nc_148, ni_148, na_170, nb_170, nm_170, nn_170, ns_170, nc_170, ni_170, na_200, nb_200, nm_200, nn_200, ns_200, nc_200, ni_200, na_300, nb_300, nm_300, nn_300, ns_300, nc_300, ni_300, na_388, nb_388, nm_388, nn_388, ns_388, nc_388, ni_388, na_628, nb_628, nm_628, nn_628, ns_628, nc_628, ni_628, na_646, nb_646, nm_646, nn_646, ns_646, nc_646, ni_646, na_850, nb_850, nm_850, nn_850, ns_850, nc_850, ni_850, na_999, nb_999, nm_999, nn_999, ns_999, nc_999, ni_999, na_1000, nb_1000, nm_1000, nn_1000, ns_1000, nc_1000, ni_1000, na_1001, nb_1001, nm_1001, nn_1001, ns_1001, nc_1001, ni_1001, na_9999, nb_9999, nm_9999, nn_9999, ns_9999, nc_9999, ni_9999, na_16450, nb_16450, nm_16450, nn_16450, ns_16450, nc_16450, ni_16450, c55, c56, this]
theorem m_sins {f1 : Nat → Int32} {pv : Value} {e : Nat} (h0 : hg B 55 = oB 12 (MO io wl pl sp wa se bc sv bq)) (c56 : hg B 56 = iA 16450 S) (es : ∀ f, f < 16 → S (70 + 3 * f + 2) = f1 (f * 3 + 2)) (he : e < 16) : ∀ (k : Nat) (a : Nat → Int32), k < 16 → (∀ i, i < k → ∃ g, g < 16 ∧ a i = nI g) → ∃ a3, ev X 206 27 [.ref 55, pv, .int (nI e), .int (nI k)] [] (SR B n a) = ev X 206 7 [.ref 55, pv, .int (nI (e + 1)), a3] [] (SR B (n + 1) (ins (sdv f1) e k a))
  | 0, a, hk, hE => by
    refine ⟨.int (nI 0), ?_⟩
    have l0 : ¬ (0 : Int32) < nI 0 := by decide
    rw [s206_27]
    simp (disch := omega) only [s206_0, s206_1, s206_2, s206_5, s206_6, s206_8, s206_10, s206_13, s206_14, s206_15, s206_16, s206_17, s206_18, s206_19, s206_22, s206_23, s206_26, s206_28, s206_31, s206_32, s206_33, s206_36, s206_37, s206_38, s206_39, s206_40, s206_43, s206_44, s206_45, s206_48, s206_51, s206_52, s206_55, s206_56, s206_57, s206_60, s206_61, s206_62, s206_63, s206_64, s206_65, s206_68, s206_71, s206_72, s206_75, s206_76, s206_77, s206_78, s206_79, s206_80, s206_83, s206_84, s206_85, s206_88, s206_91, s206_94, okF, okA, mcC_o, mcF_o, mcT_i, mcT_l, mcT_z, mcT_q, mcN_i, mcN_l, mcN_z, mcN_q, mcI_i, mcI_z, mcL_l, mcQ_q, hg_hp, hp_hp, List.getD_cons_zero, List.getD_cons_succ, List.set_cons_zero, List.set_cons_succ, List.length_cons, List.length_nil, Nat.reduceAdd, Nat.reduceLT, Nat.reduceEqDiff, Nat.lt_add_one, decide_true, decide_false, Bool.and_true, Bool.true_and, Bool.and_false, Bool.false_and, Bool.false_eq_true, if_true, if_false, ↓reduceIte, Option.bind_some, Option.bind_none, kont_v, kont_n, MO_len, MO_26, MO_27, MOs_26, SR_55 h0, SR_77, SRu_55 h0, SRu_77, l0, nI_clamp, inR_n, nI_1, ins]
  | k + 1, a, hk, hE => by
    have l0 : (0 : Int32) < nI (k + 1) := by rw [nl_0, nI_ltI (by omega) (by omega)]; omega
    obtain ⟨g, hg16, eg⟩ := hE k (by omega)
    have fg : fnn (nI g) = g := by unfold fnn; rw [nI_clamp (by omega)]
    have o56 : hg (SR B n a) 56 = iA 16450 S := (SR_off (by decide) (by decide)).trans c56
    have s0 := m_seedE (X := X) (H := SR B n a) (SR_55 h0) o56 es he
    have s1 := m_seedE (X := X) (H := SR B n a) (SR_55 h0) o56 es hg16
    by_cases k0 : f1 (e * 3 + 2) < f1 (g * 3 + 2)
    · have d1 : sdv f1 e g = 1 := by unfold sdv; rw [if_pos k0]
      obtain ⟨a3, ih⟩ := m_sins (pv := pv) h0 c56 es he k (upd a (k + 1) (a k)) (by omega) (fun i hi => by rw [upd_ne (by omega)]; exact hE i (by omega))
      refine ⟨a3, ?_⟩
      have n10 : ¬ (1 : Int32) = 0 := by decide
      rw [eg] at ih
      rw [s206_27]
      simp (disch := omega) only [s206_0, s206_1, s206_2, s206_5, s206_6, s206_8, s206_10, s206_13, s206_14, s206_15, s206_16, s206_17, s206_18, s206_19, s206_22, s206_23, s206_26, s206_28, s206_31, s206_32, s206_33, s206_36, s206_37, s206_38, s206_39, s206_40, s206_43, s206_44, s206_45, s206_48, s206_51, s206_52, s206_55, s206_56, s206_57, s206_60, s206_61, s206_62, s206_63, s206_64, s206_65, s206_68, s206_71, s206_72, s206_75, s206_76, s206_77, s206_78, s206_79, s206_80, s206_83, s206_84, s206_85, s206_88, s206_91, s206_94, okF, okA, mcC_o, mcF_o, mcT_i, mcT_l, mcT_z, mcT_q, mcN_i, mcN_l, mcN_z, mcN_q, mcI_i, mcI_z, mcL_l, mcQ_q, hg_hp, hp_hp, List.getD_cons_zero, List.getD_cons_succ, List.set_cons_zero, List.set_cons_succ, List.length_cons, List.length_nil, Nat.reduceAdd, Nat.reduceLT, Nat.reduceEqDiff, Nat.lt_add_one, decide_true, decide_false, Bool.and_true, Bool.true_and, Bool.and_false, Bool.false_and, Bool.false_eq_true, if_true, if_false, ↓reduceIte, Option.bind_some, Option.bind_none, kont_v, kont_n, MO_len, MO_26, MO_27, MOs_26, SR_55 h0, SR_77, SRu_55 h0, SRu_77, l0, nI_pred, nI_clamp, inR_n, eg, s0, s1, k0, ins, fg, d1, n10, pk_m1]
      exact ih
    · have d0 : sdv f1 e g = 0 := by unfold sdv; rw [if_neg k0]
      refine ⟨.int (nI (k + 1)), ?_⟩
      rw [s206_27]
      simp (disch := omega) only [s206_0, s206_1, s206_2, s206_5, s206_6, s206_8, s206_10, s206_13, s206_14, s206_15, s206_16, s206_17, s206_18, s206_19, s206_22, s206_23, s206_26, s206_28, s206_31, s206_32, s206_33, s206_36, s206_37, s206_38, s206_39, s206_40, s206_43, s206_44, s206_45, s206_48, s206_51, s206_52, s206_55, s206_56, s206_57, s206_60, s206_61, s206_62, s206_63, s206_64, s206_65, s206_68, s206_71, s206_72, s206_75, s206_76, s206_77, s206_78, s206_79, s206_80, s206_83, s206_84, s206_85, s206_88, s206_91, s206_94, okF, okA, mcC_o, mcF_o, mcT_i, mcT_l, mcT_z, mcT_q, mcN_i, mcN_l, mcN_z, mcN_q, mcI_i, mcI_z, mcL_l, mcQ_q, hg_hp, hp_hp, List.getD_cons_zero, List.getD_cons_succ, List.set_cons_zero, List.set_cons_succ, List.length_cons, List.length_nil, Nat.reduceAdd, Nat.reduceLT, Nat.reduceEqDiff, Nat.lt_add_one, decide_true, decide_false, Bool.and_true, Bool.true_and, Bool.and_false, Bool.false_and, Bool.false_eq_true, if_true, if_false, ↓reduceIte, Option.bind_some, Option.bind_none, kont_v, kont_n, MO_len, MO_26, MO_27, MOs_26, SR_55 h0, SR_77, SRu_55 h0, SRu_77, l0, nI_pred, nI_clamp, inR_n, eg, s0, s1, k0, nI_1, ins, fg, d0]
theorem m_seeds_loop {f1 : Nat → Int32} {m : Nat} (h0 : hg B 55 = oB 12 (MO io wl pl sp wa se bc sv bq)) (c56 : hg B 56 = iA 16450 S) (es : ∀ f, f < 16 → S (70 + 3 * f + 2) = f1 (f * 3 + 2)) (hm : m < 2 ^ 16) : ∀ (d e n : Nat) (a : Nat → Int32) (a3 : Value), e + d = 16 → n ≤ e → ENT m e n a → ev X 206 7 [.ref 55, .int (nI m), .int (nI e), a3] [] (SR B n a) = some (none, (SR B (rk (sdv f1) m d e (n, a)).1 (rk (sdv f1) m d e (n, a)).2))
  | 0, e, n, a, a3, he, hn, hE => by
    have ee : e = 16 := by omega
    subst ee
    have q0 : ¬ nI 16 < 16 := by decide
    rw [s206_7]
    simp only [s206_0, s206_1, s206_2, s206_5, s206_6, s206_8, s206_10, s206_13, s206_14, s206_15, s206_16, s206_17, s206_18, s206_19, s206_22, s206_23, s206_26, s206_28, s206_31, s206_32, s206_33, s206_36, s206_37, s206_38, s206_39, s206_40, s206_43, s206_44, s206_45, s206_48, s206_51, s206_52, s206_55, s206_56, s206_57, s206_60, s206_61, s206_62, s206_63, s206_64, s206_65, s206_68, s206_71, s206_72, s206_75, s206_76, s206_77, s206_78, s206_79, s206_80, s206_83, s206_84, s206_85, s206_88, s206_91, s206_94, okF, okA, mcC_o, mcF_o, mcT_i, mcT_l, mcT_z, mcT_q, mcN_i, mcN_l, mcN_z, mcN_q, mcI_i, mcI_z, mcL_l, mcQ_q, hg_hp, hp_hp, List.getD_cons_zero, List.getD_cons_succ, List.set_cons_zero, List.set_cons_succ, List.length_cons, List.length_nil, Nat.reduceAdd, Nat.reduceLT, Nat.reduceEqDiff, Nat.lt_add_one, decide_true, decide_false, Bool.and_true, Bool.true_and, Bool.and_false, Bool.false_and, Bool.false_eq_true, if_true, if_false, ↓reduceIte, Option.bind_some, Option.bind_none, kont_v, kont_n, q0, rk]
  | d + 1, e, n, a, a3, he, hn, hE => by
    have q0 : nI e < 16 := nI_lt (b := 16) (by omega) (by decide)
    have ei := nI_bit2 (m := m) (k := e) (by omega) (by omega)
    simp only [rk]
    rcases bit_01 m e with hb | hb
    · rw [hb] at ei
      have ih := m_seeds_loop h0 c56 es hm d (e + 1) n a a3 (by omega) (by omega) hE.up
      rw [if_neg (show ¬ bit m e = 1 by omega)]
      rw [s206_7]
      simp only [s206_0, s206_1, s206_2, s206_5, s206_6, s206_8, s206_10, s206_13, s206_14, s206_15, s206_16, s206_17, s206_18, s206_19, s206_22, s206_23, s206_26, s206_28, s206_31, s206_32, s206_33, s206_36, s206_37, s206_38, s206_39, s206_40, s206_43, s206_44, s206_45, s206_48, s206_51, s206_52, s206_55, s206_56, s206_57, s206_60, s206_61, s206_62, s206_63, s206_64, s206_65, s206_68, s206_71, s206_72, s206_75, s206_76, s206_77, s206_78, s206_79, s206_80, s206_83, s206_84, s206_85, s206_88, s206_91, s206_94, okF, okA, mcC_o, mcF_o, mcT_i, mcT_l, mcT_z, mcT_q, mcN_i, mcN_l, mcN_z, mcN_q, mcI_i, mcI_z, mcL_l, mcQ_q, hg_hp, hp_hp, List.getD_cons_zero, List.getD_cons_succ, List.set_cons_zero, List.set_cons_succ, List.length_cons, List.length_nil, Nat.reduceAdd, Nat.reduceLT, Nat.reduceEqDiff, Nat.lt_add_one, decide_true, decide_false, Bool.and_true, Bool.true_and, Bool.and_false, Bool.false_and, Bool.false_eq_true, if_true, if_false, ↓reduceIte, Option.bind_some, Option.bind_none, kont_v, kont_n, q0, ei, show ¬ nI 0 = 1 by decide, nI_1]
      exact ih
    · rw [hb] at ei
      obtain ⟨x3, ek⟩ := m_sins (X := X) (n := n) (pv := .int (nI m)) (e := e) h0 c56 es (by omega) n a (by omega) (fun i hi => by obtain ⟨g, g1, -, g3⟩ := hE i hi; exact ⟨g, by omega, g3⟩)
      have ih := m_seeds_loop h0 c56 es hm d (e + 1) (n + 1) _ x3 (by omega) (by omega) (hE.ins (ah := sdv f1) hb)
      rw [if_pos hb]
      rw [s206_7]
      simp only [s206_0, s206_1, s206_2, s206_5, s206_6, s206_8, s206_10, s206_13, s206_14, s206_15, s206_16, s206_17, s206_18, s206_19, s206_22, s206_23, s206_26, s206_28, s206_31, s206_32, s206_33, s206_36, s206_37, s206_38, s206_39, s206_40, s206_43, s206_44, s206_45, s206_48, s206_51, s206_52, s206_55, s206_56, s206_57, s206_60, s206_61, s206_62, s206_63, s206_64, s206_65, s206_68, s206_71, s206_72, s206_75, s206_76, s206_77, s206_78, s206_79, s206_80, s206_83, s206_84, s206_85, s206_88, s206_91, s206_94, okF, okA, mcC_o, mcF_o, mcT_i, mcT_l, mcT_z, mcT_q, mcN_i, mcN_l, mcN_z, mcN_q, mcI_i, mcI_z, mcL_l, mcQ_q, hg_hp, hp_hp, List.getD_cons_zero, List.getD_cons_succ, List.set_cons_zero, List.set_cons_succ, List.length_cons, List.length_nil, Nat.reduceAdd, Nat.reduceLT, Nat.reduceEqDiff, Nat.lt_add_one, decide_true, decide_false, Bool.and_true, Bool.true_and, Bool.and_false, Bool.false_and, Bool.false_eq_true, if_true, if_false, ↓reduceIte, Option.bind_some, Option.bind_none, kont_v, kont_n, MO_len, MO_26, SR_55 h0, q0, ei, ← nl_1, eq_self]
      rw [ek]
      exact ih
theorem m_findSeeds {m : Nat} {f1 a : Nat → Int32} (h0 : hg h 55 = oB 12 (MO io wl pl sp wa se bc sv bq)) (c56 : hg h 56 = iA 16450 S) (es : ∀ f, f < 16 → S (70 + 3 * f + 2) = f1 (f * 3 + 2)) (hm : m < 2 ^ 16) (h77 : hg h 77 = iA 16 a) : (ev X 206 0 [.ref 55, .int (nI m), .float 0, .float 0] [] (h)) = some (none, (SR h (rk (sdv f1) m 16 0 (0, a)).1 (rk (sdv f1) m 16 0 (0, a)).2)) := by
  have e0 : hp h 55 (oB 12 (MO io wl pl sp wa 0 bc sv bq)) = SR h 0 a := by
    unfold SR
    rw [hp_self (a := 77) (by rw [hg_hp, if_neg (by decide)]; exact h77), h0]
    rfl
  have lp := m_seeds_loop (X := X) h0 c56 es hm 16 0 0 a (.float 0) (by omega) (by omega) (fun i hi => absurd hi (by omega))
  rw [nI_0] at lp
  simp only [s206_0, s206_1, s206_2, s206_5, s206_6, s206_8, s206_10, s206_13, s206_14, s206_15, s206_16, s206_17, s206_18, s206_19, s206_22, s206_23, s206_26, s206_28, s206_31, s206_32, s206_33, s206_36, s206_37, s206_38, s206_39, s206_40, s206_43, s206_44, s206_45, s206_48, s206_51, s206_52, s206_55, s206_56, s206_57, s206_60, s206_61, s206_62, s206_63, s206_64, s206_65, s206_68, s206_71, s206_72, s206_75, s206_76, s206_77, s206_78, s206_79, s206_80, s206_83, s206_84, s206_85, s206_88, s206_91, s206_94, okF, okA, mcC_o, mcF_o, mcT_i, mcT_l, mcT_z, mcT_q, mcN_i, mcN_l, mcN_z, mcN_q, mcI_i, mcI_z, mcL_l, mcQ_q, hg_hp, hp_hp, List.getD_cons_zero, List.getD_cons_succ, List.set_cons_zero, List.set_cons_succ, List.length_cons, List.length_nil, Nat.reduceAdd, Nat.reduceLT, Nat.reduceEqDiff, Nat.lt_add_one, decide_true, decide_false, Bool.and_true, Bool.true_and, Bool.and_false, Bool.false_and, Bool.false_eq_true, if_true, if_false, ↓reduceIte, Option.bind_some, Option.bind_none, kont_v, kont_n, MO_len, MOs_26, h0, e0]
  exact lp
theorem SR_MOK (F : FIX B) : MOK B (SR B n a) := by
  obtain ⟨io, wl, pl, sp, wa, se, bc, sv, bq, h0⟩ := F.c55
  unfold SR
  rw [h0]
  exact ((MOK.refl F).put (k := 55) (by decide) ⟨io, wl, pl, sp, wa, nI n, bc, sv, bq, rfl⟩).put (k := 77) (by decide) ⟨_, rfl⟩
theorem MD.sr (M : MD B S IM KP) : MD (SR B n a) S IM KP := M.same (fun k h1 h2 => SR_off (by omega) (by omega))
end SDS

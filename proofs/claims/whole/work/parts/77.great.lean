-- RANKINGS: the greatest results
def insq (p v : Nat) (g : Nat → Nat) (j : Nat) : Nat := if j < p then g j else if j = p then v else g (j - 1)
def PP (q p v : Nat) (g : Nat → Nat) : Prop := p ≤ q ∧ (∀ j, j < p → v ≤ g j) ∧ (p < q → g p ≤ v)
def DS (q : Nat) (g : Nat → Nat) : Prop := ∀ j, j + 1 < q → g (j + 1) ≤ g j
def crr (p v : Nat) (g : Nat → Nat) (i : Nat) : Nat := if i ≤ p then v else g (i - 1)
def dnk (g : Nat → Nat) (v : Nat) : Nat → Nat
  | 0 => 0
  | k + 1 => if g k < v then dnk g v k else k + 1
def rst (q v : Nat) (s : Nat × (Nat → Nat)) : Nat × (Nat → Nat) := if s.1 < q then (s.1 + 1, insq (dnk s.2 v s.1) v s.2) else if s.2 (q - 1) < v then (s.1, insq (dnk s.2 v (q - 1)) v s.2) else s
def RIN (q : Nat) (s : Nat × (Nat → Nat)) : Prop := s.1 ≤ q ∧ DS q s.2 ∧ (∀ j, j < q → s.2 j ≤ 1000) ∧ ∀ j, s.1 ≤ j → j < q → s.2 j = 0
theorem keep_st {q p v i : Nat} {g : Nat → Nat} (hi : i < q) (hD : DS q g) (hP : PP q p v g) : (g i < crr p v g i → insq p v g i = crr p v g i ∧ crr p v g (i + 1) = g i) ∧ (¬ g i < crr p v g i → insq p v g i = g i ∧ crr p v g (i + 1) = crr p v g i) := by
  obtain ⟨h1, h2, h3⟩ := hP
  unfold crr insq
  rcases Nat.lt_trichotomy i p with k | k | k
  · have := h2 i k
    rw [if_pos (show i ≤ p by omega), if_pos k, if_pos (show i + 1 ≤ p by omega)]
    exact ⟨fun z => absurd z (by omega), fun _ => ⟨rfl, rfl⟩⟩
  · subst k
    have := h3 hi
    rw [if_pos (Nat.le_refl i), if_neg (Nat.lt_irrefl i), if_pos rfl, if_neg (show ¬ i + 1 ≤ i by omega), Nat.add_sub_cancel]
    exact ⟨fun _ => ⟨rfl, rfl⟩, fun z => ⟨by omega, by omega⟩⟩
  · have := hD (i - 1) (by omega)
    rw [show i - 1 + 1 = i by omega] at this
    rw [if_neg (show ¬ i ≤ p by omega), if_neg (show ¬ i < p by omega), if_neg (show ¬ i = p by omega), if_neg (show ¬ i + 1 ≤ p by omega), Nat.add_sub_cancel]
    exact ⟨fun _ => ⟨rfl, rfl⟩, fun z => ⟨by omega, by omega⟩⟩
theorem DS_le {q : Nat} {g : Nat → Nat} (hD : DS q g) {i : Nat} : ∀ d, i + d < q → g (i + d) ≤ g i
  | 0, _ => Nat.le_refl _
  | d + 1, h => by
    have := hD (i + d) h
    have := DS_le hD d (by omega : i + d < q)
    rw [← Nat.add_assoc]
    omega
theorem dnk_spec {g : Nat → Nat} {v : Nat} : ∀ k, dnk g v k ≤ k ∧ (0 < dnk g v k → v ≤ g (dnk g v k - 1)) ∧ (dnk g v k < k → g (dnk g v k) < v)
  | 0 => ⟨Nat.le_refl 0, fun z => absurd z (Nat.lt_irrefl 0), fun z => absurd z (Nat.lt_irrefl 0)⟩
  | k + 1 => by
    obtain ⟨h1, h2, h3⟩ := dnk_spec (g := g) (v := v) k
    show (if g k < v then dnk g v k else k + 1) ≤ _ ∧ (0 < (if g k < v then dnk g v k else k + 1) → v ≤ g ((if g k < v then dnk g v k else k + 1) - 1)) ∧ ((if g k < v then dnk g v k else k + 1) < k + 1 → g (if g k < v then dnk g v k else k + 1) < v)
    by_cases c : g k < v
    · rw [if_pos c]
      refine ⟨by omega, h2, fun _ => ?_⟩
      by_cases e : dnk g v k = k
      · rw [e]; exact c
      · exact h3 (by omega)
    · rw [if_neg c]
      exact ⟨Nat.le_refl _, fun _ => by rw [Nat.add_sub_cancel]; omega, fun z => absurd z (Nat.lt_irrefl _)⟩
theorem ins_DS {q p v : Nat} {g : Nat → Nat} (hD : DS q g) (hP : PP q p v g) : DS q (insq p v g) := by
  obtain ⟨h1, h2, h3⟩ := hP
  intro j hj
  unfold insq
  rcases Nat.lt_trichotomy (j + 1) p with k | k | k
  · rw [if_pos k, if_pos (show j < p by omega)]; exact hD j hj
  · rw [if_neg (show ¬ j + 1 < p by omega), if_pos k, if_pos (show j < p by omega)]; exact h2 j (by omega)
  · rw [if_neg (show ¬ j + 1 < p by omega), if_neg (show ¬ j + 1 = p by omega), if_neg (show ¬ j < p by omega), Nat.add_sub_cancel]
    by_cases e : j = p
    · rw [if_pos e, e]; exact h3 (by omega)
    · rw [if_neg e]
      have := hD (j - 1) (by omega)
      rw [show j - 1 + 1 = j by omega] at this
      exact this
theorem ins_le {q p v : Nat} {g : Nat → Nat} (hb : ∀ j, j < q → g j ≤ 1000) (hv : v ≤ 1000) : ∀ j, j < q → insq p v g j ≤ 1000 := by
  intro j hj
  unfold insq
  split
  · exact hb j hj
  · split
    · exact hv
    · exact hb (j - 1) (by omega)
theorem rst_ok {q v : Nat} {s : Nat × (Nat → Nat)} (hq : 1 ≤ q) (hv : v ≤ 1000) (I : RIN q s) : RIN q (rst q v s) ∧ ∃ p, PP q p v s.2 ∧ ∀ j, j < q → (rst q v s).2 j = insq p v s.2 j := by
  obtain ⟨n, g⟩ := s
  obtain ⟨i1, i2, i3, i4⟩ := I
  have i1 : n ≤ q := i1
  have i2 : DS q g := i2
  have i3 : ∀ j, j < q → g j ≤ 1000 := i3
  have i4 : ∀ j, n ≤ j → j < q → g j = 0 := i4
  have low : ∀ k, k ≤ q → ∀ j, j < dnk g v k → v ≤ g j := by
    intro k hk j hj
    obtain ⟨d1, d2, d3⟩ := dnk_spec (g := g) (v := v) k
    have a := d2 (by omega)
    have b := DS_le i2 (i := j) (dnk g v k - 1 - j) (by omega)
    rw [show j + (dnk g v k - 1 - j) = dnk g v k - 1 by omega] at b
    omega
  unfold rst
  by_cases c : n < q
  · obtain ⟨d1, d2, d3⟩ := dnk_spec (g := g) (v := v) n
    have hP : PP q (dnk g v n) v g := by
      refine ⟨by omega, low n i1, fun z => ?_⟩
      by_cases e : dnk g v n = n
      · rw [e, i4 n (Nat.le_refl n) c]; omega
      · have := d3 (by omega); omega
    rw [if_pos (show (n, g).1 < q from c)]
    refine ⟨⟨c, ins_DS i2 hP, ins_le i3 hv, fun j h1 h2 => ?_⟩, _, hP, fun j _ => rfl⟩
    have h1 : n + 1 ≤ j := h1
    show insq (dnk g v n) v g j = 0
    unfold insq
    rw [if_neg (by omega), if_neg (by omega)]
    exact i4 (j - 1) (by omega) (by omega)
  · rw [if_neg (show ¬ (n, g).1 < q from c)]
    by_cases c2 : g (q - 1) < v
    · obtain ⟨d1, d2, d3⟩ := dnk_spec (g := g) (v := v) (q - 1)
      have hP : PP q (dnk g v (q - 1)) v g := by
        refine ⟨by omega, low (q - 1) (by omega), fun z => ?_⟩
        by_cases e : dnk g v (q - 1) = q - 1
        · rw [e]; omega
        · have := d3 (by omega); omega
      rw [if_pos (show (n, g).2 (q - 1) < v from c2)]
      refine ⟨⟨i1, ins_DS i2 hP, ins_le i3 hv, fun j h1 h2 => ?_⟩, _, hP, fun j _ => rfl⟩
      have h1 : n ≤ j := h1
      omega
    · rw [if_neg (show ¬ (n, g).2 (q - 1) < v from c2)]
      refine ⟨⟨i1, i2, i3, i4⟩, q, ⟨Nat.le_refl q, fun j hj => ?_, fun z => absurd z (Nat.lt_irrefl q)⟩, fun j hj => ?_⟩
      · have b := DS_le i2 (i := j) (q - 1 - j) (by omega)
        rw [show j + (q - 1 - j) = q - 1 by omega] at b
        show v ≤ g j
        omega
      · show g j = insq q v g j
        unfold insq
        rw [if_pos hj]
section GRE
variable {X : MX} {t : Nat} {h B : MH} {D : LD} {S IM KP : Nat → Int32}
theorem c_keep_lp {g : Nat → Nat} {q p v : Nat} {a1 : Value} (h53 : hg h 53 = oB 7 [.ref 1, .ref 54]) (hq : q ≤ 10) (hD : DS q g) (hP : PP q p v g) (hb : ∀ j, j < q → g j ≤ 1000) (hv : v ≤ 1000) : ∀ (d i : Nat) (A : Nat → Int32) (a5 : Value), i + d = q → (∀ j, j < i → A j = nI (insq p v g j)) → (∀ j, i ≤ j → j < q → A j = nI (g j)) → ∃ A' : Nat → Int32, (∀ j, j < q → A' j = nI (insq p v g j)) ∧ ev X 75 5 [.ref 53, a1, .int (nI q), .int (nI (crr p v g i)), .int (nI i), a5] [] (hp h 54 (iA 10 A)) = some (none, hp h 54 (iA 10 A'))
  | 0, i, A, a5, e, h1, h2 => by
    have e : i = q := by omega
    subst e
    have l := nI_nlt (Nat.le_refl i) (show i < 2 ^ 31 by omega)
    refine ⟨A, h1, ?_⟩
    rw [s75_5]
    simp only [s75_0, s75_1, s75_2, s75_3, s75_7, s75_8, s75_11, s75_12, s75_15, s75_17, s75_18, s75_20, s75_21, s75_23, s75_26, s75_27, s75_30, s75_32, s75_33, s75_34, s75_36, s75_37, s75_40, s75_43, okF, okA, mcC_o, mcF_o, mcT_i, mcT_l, mcT_z, mcT_q, mcN_i, mcN_l, mcN_z, mcN_q, mcI_i, mcI_z, mcL_l, mcQ_q, hg_hp, hp_hp, List.getD_cons_zero, List.getD_cons_succ, List.set_cons_zero, List.set_cons_succ, List.length_cons, List.length_nil, Nat.reduceAdd, Nat.reduceLT, Nat.reduceEqDiff, Nat.lt_add_one, decide_true, decide_false, Bool.and_true, Bool.true_and, Bool.and_false, Bool.false_and, Bool.false_eq_true, if_true, if_false, ↓reduceIte, Option.bind_some, Option.bind_none, kont_v, kont_n, l]
  | d + 1, i, A, a5, e, h1, h2 => by
    have l := nI_lt (show i < q by omega) (show q < 2 ^ 31 by omega)
    have p1 : nI i + 1 = nI (i + 1) := nI_add i 1
    obtain ⟨k1, k2⟩ := keep_st (show i < q by omega) hD hP
    have ec : crr p v g i ≤ 1000 := by
      unfold crr
      split
      · exact hv
      · exact hb (i - 1) (by omega)
    have eg := hb i (by omega)
    have eA := h2 i (Nat.le_refl i) (by omega)
    by_cases c : g i < crr p v g i
    · have lc := nI_lt c (by omega)
      obtain ⟨e1, e2⟩ := k1 c
      obtain ⟨A', g1, g2⟩ := c_keep_lp (a1 := a1) h53 hq hD hP hb hv d (i + 1) (upd A i (nI (crr p v g i))) (.int (nI (g i))) (by omega) (fun j hj => by
        by_cases z : j = i
        · subst z; rw [upd_eq, e1]
        · rw [upd_ne z]; exact h1 j (by omega)) (fun j hj hj2 => by rw [upd_ne (by omega)]; exact h2 j (by omega) hj2)
      rw [e2] at g2
      refine ⟨A', g1, ?_⟩
      rw [← g2, s75_5]
      simp (disch := omega) only [s75_0, s75_1, s75_2, s75_3, s75_7, s75_8, s75_11, s75_12, s75_15, s75_17, s75_18, s75_20, s75_21, s75_23, s75_26, s75_27, s75_30, s75_32, s75_33, s75_34, s75_36, s75_37, s75_40, s75_43, okF, okA, mcC_o, mcF_o, mcT_i, mcT_l, mcT_z, mcT_q, mcN_i, mcN_l, mcN_z, mcN_q, mcI_i, mcI_z, mcL_l, mcQ_q, hg_hp, hp_hp, List.getD_cons_zero, List.getD_cons_succ, List.set_cons_zero, List.set_cons_succ, List.length_cons, List.length_nil, Nat.reduceAdd, Nat.reduceLT, Nat.reduceEqDiff, Nat.lt_add_one, decide_true, decide_false, Bool.and_true, Bool.true_and, Bool.and_false, Bool.false_and, Bool.false_eq_true, if_true, if_false, ↓reduceIte, Option.bind_some, Option.bind_none, kont_v, kont_n, h53, l, p1, nI_clamp, inR_n, eA, lc]
    · have lc := nI_nlt (show crr p v g i ≤ g i by omega) (show g i < 2 ^ 31 by omega)
      obtain ⟨e1, e2⟩ := k2 c
      obtain ⟨A', g1, g2⟩ := c_keep_lp (a1 := a1) h53 hq hD hP hb hv d (i + 1) A (.int (nI (g i))) (by omega) (fun j hj => by
        by_cases z : j = i
        · subst z; rw [eA, e1]
        · exact h1 j (by omega)) (fun j hj hj2 => h2 j (by omega) hj2)
      rw [e2] at g2
      refine ⟨A', g1, ?_⟩
      rw [← g2, s75_5]
      simp (disch := omega) only [s75_0, s75_1, s75_2, s75_3, s75_7, s75_8, s75_11, s75_12, s75_15, s75_17, s75_18, s75_20, s75_21, s75_23, s75_26, s75_27, s75_30, s75_32, s75_33, s75_34, s75_36, s75_37, s75_40, s75_43, okF, okA, mcC_o, mcF_o, mcT_i, mcT_l, mcT_z, mcT_q, mcN_i, mcN_l, mcN_z, mcN_q, mcI_i, mcI_z, mcL_l, mcQ_q, hg_hp, hp_hp, List.getD_cons_zero, List.getD_cons_succ, List.set_cons_zero, List.set_cons_succ, List.length_cons, List.length_nil, Nat.reduceAdd, Nat.reduceLT, Nat.reduceEqDiff, Nat.lt_add_one, decide_true, decide_false, Bool.and_true, Bool.true_and, Bool.and_false, Bool.false_and, Bool.false_eq_true, if_true, if_false, ↓reduceIte, Option.bind_some, Option.bind_none, kont_v, kont_n, h53, l, p1, nI_clamp, inR_n, eA, lc]
theorem c_keep {g : Nat → Nat} {q p v : Nat} (h53 : hg h 53 = oB 7 [.ref 1, .ref 54]) (hq : q ≤ 10) (hD : DS q g) (hP : PP q p v g) (hb : ∀ j, j < q → g j ≤ 1000) (hv : v ≤ 1000) {A : Nat → Int32} (hA : ∀ j, j < q → A j = nI (g j)) : ∃ A' : Nat → Int32, (∀ j, j < q → A' j = nI (insq p v g j)) ∧ (ev X 75 0 [.ref 53, .int (nI v), .int (nI q), .float 0, .float 0, .float 0] [] (hp h 54 (iA 10 A))) = some (none, hp h 54 (iA 10 A')) := by
  obtain ⟨A', g1, g2⟩ := c_keep_lp (X := X) (a1 := .int (nI v)) h53 hq hD hP hb hv q 0 A (.float 0) (by omega) (fun j hj => absurd hj (by omega)) (fun j _ hj => hA j hj)
  rw [show crr p v g 0 = v from if_pos (Nat.zero_le p), nI_0] at g2
  refine ⟨A', g1, ?_⟩
  simp only [s75_0, s75_1, s75_2, s75_3, s75_7, s75_8, s75_11, s75_12, s75_15, s75_17, s75_18, s75_20, s75_21, s75_23, s75_26, s75_27, s75_30, s75_32, s75_33, s75_34, s75_36, s75_37, s75_40, s75_43, okF, okA, mcC_o, mcF_o, mcT_i, mcT_l, mcT_z, mcT_q, mcN_i, mcN_l, mcN_z, mcN_q, mcI_i, mcI_z, mcL_l, mcQ_q, hg_hp, hp_hp, List.getD_cons_zero, List.getD_cons_succ, List.set_cons_zero, List.set_cons_succ, List.length_cons, List.length_nil, Nat.reduceAdd, Nat.reduceLT, Nat.reduceEqDiff, Nat.lt_add_one, decide_true, decide_false, Bool.and_true, Bool.true_and, Bool.and_false, Bool.false_and, Bool.false_eq_true, if_true, if_false, ↓reduceIte, Option.bind_some, Option.bind_none, kont_v, kont_n, g2]
theorem m_down {io wl pl sp wa se bc sv bq : Int32} (h0 : hg h 55 = oB 12 (MO io wl pl sp wa se bc sv bq)) {g : Nat → Nat} {v k0 : Nat} {a1 a2 a3 a4 a5 a6 : Value} (hk0 : k0 < 10) (hb : ∀ j, j < k0 → g j ≤ 1000) (hv : v ≤ 1000) : ∀ (k : Nat) (A : Nat → Int32), k ≤ k0 → (∀ j, j < k → A j = nI (g j)) → (∀ j, k < j → j ≤ k0 → A j = nI (g (j - 1))) → ∃ A' : Nat → Int32, (∀ j, j ≤ k0 → A' j = nI (insq (dnk g v k) v g j)) ∧ ev X 234 130 [.ref 55, a1, a2, a3, a4, a5, a6, .int (nI v), .int (nI k)] [] (hp h 87 (iA 10 A)) = ev X 234 180 [.ref 55, a1, a2, a3, a4, a5, a6, .int (nI v), .int (nI (dnk g v k))] [] (hp h 87 (iA 10 A'))
  | 0, A, hk, h1, h2 => by
    have l : ¬ 0 < nI 0 := by decide
    have c0 : (nI 0).toNatClampNeg = 0 := rfl
    have o0 : inR (nI 0) 10 = true := by decide
    refine ⟨upd A 0 (nI v), fun j hj => ?_, ?_⟩
    · show _ = nI (insq 0 v g j)
      unfold insq
      rw [if_neg (by omega)]
      by_cases z : j = 0
      · subst z; rw [upd_eq, if_pos rfl]
      · rw [upd_ne z, if_neg z]; exact h2 j (by omega) hj
    · rw [s234_130]
      simp only [s234_0, s234_1, s234_3, s234_4, s234_6, s234_8, s234_9, s234_12, s234_14, s234_15, s234_18, s234_21, s234_22, s234_24, s234_25, s234_26, s234_28, s234_29, s234_32, s234_34, s234_35, s234_36, s234_39, s234_40, s234_43, s234_45, s234_46, s234_47, s234_48, s234_49, s234_52, s234_53, s234_54, s234_57, s234_59, s234_60, s234_61, s234_62, s234_63, s234_64, s234_66, s234_69, s234_72, s234_73, s234_76, s234_78, s234_79, s234_80, s234_81, s234_83, s234_85, s234_86, s234_89, s234_91, s234_92, s234_95, s234_97, s234_100, s234_102, s234_103, s234_104, s234_106, s234_108, s234_109, s234_112, s234_114, s234_115, s234_118, s234_119, s234_122, s234_124, s234_125, s234_127, s234_132, s234_135, s234_136, s234_139, s234_141, s234_142, s234_143, s234_144, s234_146, s234_149, s234_150, s234_153, s234_155, s234_156, s234_159, s234_161, s234_162, s234_163, s234_164, s234_165, s234_168, s234_171, s234_172, s234_175, s234_177, s234_179, s234_182, s234_184, s234_185, s234_188, s234_190, s234_191, s234_194, s234_195, s234_198, s234_199, s234_200, s234_202, s234_205, s234_208, s234_209, s234_211, s234_212, s234_214, s234_216, s234_218, s234_221, s234_223, s234_224, s234_227, s234_229, s234_230, s234_231, s234_233, s234_236, s234_239, s234_241, okF, okA, mcC_o, mcF_o, mcT_i, mcT_l, mcT_z, mcT_q, mcN_i, mcN_l, mcN_z, mcN_q, mcI_i, mcI_z, mcL_l, mcQ_q, hg_hp, hp_hp, List.getD_cons_zero, List.getD_cons_succ, List.set_cons_zero, List.set_cons_succ, List.length_cons, List.length_nil, Nat.reduceAdd, Nat.reduceLT, Nat.reduceEqDiff, Nat.lt_add_one, decide_true, decide_false, Bool.and_true, Bool.true_and, Bool.and_false, Bool.false_and, Bool.false_eq_true, if_true, if_false, ↓reduceIte, Option.bind_some, Option.bind_none, kont_v, kont_n, MO_len, MO_40, h0, l, c0, o0]
      rfl
  | k + 1, A, hk, h1, h2 => by
    have l : 0 < nI (k + 1) := nI_lt (a := 0) (b := k + 1) (by omega) (by omega)
    have i1 : nI (k + 1) + -1 = nI k := pk_m1 k
    have i2 : nI (k + 1) - 1 = nI k := nI_sub (a := k + 1) (b := 1) (by omega)
    have eA := h1 k (by omega)
    have eg := hb k (by omega)
    by_cases c : g k < v
    · have lc := nI_lt c (by omega)
      obtain ⟨A', g1, g2⟩ := m_down h0 (a1 := a1) (a2 := a2) (a3 := a3) (a4 := a4) (a5 := a5) (a6 := a6) hk0 hb hv k (upd A (k + 1) (nI (g k))) (by omega) (fun j hj => by rw [upd_ne (by omega)]; exact h1 j (by omega)) (fun j hj hj2 => by
        by_cases z : j = k + 1
        · subst z; rw [upd_eq, Nat.add_sub_cancel]
        · rw [upd_ne z]; exact h2 j (by omega) hj2)
      rw [show dnk g v (k + 1) = dnk g v k from if_pos c]
      refine ⟨A', g1, ?_⟩
      rw [← g2, s234_130]
      simp (disch := omega) only [s234_0, s234_1, s234_3, s234_4, s234_6, s234_8, s234_9, s234_12, s234_14, s234_15, s234_18, s234_21, s234_22, s234_24, s234_25, s234_26, s234_28, s234_29, s234_32, s234_34, s234_35, s234_36, s234_39, s234_40, s234_43, s234_45, s234_46, s234_47, s234_48, s234_49, s234_52, s234_53, s234_54, s234_57, s234_59, s234_60, s234_61, s234_62, s234_63, s234_64, s234_66, s234_69, s234_72, s234_73, s234_76, s234_78, s234_79, s234_80, s234_81, s234_83, s234_85, s234_86, s234_89, s234_91, s234_92, s234_95, s234_97, s234_100, s234_102, s234_103, s234_104, s234_106, s234_108, s234_109, s234_112, s234_114, s234_115, s234_118, s234_119, s234_122, s234_124, s234_125, s234_127, s234_132, s234_135, s234_136, s234_139, s234_141, s234_142, s234_143, s234_144, s234_146, s234_149, s234_150, s234_153, s234_155, s234_156, s234_159, s234_161, s234_162, s234_163, s234_164, s234_165, s234_168, s234_171, s234_172, s234_175, s234_177, s234_179, s234_182, s234_184, s234_185, s234_188, s234_190, s234_191, s234_194, s234_195, s234_198, s234_199, s234_200, s234_202, s234_205, s234_208, s234_209, s234_211, s234_212, s234_214, s234_216, s234_218, s234_221, s234_223, s234_224, s234_227, s234_229, s234_230, s234_231, s234_233, s234_236, s234_239, s234_241, okF, okA, mcC_o, mcF_o, mcT_i, mcT_l, mcT_z, mcT_q, mcN_i, mcN_l, mcN_z, mcN_q, mcI_i, mcI_z, mcL_l, mcQ_q, hg_hp, hp_hp, List.getD_cons_zero, List.getD_cons_succ, List.set_cons_zero, List.set_cons_succ, List.length_cons, List.length_nil, Nat.reduceAdd, Nat.reduceLT, Nat.reduceEqDiff, Nat.lt_add_one, decide_true, decide_false, Bool.and_true, Bool.true_and, Bool.and_false, Bool.false_and, Bool.false_eq_true, if_true, if_false, ↓reduceIte, Option.bind_some, Option.bind_none, kont_v, kont_n, MO_len, MO_40, h0, l, i1, i2, nI_clamp, inR_n, eA, lc]
    · have lc := nI_nlt (show v ≤ g k by omega) (show g k < 2 ^ 31 by omega)
      rw [show dnk g v (k + 1) = k + 1 from if_neg c]
      refine ⟨upd A (k + 1) (nI v), fun j hj => ?_, ?_⟩
      · unfold insq
        by_cases z : j < k + 1
        · rw [if_pos z, upd_ne (by omega)]; exact h1 j z
        · rw [if_neg z]
          by_cases z2 : j = k + 1
          · rw [if_pos z2, z2, upd_eq]
          · rw [if_neg z2, upd_ne z2]; exact h2 j (by omega) hj
      · rw [s234_130]
        simp (disch := omega) only [s234_0, s234_1, s234_3, s234_4, s234_6, s234_8, s234_9, s234_12, s234_14, s234_15, s234_18, s234_21, s234_22, s234_24, s234_25, s234_26, s234_28, s234_29, s234_32, s234_34, s234_35, s234_36, s234_39, s234_40, s234_43, s234_45, s234_46, s234_47, s234_48, s234_49, s234_52, s234_53, s234_54, s234_57, s234_59, s234_60, s234_61, s234_62, s234_63, s234_64, s234_66, s234_69, s234_72, s234_73, s234_76, s234_78, s234_79, s234_80, s234_81, s234_83, s234_85, s234_86, s234_89, s234_91, s234_92, s234_95, s234_97, s234_100, s234_102, s234_103, s234_104, s234_106, s234_108, s234_109, s234_112, s234_114, s234_115, s234_118, s234_119, s234_122, s234_124, s234_125, s234_127, s234_132, s234_135, s234_136, s234_139, s234_141, s234_142, s234_143, s234_144, s234_146, s234_149, s234_150, s234_153, s234_155, s234_156, s234_159, s234_161, s234_162, s234_163, s234_164, s234_165, s234_168, s234_171, s234_172, s234_175, s234_177, s234_179, s234_182, s234_184, s234_185, s234_188, s234_190, s234_191, s234_194, s234_195, s234_198, s234_199, s234_200, s234_202, s234_205, s234_208, s234_209, s234_211, s234_212, s234_214, s234_216, s234_218, s234_221, s234_223, s234_224, s234_227, s234_229, s234_230, s234_231, s234_233, s234_236, s234_239, s234_241, okF, okA, mcC_o, mcF_o, mcT_i, mcT_l, mcT_z, mcT_q, mcN_i, mcN_l, mcN_z, mcN_q, mcI_i, mcI_z, mcL_l, mcQ_q, hg_hp, hp_hp, List.getD_cons_zero, List.getD_cons_succ, List.set_cons_zero, List.set_cons_succ, List.length_cons, List.length_nil, Nat.reduceAdd, Nat.reduceLT, Nat.reduceEqDiff, Nat.lt_add_one, decide_true, decide_false, Bool.and_true, Bool.true_and, Bool.and_false, Bool.false_and, Bool.false_eq_true, if_true, if_false, ↓reduceIte, Option.bind_some, Option.bind_none, kont_v, kont_n, MO_len, MO_40, h0, l, i2, nI_clamp, inR_n, eA, lc]
end GRE

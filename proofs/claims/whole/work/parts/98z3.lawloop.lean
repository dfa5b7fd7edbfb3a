-- LAW: the loop
section LWL
variable {X : MX}
theorem INV.up {t t' : Nat} {h : MH} (I : INV t h) (ht : t ≤ t') : INV t' h := by
  obtain ⟨D, S, IM, KP, L, F, M, R, N, G⟩ := I
  exact ⟨D, S, IM, KP, L, F, M, R, N.mono ht, G.same ht rfl rfl rfl (fun _ _ => rfl)⟩
theorem rix {i : Nat} (h : i + 7 ≤ X.1) (hX : X.1 ≤ 3584) : RIX X i := by
  have q : ∀ k, k < 7 → inR (nI (i + k)) X.1 = true := fun k hk => inR_n (by omega) (by omega)
  have a : ∀ k, nI i + nI k = nI (i + k) := fun k => nI_add i k
  refine ⟨q 0 (by decide), ?_, ?_, ?_, ?_, ?_, ?_⟩
  · have := q 1 (by decide); rw [← a] at this; exact this
  · have := q 2 (by decide); rw [← a] at this; exact this
  · have := q 3 (by decide); rw [← a] at this; exact this
  · have := q 4 (by decide); rw [← a] at this; exact this
  · have := q 5 (by decide); rw [← a] at this; exact this
  · have := q 6 (by decide); rw [← a] at this; exact this
theorem lw_sw {t i : Nat} {h : MH} (I : INV t h) (ht : t ≤ 1000) (r : RIX X i) (w : Int32) : ∃ h2 : MH, ev X 263 33 [.retAddr 0, .ref 0, .ref 55, .int (nI i)] [.int w] h = ev X 263 1541 [.retAddr 0, .ref 0, .ref 55, .int (nI i)] [] h2 ∧ INV (t + 1) h2 := by
  by_cases z : w.toInt < 0 ∨ 38 < w.toInt
  · exact ⟨h, s263_33_d z, I.up (by omega)⟩
  · have nl : ¬ w < 0 := by rw [Int32.lt_iff_toInt_lt, z_toInt]; omega
    obtain ⟨j, hj, rfl⟩ := nI_of nl
    rw [nI_toInt hj] at z
    rcases (by omega : j = 0 ∨ j = 1 ∨ j = 2 ∨ j = 3 ∨ j = 4 ∨ j = 5 ∨ j = 6 ∨ j = 7 ∨ j = 8 ∨ j = 9 ∨ j = 10 ∨ j = 11 ∨ j = 12 ∨ j = 13 ∨ j = 14 ∨ j = 15 ∨ j = 16 ∨ j = 17 ∨ j = 18 ∨ j = 19 ∨ j = 20 ∨ j = 21 ∨ j = 22 ∨ j = 23 ∨ j = 24 ∨ j = 25 ∨ j = 26 ∨ j = 27 ∨ j = 28 ∨ j = 29 ∨ j = 30 ∨ j = 31 ∨ j = 32 ∨ j = 33 ∨ j = 34 ∨ j = 35 ∨ j = 36 ∨ j = 37 ∨ j = 38) with rfl | rfl | rfl | rfl | rfl | rfl | rfl | rfl | rfl | rfl | rfl | rfl | rfl | rfl | rfl | rfl | rfl | rfl | rfl | rfl | rfl | rfl | rfl | rfl | rfl | rfl | rfl | rfl | rfl | rfl | rfl | rfl | rfl | rfl | rfl | rfl | rfl | rfl | rfl
    · obtain ⟨h2, e, J⟩ := lw_0 I ht r
      exact ⟨h2, (show ev X 263 33 [.retAddr 0, .ref 0, .ref 55, .int (nI i)] [.int 0] h = _ from s263_33_0).trans e, J⟩
    · obtain ⟨h2, e, J⟩ := lw_1 I ht r
      exact ⟨h2, (show ev X 263 33 [.retAddr 0, .ref 0, .ref 55, .int (nI i)] [.int 1] h = _ from s263_33_1).trans e, J⟩
    · obtain ⟨h2, e, J⟩ := lw_2 I ht r
      exact ⟨h2, (show ev X 263 33 [.retAddr 0, .ref 0, .ref 55, .int (nI i)] [.int 2] h = _ from s263_33_2).trans e, J⟩
    · obtain ⟨h2, e, J⟩ := lw_3 I ht r
      exact ⟨h2, (show ev X 263 33 [.retAddr 0, .ref 0, .ref 55, .int (nI i)] [.int 3] h = _ from s263_33_3).trans e, J⟩
    · obtain ⟨h2, e, J⟩ := lw_4 I ht r
      exact ⟨h2, (show ev X 263 33 [.retAddr 0, .ref 0, .ref 55, .int (nI i)] [.int 4] h = _ from s263_33_4).trans e, J⟩
    · obtain ⟨h2, e, J⟩ := lw_5 I ht r
      exact ⟨h2, (show ev X 263 33 [.retAddr 0, .ref 0, .ref 55, .int (nI i)] [.int 5] h = _ from s263_33_5).trans e, J⟩
    · obtain ⟨h2, e, J⟩ := lw_6 I ht r
      exact ⟨h2, (show ev X 263 33 [.retAddr 0, .ref 0, .ref 55, .int (nI i)] [.int 6] h = _ from s263_33_6).trans e, J⟩
    · obtain ⟨h2, e, J⟩ := lw_7 I ht r
      exact ⟨h2, (show ev X 263 33 [.retAddr 0, .ref 0, .ref 55, .int (nI i)] [.int 7] h = _ from s263_33_7).trans e, J⟩
    · obtain ⟨h2, e, J⟩ := lw_8 I ht r
      exact ⟨h2, (show ev X 263 33 [.retAddr 0, .ref 0, .ref 55, .int (nI i)] [.int 8] h = _ from s263_33_8).trans e, J⟩
    · obtain ⟨h2, e, J⟩ := lw_9 I ht r
      exact ⟨h2, (show ev X 263 33 [.retAddr 0, .ref 0, .ref 55, .int (nI i)] [.int 9] h = _ from s263_33_9).trans e, J⟩
    · obtain ⟨h2, e, J⟩ := lw_10 I ht r
      exact ⟨h2, (show ev X 263 33 [.retAddr 0, .ref 0, .ref 55, .int (nI i)] [.int 10] h = _ from s263_33_10).trans e, J⟩
    · obtain ⟨h2, e, J⟩ := lw_11 I ht r
      exact ⟨h2, (show ev X 263 33 [.retAddr 0, .ref 0, .ref 55, .int (nI i)] [.int 11] h = _ from s263_33_11).trans e, J⟩
    · obtain ⟨h2, e, J⟩ := lw_12 I ht r
      exact ⟨h2, (show ev X 263 33 [.retAddr 0, .ref 0, .ref 55, .int (nI i)] [.int 12] h = _ from s263_33_12).trans e, J⟩
    · obtain ⟨h2, e, J⟩ := lw_13 I ht r
      exact ⟨h2, (show ev X 263 33 [.retAddr 0, .ref 0, .ref 55, .int (nI i)] [.int 13] h = _ from s263_33_13).trans e, J⟩
    · obtain ⟨h2, e, J⟩ := lw_14 I ht r
      exact ⟨h2, (show ev X 263 33 [.retAddr 0, .ref 0, .ref 55, .int (nI i)] [.int 14] h = _ from s263_33_14).trans e, J⟩
    · obtain ⟨h2, e, J⟩ := lw_15 I ht r
      exact ⟨h2, (show ev X 263 33 [.retAddr 0, .ref 0, .ref 55, .int (nI i)] [.int 15] h = _ from s263_33_15).trans e, J⟩
    · obtain ⟨h2, e, J⟩ := lw_16 I ht r
      exact ⟨h2, (show ev X 263 33 [.retAddr 0, .ref 0, .ref 55, .int (nI i)] [.int 16] h = _ from s263_33_16).trans e, J⟩
    · obtain ⟨h2, e, J⟩ := lw_17 I ht r
      exact ⟨h2, (show ev X 263 33 [.retAddr 0, .ref 0, .ref 55, .int (nI i)] [.int 17] h = _ from s263_33_17).trans e, J⟩
    · obtain ⟨h2, e, J⟩ := lw_18 I ht r
      exact ⟨h2, (show ev X 263 33 [.retAddr 0, .ref 0, .ref 55, .int (nI i)] [.int 18] h = _ from s263_33_18).trans e, J⟩
    · obtain ⟨h2, e, J⟩ := lw_19 I ht r
      exact ⟨h2, (show ev X 263 33 [.retAddr 0, .ref 0, .ref 55, .int (nI i)] [.int 19] h = _ from s263_33_19).trans e, J⟩
    · obtain ⟨h2, e, J⟩ := lw_20 I ht r
      exact ⟨h2, (show ev X 263 33 [.retAddr 0, .ref 0, .ref 55, .int (nI i)] [.int 20] h = _ from s263_33_20).trans e, J⟩
    · obtain ⟨h2, e, J⟩ := lw_21 I ht r
      exact ⟨h2, (show ev X 263 33 [.retAddr 0, .ref 0, .ref 55, .int (nI i)] [.int 21] h = _ from s263_33_21).trans e, J⟩
    · obtain ⟨h2, e, J⟩ := lw_22 I ht r
      exact ⟨h2, (show ev X 263 33 [.retAddr 0, .ref 0, .ref 55, .int (nI i)] [.int 22] h = _ from s263_33_22).trans e, J⟩
    · obtain ⟨h2, e, J⟩ := lw_23 I ht r
      exact ⟨h2, (show ev X 263 33 [.retAddr 0, .ref 0, .ref 55, .int (nI i)] [.int 23] h = _ from s263_33_23).trans e, J⟩
    · obtain ⟨h2, e, J⟩ := lw_24 I ht r
      exact ⟨h2, (show ev X 263 33 [.retAddr 0, .ref 0, .ref 55, .int (nI i)] [.int 24] h = _ from s263_33_24).trans e, J⟩
    · obtain ⟨h2, e, J⟩ := lw_25 I ht r
      exact ⟨h2, (show ev X 263 33 [.retAddr 0, .ref 0, .ref 55, .int (nI i)] [.int 25] h = _ from s263_33_25).trans e, J⟩
    · obtain ⟨h2, e, J⟩ := lw_26 I ht r
      exact ⟨h2, (show ev X 263 33 [.retAddr 0, .ref 0, .ref 55, .int (nI i)] [.int 26] h = _ from s263_33_26).trans e, J⟩
    · obtain ⟨h2, e, J⟩ := lw_27 I ht r
      exact ⟨h2, (show ev X 263 33 [.retAddr 0, .ref 0, .ref 55, .int (nI i)] [.int 27] h = _ from s263_33_27).trans e, J⟩
    · obtain ⟨h2, e, J⟩ := lw_28 I ht r
      exact ⟨h2, (show ev X 263 33 [.retAddr 0, .ref 0, .ref 55, .int (nI i)] [.int 28] h = _ from s263_33_28).trans e, J⟩
    · obtain ⟨h2, e, J⟩ := lw_29 I ht r
      exact ⟨h2, (show ev X 263 33 [.retAddr 0, .ref 0, .ref 55, .int (nI i)] [.int 29] h = _ from s263_33_29).trans e, J⟩
    · obtain ⟨h2, e, J⟩ := lw_30 I ht r
      exact ⟨h2, (show ev X 263 33 [.retAddr 0, .ref 0, .ref 55, .int (nI i)] [.int 30] h = _ from s263_33_30).trans e, J⟩
    · obtain ⟨h2, e, J⟩ := lw_31 I ht r
      exact ⟨h2, (show ev X 263 33 [.retAddr 0, .ref 0, .ref 55, .int (nI i)] [.int 31] h = _ from s263_33_31).trans e, J⟩
    · obtain ⟨h2, e, J⟩ := lw_32 I ht r
      exact ⟨h2, (show ev X 263 33 [.retAddr 0, .ref 0, .ref 55, .int (nI i)] [.int 32] h = _ from s263_33_32).trans e, J⟩
    · obtain ⟨h2, e, J⟩ := lw_33 I ht r
      exact ⟨h2, (show ev X 263 33 [.retAddr 0, .ref 0, .ref 55, .int (nI i)] [.int 33] h = _ from s263_33_33).trans e, J⟩
    · obtain ⟨h2, e, J⟩ := lw_34 I ht r
      exact ⟨h2, (show ev X 263 33 [.retAddr 0, .ref 0, .ref 55, .int (nI i)] [.int 34] h = _ from s263_33_34).trans e, J⟩
    · obtain ⟨h2, e, J⟩ := lw_35 I ht r
      exact ⟨h2, (show ev X 263 33 [.retAddr 0, .ref 0, .ref 55, .int (nI i)] [.int 35] h = _ from s263_33_35).trans e, J⟩
    · obtain ⟨h2, e, J⟩ := lw_36 I ht r
      exact ⟨h2, (show ev X 263 33 [.retAddr 0, .ref 0, .ref 55, .int (nI i)] [.int 36] h = _ from s263_33_36).trans e, J⟩
    · obtain ⟨h2, e, J⟩ := lw_37 I ht r
      exact ⟨h2, (show ev X 263 33 [.retAddr 0, .ref 0, .ref 55, .int (nI i)] [.int 37] h = _ from s263_33_37).trans e, J⟩
    · obtain ⟨h2, e, J⟩ := lw_38 I ht r
      exact ⟨h2, (show ev X 263 33 [.retAddr 0, .ref 0, .ref 55, .int (nI i)] [.int 38] h = _ from s263_33_38).trans e, J⟩
theorem law_end {n m : Nat} (hn : n ≤ 3584) (hm : m ≤ 3600) (h : n < m + 7) : nI n - 7 < nI m := by
  by_cases z : 7 ≤ n
  · have e : nI n - 7 = nI (n - 7) := by
      have := nI_add (n - 7) 7
      rw [show n - 7 + 7 = n by omega] at this
      rw [← this]
      exact Int32.add_sub_cancel _ _
    rw [e]
    exact nI_lt (by omega) (by omega)
  · have q : ∀ n, n < 7 → nI n - 7 < 0 := by decide
    have q1 := q n (by omega)
    rw [Int32.lt_iff_toInt_lt, z_toInt] at q1
    rw [Int32.lt_iff_toInt_lt, nI_toInt (by omega)]
    omega
theorem law_on {n m : Nat} (hn : n ≤ 3584) (h : m + 7 ≤ n) : ¬ nI n - 7 < nI m := by
  have e : nI n - 7 = nI (n - 7) := by
    have := nI_add (n - 7) 7
    rw [show n - 7 + 7 = n by omega] at this
    rw [← this]
    exact Int32.add_sub_cancel _ _
  rw [e]
  exact nI_nlt (by omega) (by omega)
theorem law_lp (hX : X.1 ≤ 3584) : ∀ (d t : Nat) (h : MH), X.1 < 7 * (t + d) → 7 * t ≤ 3590 → INV t h → ∃ (t' : Nat) (h1 : MH), ev X 263 18 [.retAddr 0, .ref 0, .ref 55, .int (nI (7 * t))] [] h = some (some (.int 1), h1) ∧ INV t' h1 := by
  intro d
  induction d with
  | zero =>
    intro t h hd hm I
    have l : Int32.ofNat X.1 - 7 < nI (7 * t) := law_end hX (by omega) (by omega)
    refine ⟨t, h, ?_, I⟩
    simp only [s263_18, s263_19, s263_20, s263_21, s263_23, s263_24, s263_1547, s263_1548, okF, okA, mcC_o, mcF_o, mcT_i, mcT_l, mcT_z, mcT_q, mcN_i, mcN_l, mcN_z, mcN_q, mcI_i, mcI_z, mcL_l, mcQ_q, hg_hp, hp_hp, List.getD_cons_zero, List.getD_cons_succ, List.set_cons_zero, List.set_cons_succ, List.length_cons, List.length_nil, Nat.reduceAdd, Nat.reduceLT, Nat.reduceEqDiff, Nat.lt_add_one, decide_true, decide_false, Bool.and_true, Bool.true_and, Bool.and_false, Bool.false_and, Bool.false_eq_true, if_true, if_false, ↓reduceIte, Option.bind_some, Option.bind_none, kont_v, kont_n, l, b11]
  | succ d ih =>
    intro t h hd hm I
    by_cases z : X.1 < 7 * t + 7
    · have l : Int32.ofNat X.1 - 7 < nI (7 * t) := law_end hX (by omega) z
      refine ⟨t, h, ?_, I⟩
      simp only [s263_18, s263_19, s263_20, s263_21, s263_23, s263_24, s263_1547, s263_1548, okF, okA, mcC_o, mcF_o, mcT_i, mcT_l, mcT_z, mcT_q, mcN_i, mcN_l, mcN_z, mcN_q, mcI_i, mcI_z, mcL_l, mcQ_q, hg_hp, hp_hp, List.getD_cons_zero, List.getD_cons_succ, List.set_cons_zero, List.set_cons_succ, List.length_cons, List.length_nil, Nat.reduceAdd, Nat.reduceLT, Nat.reduceEqDiff, Nat.lt_add_one, decide_true, decide_false, Bool.and_true, Bool.true_and, Bool.and_false, Bool.false_and, Bool.false_eq_true, if_true, if_false, ↓reduceIte, Option.bind_some, Option.bind_none, kont_v, kont_n, l, b11]
    · have l : ¬ Int32.ofNat X.1 - 7 < nI (7 * t) := law_on hX (by omega)
      have r := rix (X := X) (i := 7 * t) (by omega) hX
      have r0 := r.1
      have p : nI (7 * t) + 7 = nI (7 * (t + 1)) := nI_add (7 * t) 7
      obtain ⟨h2, e, J⟩ := lw_sw (X := X) I (by omega) r (X.2 (nI (7 * t)).toNatClampNeg &&& 63)
      obtain ⟨t', h1, e1, J1⟩ := ih (t + 1) h2 (by omega) (by omega) J
      have st : ev X 263 18 [.retAddr 0, .ref 0, .ref 55, .int (nI (7 * t))] [] h = ev X 263 33 [.retAddr 0, .ref 0, .ref 55, .int (nI (7 * t))] [.int (X.2 (nI (7 * t)).toNatClampNeg &&& 63)] h := by
        simp only [s263_18, s263_19, s263_20, s263_21, s263_23, s263_24, s263_27, s263_28, s263_29, s263_30, s263_32, okF, okA, mcC_o, mcF_o, mcT_i, mcT_l, mcT_z, mcT_q, mcN_i, mcN_l, mcN_z, mcN_q, mcI_i, mcI_z, mcL_l, mcQ_q, hg_hp, hp_hp, List.getD_cons_zero, List.getD_cons_succ, List.set_cons_zero, List.set_cons_succ, List.length_cons, List.length_nil, Nat.reduceAdd, Nat.reduceLT, Nat.reduceEqDiff, Nat.lt_add_one, decide_true, decide_false, Bool.and_true, Bool.true_and, Bool.and_false, Bool.false_and, Bool.false_eq_true, if_true, if_false, ↓reduceIte, Option.bind_some, Option.bind_none, kont_v, kont_n, l, r0]
      have en : ev X 263 1541 [.retAddr 0, .ref 0, .ref 55, .int (nI (7 * t))] [] h2 = ev X 263 18 [.retAddr 0, .ref 0, .ref 55, .int (nI (7 * (t + 1)))] [] h2 := by
        rw [s263_1541, s263_1544, p]
      exact ⟨t', h1, st.trans (e.trans (en.trans e1)), J1⟩
theorem cnt_1 (o : Option Nat) : cnt01 o ≤ 1 := by
  unfold cnt01
  split <;> omega
theorem law_fin (hX : X.1 ≤ 3584) (I : ∃ h0, ev X 263 0 [.retAddr 0, .float 0, .float 0, .float 0] [] h00 = ev X 263 18 [.retAddr 0, .ref 0, .ref 55, .int 0] [] h0 ∧ INV 0 h0) : ∃ h1 : MH, ev X 263 0 [.retAddr 0, .float 0, .float 0, .float 0] [] h00 = some (some (.int 1), h1) ∧ h1.1 ≤ 600000 ∧ h1.2.1 ≤ 7302250 := by
  obtain ⟨h0, e0, I0⟩ := I
  obtain ⟨t, h1, e1, J⟩ := law_lp hX 513 0 h0 (by omega) (by omega) I0
  obtain ⟨D, S, IM, KP, L, F, M, R, N, q, g1, g2, g3, g4, g5⟩ := J
  have c0 := cnt_1 (q 0)
  have c1 := cnt_1 (q 1)
  exact ⟨h1, e0.trans e1, by omega, by omega⟩
end LWL

-- CALLS 1: rows that are added, numbers that are told
/-- whether a row is there -/
def hs (n : Nat) (i : Int32) : Int32 := if i < 0 then 0 else if i < nI n then 1 else 0
theorem hs_case {n : Nat} (hn : n < 2 ^ 31) (i : Int32) : hs n i = 0 ∨ (hs n i = 1 ∧ ∃ k, k < n ∧ i = nI k) := by
  unfold hs
  by_cases h1 : i < 0
  · rw [if_pos h1]; exact Or.inl rfl
  · rw [if_neg h1]
    by_cases h2 : i < nI n
    · rw [if_pos h2]
      obtain ⟨k, hk, rfl⟩ := nI_of h1
      exact Or.inr ⟨rfl, k, (nI_ltI hk hn).mp h2, rfl⟩
    · rw [if_neg h2]; exact Or.inl rfl
theorem hs_n {n k : Nat} (h : k < n) (hn : n < 2 ^ 31) : hs n (nI k) = 1 := by
  unfold hs
  rw [if_neg (nI_pos (by omega)), if_pos (nI_lt h hn)]
theorem wi_hs {n : Nat} (hn : n < 2 ^ 31) (i : Int32) : wi i 0 (nI n - 1) = hs n i := by
  unfold wi hs
  by_cases h1 : i < 0
  · rw [if_pos h1, if_pos h1]
  · rw [if_neg h1, if_neg h1]
    obtain ⟨k, hk, rfl⟩ := nI_of h1
    have e : (nI n - 1).toInt = (n : Int) - 1 := by
      cases n with
      | zero => decide
      | succ m => rw [nI_pred, nI_toInt (by omega)]; omega
    have q : (nI n - 1 < nI k) ↔ ¬ nI k < nI n := by
      rw [Int32.lt_iff_toInt_lt, e, Int32.lt_iff_toInt_lt, nI_toInt hk, nI_toInt hn]
      omega
    by_cases h2 : nI k < nI n
    · rw [if_pos h2, if_neg (fun z => q.mp z h2)]
    · rw [if_neg h2, if_pos (q.mpr h2)]
theorem wi_1 {v a b : Int32} (h : ¬ wi v a b = 0) : wi v a b = 1 ∧ wit v a b := by
  by_cases q : wit v a b
  · exact ⟨wi_pos q, q⟩
  · exact absurd (wi_neg q) h
theorem wit_n {v : Int32} {a b : Nat} (hb : b < 2 ^ 31) (h : wit v (nI a) (nI b)) (ha : a ≤ b) : ∃ k, a ≤ k ∧ k ≤ b ∧ v = nI k := by
  obtain ⟨h1, h2⟩ := h
  have h3 : ¬ v < 0 := by
    rw [Int32.lt_iff_toInt_lt] at h1 ⊢
    rw [nI_toInt (by omega)] at h1
    rw [show (0 : Int32).toInt = 0 by decide]
    omega
  obtain ⟨k, hk, rfl⟩ := nI_of h3
  have q1 : ¬ k < a := fun z => h1 ((nI_ltI hk (by omega)).mpr z)
  have q2 : ¬ b < k := fun z => h2 ((nI_ltI hb hk).mpr z)
  exact ⟨k, by omega, by omega, rfl⟩
theorem fu_fu {α : Type} (f : Nat → α) (i : Nat) (a b : α) : fu (fu f i a) i b = fu f i b := by
  funext j
  unfold fu
  split <;> rfl
theorem fu_id {α : Type} (f : Nat → α) (i : Nat) : fu f i (f i) = f := by
  funext j
  unfold fu
  split
  · rename_i h; rw [h]
  · rfl
theorem FC_lg {c : MC} : ∀ k, 0 < k → k < 20 → FC k c
  | 1, _, _ => trivial
  | 2, _, _ => trivial
  | 3, _, _ => trivial
  | 4, _, _ => trivial
  | 5, _, _ => trivial
  | 6, _, _ => trivial
  | 7, _, _ => trivial
  | 8, _, _ => trivial
  | 9, _, _ => trivial
  | 10, _, _ => trivial
  | 11, _, _ => trivial
  | 12, _, _ => trivial
  | 13, _, _ => trivial
  | 14, _, _ => trivial
  | 15, _, _ => trivial
  | 16, _, _ => trivial
  | 17, _, _ => trivial
  | 18, _, _ => trivial
  | 19, _, _ => trivial
  | 0, h, _ => absurd h (by decide)
  | k + 20, _, h => absurd h (by omega)
section CL1
variable {X : MX} {t : Nat} {h : MH} {D : LD} {S IM KP : Nat → Int32}
theorem RCC (R : REL D S) : S 0 = nI (D.1 0) ∧ S 1 = nI (D.1 1) ∧ S 2 = nI (D.1 2) ∧ S 3 = nI (D.1 3) ∧ S 4 = nI (D.1 5) ∧ S 5 = nI (D.1 6) ∧ S 6 = nI (D.1 7) ∧ S 7 = D.2.2 := ⟨R.1 0 (by decide) (by decide), R.1 1 (by decide) (by decide), R.1 2 (by decide) (by decide), R.1 3 (by decide) (by decide), R.1 5 (by decide) (by decide), R.1 6 (by decide) (by decide), R.1 7 (by decide) (by decide), R.2.1⟩
theorem LBD (L : LG h 1 D) : D.1 0 ≤ 20 ∧ D.1 1 ≤ 16 ∧ D.1 2 ≤ 120 ∧ D.1 3 ≤ 6 ∧ D.1 5 ≤ 8 ∧ D.1 6 ≤ 60 ∧ D.1 7 ≤ 60 := ⟨(L.2 0 (by decide)).2, (L.2 1 (by decide)).2, (L.2 2 (by decide)).2, (L.2 3 (by decide)).2, (L.2 5 (by decide)).2, (L.2 6 (by decide)).2, (L.2 7 (by decide)).2⟩
theorem REL.s (R : REL D S) {i c : Nat} (hi : i < 9) (h2 : i ≠ 2) (hc : c < ssz i) {k : Nat} (ek : k = soff i + c) : S k = D.2.1 i c := by rw [ek]; exact R.2.2.2.1 i hi h2 c hc
theorem CA.tab {j : Nat} {a : List Value} {v : Value} (F : FIX h) (L : LG h 1 D) {i : Nat} (hi : i < 9) {n : Nat} (hn : n ≤ tcap i) {g : Nat → Int32} (e : ev X j 0 a [] h = some (some v, hp (hp h (1 + 1 + 2 * i) (oB 10 [.int (nI (tcap i)), .int (nI (twid i)), .ref (1 + 2 + 2 * i), .int (nI n)])) (1 + 2 + 2 * i) (iA (tcap i * twid i) g))) : CA X j a h v (fu D.1 i n, fu D.2.1 i g, D.2.2) :=
  ⟨_, e, ((COK.refl F).put (k := 1 + 1 + 2 * i) (by omega) (FC_lg _ (by omega) (by omega))).put (k := 1 + 2 + 2 * i) (by omega) (FC_lg _ (by omega) (by omega)), (L.rows hi hn).put hi g⟩
theorem CA.cells {j : Nat} {a : List Value} {v : Value} (F : FIX h) (L : LG h 1 D) {i : Nat} (hi : i < 9) {g : Nat → Int32} (e : ev X j 0 a [] h = some (some v, hp h (1 + 2 + 2 * i) (iA (tcap i * twid i) g))) : CA X j a h v (D.1, fu D.2.1 i g, D.2.2) :=
  ⟨_, e, (COK.refl F).put (k := 1 + 2 + 2 * i) (by omega) (FC_lg _ (by omega) (by omega)), L.put hi g⟩
theorem CA.rows {j : Nat} {a : List Value} {v : Value} (F : FIX h) (L : LG h 1 D) {i : Nat} (hi : i < 9) {n : Nat} (hn : n ≤ tcap i) (e : ev X j 0 a [] h = some (some v, hp h (1 + 1 + 2 * i) (oB 10 [.int (nI (tcap i)), .int (nI (twid i)), .ref (1 + 2 + 2 * i), .int (nI n)]))) : CA X j a h v (fu D.1 i n, D.2.1, D.2.2) :=
  ⟨_, e, (COK.refl F).put (k := 1 + 1 + 2 * i) (by omega) (FC_lg _ (by omega) (by omega)), L.rows hi hn⟩
theorem MA.st {j : Nat} {a : List Value} {v : Value} (F : FIX h) (M : MD h S IM KP) {S' : Nat → Int32} (e : ev X j 0 a [] h = some (some v, hp h 56 (iA 16450 S'))) : MA X j a h v S' IM KP :=
  ⟨_, e, (MOK.refl F).put (k := 56) (by decide) trivial, M.put S'⟩
theorem step_id (I : INVD t h D S IM KP) {j1 j2 : Nat} {a1 a2 : List Value} {v : Value} (e1 : ev X j1 0 a1 [] h = some (some v, h)) (e2 : ∀ h', (∃ io wl pl sp wa se bc sv bq : Int32, hg h' 55 = oB 12 (MO io wl pl sp wa se bc sv bq)) → hg h' 56 = iA 16450 S → ev X j2 0 a2 [] h' = some (some v, h')) : SAME X t h j1 a1 j2 a2 := by
  have I' := I
  obtain ⟨L, F, M, R, N, G⟩ := I
  exact step_ok I' (CA.id F L e1) (fun h' F' M' => MA.id F' M' (e2 h' F'.c55 M'.1)) R (N.mono (by omega))
theorem TAB.setP {h : MH} {tt c C W Q NN : Nat} {f : Nat → Int32} (T : TAB h tt c C W Q f) (hN : C * W = NN) {r q : Nat} {q' : Int32} (eq : q' = nI q) (hr : r < C) (hq : q < W) (f' : Nat → Int32) (x : Int32) : (ev X 102 0 [.ref tt, .int (nI r), .int q', .int x] [] (hp h c (iA NN f'))) = some (none, (hp h c (iA NN (upd f' (r * W + q) x)))) := by
  subst hN
  have := (T.put f').set' (X := X) (r := r) (q := q) (x := x) rfl eq hr hq
  rw [hp_hp] at this
  exact this
theorem TAB.getP {h : MH} {tt c C W Q NN : Nat} {f : Nat → Int32} (T : TAB h tt c C W Q f) (hN : C * W = NN) {r q : Nat} {q' : Int32} (eq : q' = nI q) (hr : r < C) (hq : q < W) (f' : Nat → Int32) : (ev X 103 0 [.ref tt, .int (nI r), .int q', .float 0] [] (hp h c (iA NN f'))) = some (some (.int (f' (r * W + q))), (hp h c (iA NN f'))) := by
  subst hN
  exact (T.put f').get' (X := X) (r := r) (q := q) rfl eq hr hq
theorem m_oneL {h : MH} {io wl pl sp wa se bc sv bq : Int32} (h0 : hg h 55 = oB 12 (MO io wl pl sp wa se bc sv bq)) (S' : Nat → Int32) : (ev X 157 0 [.ref 55, .int 0] [] (hp h 56 (iA 16450 S'))) = some (some (.int (S' 0)), (hp h 56 (iA 16450 (upd S' 0 (S' 0 + 1))))) ∧ (ev X 157 0 [.ref 55, .int 1] [] (hp h 56 (iA 16450 S'))) = some (some (.int (S' 1)), (hp h 56 (iA 16450 (upd S' 1 (S' 1 + 1))))) ∧ (ev X 157 0 [.ref 55, .int 2] [] (hp h 56 (iA 16450 S'))) = some (some (.int (S' 2)), (hp h 56 (iA 16450 (upd S' 2 (S' 2 + 1))))) ∧ (ev X 157 0 [.ref 55, .int 3] [] (hp h 56 (iA 16450 S'))) = some (some (.int (S' 3)), (hp h 56 (iA 16450 (upd S' 3 (S' 3 + 1))))) ∧ (ev X 157 0 [.ref 55, .int 4] [] (hp h 56 (iA 16450 S'))) = some (some (.int (S' 4)), (hp h 56 (iA 16450 (upd S' 4 (S' 4 + 1))))) ∧ (ev X 157 0 [.ref 55, .int 5] [] (hp h 56 (iA 16450 S'))) = some (some (.int (S' 5)), (hp h 56 (iA 16450 (upd S' 5 (S' 5 + 1))))) ∧ (ev X 157 0 [.ref 55, .int 6] [] (hp h 56 (iA 16450 S'))) = some (some (.int (S' 6)), (hp h 56 (iA 16450 (upd S' 6 (S' 6 + 1))))) := by
  have e := fun (c : Nat) (c' : Int32) (ec : c' = nI c) (hc : c < 16450) => m_one (X := X) (h := hp h 56 (iA 16450 S')) (S := S') ec (by rw [hg_hp, if_neg (by decide)]; exact h0) (by rw [hg_hp, if_pos rfl]) hc
  simp only [hp_hp] at e
  exact ⟨e 0 0 rfl (by decide), e 1 1 rfl (by decide), e 2 2 rfl (by decide), e 3 3 rfl (by decide), e 4 4 rfl (by decide), e 5 5 rfl (by decide), e 6 6 rfl (by decide)⟩
-- phrase
theorem S_phrase (I : INVD t h D S IM KP) : SAME X t h 109 [.ref 0, .float 0] 154 [.ref 55, .float 0] := by
  have I' := I
  obtain ⟨L, F, M, R, N, G⟩ := I
  obtain ⟨z0, -⟩ := RCC R
  refine step_ok I' (CA.rows F L (i := 0) (n := 0) (by decide) (by decide) (C_phrase L F)) (fun h' F' M' => ?_) (R.cnt (i := 0) (by decide) (by decide) (by decide) 0) ?_
  · obtain ⟨io, wl, pl, sp, wa, se, bc, sv, bq, h0⟩ := F'.c55
    refine MA.st F' M' ?_
    simp (disch := omega) only [s154_0, s154_1, s154_4, s154_5, s154_6, s154_7, s154_8, s154_11, s154_12, s154_13, s154_14, s154_15, okF, okA, mcC_o, mcF_o, mcT_i, mcT_l, mcT_z, mcT_q, mcN_i, mcN_l, mcN_z, mcN_q, mcI_i, mcI_z, mcL_l, mcQ_q, hg_hp, hp_hp, List.getD_cons_zero, List.getD_cons_succ, List.set_cons_zero, List.set_cons_succ, List.length_cons, List.length_nil, Nat.reduceAdd, Nat.reduceLT, Nat.reduceEqDiff, Nat.lt_add_one, decide_true, decide_false, Bool.and_true, Bool.true_and, Bool.and_false, Bool.false_and, Bool.false_eq_true, if_true, if_false, ↓reduceIte, Option.bind_some, Option.bind_none, kont_v, kont_n, MO_len, MO_0, upd_eq, upd_ne, updL_eq, updL_ne, nI_clamp, inR_n, nI_add, nI_mul, na_0, nb_0, nm_0, nn_0, ns_0, nc_0, ni_0, na_1, nb_1, nm_1, nn_1, ns_1, nc_1, ni_1, na_2, nb_2, nm_2, nn_2, ns_2, nc_2, ni_2, na_3, nb_3, nm_3, nn_3, ns_3, nc_3, ni_3, na_4, nb_4, nm_4, nn_4, ns_4, nc_4, ni_4, na_5, nb_5, nm_5, nn_5, ns_5, nc_5, ni_5, na_6, nb_6, nm_6, nn_6, ns_6, nc_6, ni_6, na_7, nb_7, nm_7, nn_7, ns_7, nc_7, ni_7, na_8, nb_8, nm_8, nn_8, ns_8, nc_8, ni_8, na_9, nb_9, nm_9, nn_9, ns_9, nc_9, ni_9, na_10, nb_10, nm_10, nn_10, ns_10, nc_10, ni_10, na_11, nb_11, nm_11, nn_11, ns_11, nc_11, ni_11, na_12, nb_12, nm_12, nn_12, ns_12, nc_12, ni_12, na_13, nb_13, nm_13, nn_13, ns_13, nc_13, ni_13, na_14, nb_14, nm_14, nn_14, ns_14, nc_14, ni_14, na_15, nb_15, nm_15, nn_15, ns_15, nc_15, ni_15, na_16, nb_16, nm_16, nn_16, ns_16, nc_16, ni_16, na_17, nb_17, nm_17, nn_17, ns_17, nc_17, ni_17, na_18, nb_18, nm_18, nn_18, ns_18, nc_18, ni_18, na_19, nb_19, nm_19, nn_19, ns_19, nc_19, ni_19, na_20, nb_20, nm_20, nn_20, ns_20, nc_20, ni_20, na_21, nb_21, nm_21, nn_21, ns_21, nc_21, ni_21, na_22, nb_22, nm_22, nn_22, ns_22, nc_22, ni_22, na_23, nb_23, nm_23, nn_23, ns_23, nc_23, ni_23, na_24, nb_24, nm_24, nn_24, ns_24, nc_24, ni_24, na_25, nb_25, nm_25, nn_25, ns_25, nc_25, ni_25, na_26, nb_26, nm_26, nn_26, ns_26, nc_26, ni_26, na_27, nb_27, nm_27, nn_27, ns_27, nc_27, ni_27, na_28, nb_28, nm_28, nn_28, ns_28, nc_28, ni_28, na_29, nb_29, nm_29, nn_29, ns_29, nc_29, ni_29, na_30, nb_30, nm_30, nn_30, ns_30, nc_30, ni_30, na_31, nb_31, nm_31, nn_31, ns_31, nc_31, ni_31, na_32, nb_32, nm_32, nn_32, ns_32, nc_32, ni_32, na_33, nb_33, nm_33, nn_33, ns_33, nc_33, ni_33, na_34, nb_34, nm_34, nn_34, ns_34, nc_34, ni_34, na_35, nb_35, nm_35, nn_35, ns_35, nc_35, ni_35, na_36, nb_36, nm_36, nn_36, ns_36, nc_36, ni_36, na_37, nb_37, nm_37, nn_37, ns_37, nc_37, ni_37, na_38, nb_38, nm_38, nn_38, ns_38, nc_38, ni_38, na_39, nb_39, nm_39, nn_39, ns_39, nc_39, ni_39, na_40, nb_40, nm_40, nn_40, ns_40, nc_40, ni_40, na_41, nb_41, nm_41, nn_41, ns_41, nc_41, ni_41, na_42, nb_42, nm_42, nn_42, ns_42, nc_42, ni_42, na_43, nb_43, nm_43, nn_43, ns_43, nc_43, ni_43, na_44, nb_44, nm_44, nn_44, ns_44, nc_44, ni_44, na_45, nb_45, nm_45, nn_45, ns_45, nc_45, ni_45, na_46, nb_46, nm_46, nn_46, ns_46, nc_46, ni_46, na_47, nb_47, nm_47, nn_47, ns_47, nc_47, ni_47, na_48, nb_48, nm_48, nn_48, ns_48, nc_48, ni_48, na_49, nb_49, nm_49, nn_49, ns_49, nc_49, ni_49, na_50, nb_50, nm_50, nn_50, ns_50, nc_50, ni_50, na_51, nb_51, nm_51, nn_51, ns_51, nc_51, ni_51, na_52, nb_52, nm_52, nn_52, ns_52, nc_52, ni_52, na_53, nb_53, nm_53, nn_53, ns_53, nc_53, ni_53, na_54, nb_54, nm_54, nn_54, ns_54, nc_54, ni_54, na_55, nb_55, nm_55, nn_55, ns_55, nc_55, ni_55, na_56, nb_56, nm_56, nn_56, ns_56, nc_56, ni_56, na_57, nb_57, nm_57, nn_57, ns_57, nc_57, ni_57, na_58, nb_58, nm_58, nn_58, ns_58, nc_58, ni_58, na_59, nb_59, nm_59, nn_59, ns_59, nc_59, ni_59, na_60, nb_60, nm_60, nn_60, ns_60, nc_60, ni_60, na_61, nb_61, nm_61, nn_61, ns_61, nc_61, ni_61, na_62, nb_62, nm_62, nn_62, ns_62, nc_62, ni_62, na_63, nb_63, nm_63, nn_63, ns_63, nc_63, ni_63, na_70, nb_70, nm_70, nn_70, ns_70, nc_70, ni_70, na_100, nb_100, nm_100, nn_100, ns_100, nc_100, ni_100, na_118, nb_118, nm_118, nn_118, ns_118, nc_118, ni_118, na_124, nb_124, nm_124, nn_124, ns_124, nc_124, ni_124, na_127, nb_127, nm_127, nn_127, ns_127, nc_127, ni_127, na_128, nb_128, nm_128, nn_128, ns_128, nc_128, ni_128, na_130, nb_130, nm_130, nn_130, ns_130, nc_130, ni_130, na_148, nb_148, nm_148, nn_148, ns_148, nc_148, ni_148, na_170, nb_170, nm_170, nn_170, ns_170, nc_170, ni_170, na_200, nb_200, nm_200, nn_200, ns_200, nc_200, ni_200, na_300, nb_300, nm_300, nn_300, ns_300, nc_300, ni_300, na_388, nb_388, nm_388, nn_388, ns_388, nc_388, ni_388, na_628, nb_628, nm_628, nn_628, ns_628, nc_628, ni_628, na_646, nb_646, nm_646, nn_646, ns_646, nc_646, ni_646, na_850, nb_850, nm_850, nn_850, ns_850, nc_850, ni_850, na_999, nb_999, nm_999, nn_999, ns_999, nc_999, ni_999, na_1000, nb_1000, nm_1000, nn_1000, ns_1000, nc_1000, ni_1000, na_1001, nb_1001, nm_1001, nn_1001, ns_1001, nc_1001, ni_1001, na_9999, nb_9999, nm_9999, nn_9999, ns_9999, nc_9999, ni_9999, na_16450, nb_16450, nm_16450, nn_16450, ns_16450, nc_16450, ni_16450, h0, M'.1, z0]
    rfl
  · obtain ⟨n1, n2⟩ := N
    exact ⟨fun i hi => absurd hi (by show ¬ i < fu D.1 0 0 0; rw [fu_s]; omega), n2.1, n2.2.1, n2.2.2.1, fun r hr => (RNG.mono (t' := t + 1) ⟨n1, n2⟩ (by omega)).2.2.2.2.1 r hr, n2.2.2.2.2⟩
theorem S_line (I : INVD t h D S IM KP) {w u : Int32} : SAME X t h 113 [.ref 0, .int w, .int u] 158 [.ref 55, .int w, .int u] := by
  have I' := I
  obtain ⟨L, F, M, R, N, G⟩ := I
  have z := RCC R
  have b := LBD L
  refine step_ok I' (C_line F L N.1 b.1 (w := w) (t := u)) (fun h' F' M' => ?_) R (N.mono (by omega))
  exact M_line F' M' N.1 b.1 z.1 (fun i hi => R.s (i := 0) (by decide) (by decide) (by show i < 60; omega) rfl)
theorem S_touch (I : INVD t h D S IM KP) {w : Int32} : SAME X t h 114 [.ref 0, .int w] 160 [.ref 55, .int w, .float 0, .float 0, .float 0] := by
  have I' := I
  obtain ⟨L, F, M, R, N, G⟩ := I
  have z := RCC R
  have b := LBD L
  refine step_ok I' (C_touch F L N.1 b.1 (w := w)) (fun h' F' M' => ?_) R (N.mono (by omega))
  exact M_touch F' M' N.1 b.1 z.1 (fun i hi => R.s (i := 0) (by decide) (by decide) (by show i < 60; omega) rfl)
end CL1

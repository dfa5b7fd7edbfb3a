-- FROM: an image becomes what is told
/-- the reference's row when k numbers of image i are laid into it -/
def frq (IM S : Nat → Int32) (i k : Nat) : Nat → Int32 := fun j => if j < k then IM (16450 * i + j) else S j
theorem frq_0 {IM S : Nat → Int32} {i : Nat} : frq IM S i 0 = S := by
  funext j
  unfold frq
  rw [if_neg (by omega)]
theorem frq_s {IM S : Nat → Int32} {i k : Nat} : upd (frq IM S i k) k (IM (16450 * i + k)) = frq IM S i (k + 1) := by
  funext j
  by_cases e : j = k
  · subst e
    rw [upd_eq]
    unfold frq
    rw [if_pos (by omega)]
  · rw [upd_ne e]
    unfold frq
    by_cases q : j < k
    · rw [if_pos q, if_pos (by omega)]
    · rw [if_neg q, if_neg (by omega)]
section FRM
variable {X : MX} {t : Nat} {h : MH} {D : LD} {S IM KP : Nat → Int32}
theorem m_from_lp {io wl pl sp wa se bc sv bq : Int32} (h0 : hg h 55 = oB 12 (MO io wl pl sp wa se bc sv bq)) (h2 : hg h 57 = iA 32900 IM) {i : Nat} (hi : i < 2) : ∀ (d k : Nat), k + d = 16450 → ev X 236 26 [.ref 55, .int (nI i), .int (nI k)] [] (hp h 56 (iA 16450 (frq IM S i k))) = some (some (.int (1)), (hp h 56 (iA 16450 (frq IM S i 16450))))
  | 0, k, e => by
    have e : k = 16450 := by omega
    have l : ¬ nI 16450 < (16450 : Int32) := by decide
    subst e
    rw [s236_26]
    simp only [s236_0, s236_1, s236_2, s236_3, s236_6, s236_9, s236_11, s236_12, s236_13, s236_16, s236_17, s236_18, s236_21, s236_23, s236_24, s236_25, s236_27, s236_30, s236_33, s236_34, s236_37, s236_38, s236_39, s236_42, s236_45, s236_46, s236_47, s236_48, s236_49, s236_50, s236_51, s236_54, s236_57, s236_58, okF, okA, mcC_o, mcF_o, mcT_i, mcT_l, mcT_z, mcT_q, mcN_i, mcN_l, mcN_z, mcN_q, mcI_i, mcI_z, mcL_l, mcQ_q, hg_hp, hp_hp, List.getD_cons_zero, List.getD_cons_succ, List.set_cons_zero, List.set_cons_succ, List.length_cons, List.length_nil, Nat.reduceAdd, Nat.reduceLT, Nat.reduceEqDiff, Nat.lt_add_one, decide_true, decide_false, Bool.and_true, Bool.true_and, Bool.and_false, Bool.false_and, Bool.false_eq_true, if_true, if_false, ↓reduceIte, Option.bind_some, Option.bind_none, kont_v, kont_n, l]
  | d + 1, k, e => by
    have hk : k < 16450 := by omega
    have l : nI k < (16450 : Int32) := nI_lt (b := 16450) hk (by decide)
    have p1 : nI k + 1 = nI (k + 1) := nI_add k 1
    have p2 : (16450 : Int32) * nI i + nI k = nI (16450 * i + k) := by rw [show (16450 : Int32) = nI 16450 from rfl, nI_mul, nI_add]
    have r1 : inR (nI k) 16450 = true := inR_n hk (by decide)
    have r2 : inR (nI (16450 * i + k)) 32900 = true := inR_n (by omega) (by decide)
    have c1 : (nI k).toNatClampNeg = k := nI_clamp (by omega)
    have c2 : (nI (16450 * i + k)).toNatClampNeg = 16450 * i + k := nI_clamp (by omega)
    have ih := m_from_lp h0 h2 hi d (k + 1) (by omega)
    rw [← ih, s236_26]
    simp only [s236_0, s236_1, s236_2, s236_3, s236_6, s236_9, s236_11, s236_12, s236_13, s236_16, s236_17, s236_18, s236_21, s236_23, s236_24, s236_25, s236_27, s236_30, s236_33, s236_34, s236_37, s236_38, s236_39, s236_42, s236_45, s236_46, s236_47, s236_48, s236_49, s236_50, s236_51, s236_54, s236_57, s236_58, okF, okA, mcC_o, mcF_o, mcT_i, mcT_l, mcT_z, mcT_q, mcN_i, mcN_l, mcN_z, mcN_q, mcI_i, mcI_z, mcL_l, mcQ_q, hg_hp, hp_hp, List.getD_cons_zero, List.getD_cons_succ, List.set_cons_zero, List.set_cons_succ, List.length_cons, List.length_nil, Nat.reduceAdd, Nat.reduceLT, Nat.reduceEqDiff, Nat.lt_add_one, decide_true, decide_false, Bool.and_true, Bool.true_and, Bool.and_false, Bool.false_and, Bool.false_eq_true, if_true, if_false, ↓reduceIte, Option.bind_some, Option.bind_none, kont_v, kont_n, h0, MO_len, MO_0, MO_1, h2, l, p1, p2, r1, r2, c1, c2, frq_s]
theorem M_from {io wl pl sp wa se bc sv bq : Int32} (h0 : hg h 55 = oB 12 (MO io wl pl sp wa se bc sv bq)) (M : MD h S IM KP) {i : Nat} (hi : i < 2) (hk : KP i = 1) : (ev X 236 0 [.ref 55, .int (nI i), .float 0] [] (h)) = some (some (.int (1)), (hp h 56 (iA 16450 (frq IM S i 16450)))) := by
  have lp := m_from_lp (X := X) (S := S) h0 M.2.1 hi 16450 0 (by omega)
  rw [frq_0, hp_self M.1, nI_0] at lp
  have w : wi (nI i) 0 1 = 1 := by
    rcases (by omega : i = 0 ∨ i = 1) with rfl | rfl <;> decide
  have r1 : inR (nI i) 2 = true := inR_n hi (by decide)
  have c1 : (nI i).toNatClampNeg = i := nI_clamp (by omega)
  have n1 : ¬ (1 : Int32) = 0 := by decide
  simp only [s236_0, s236_1, s236_2, s236_3, s236_6, s236_9, s236_11, s236_12, s236_13, s236_16, s236_17, s236_18, s236_21, s236_23, s236_24, s236_25, s236_27, s236_30, s236_33, s236_34, s236_37, s236_38, s236_39, s236_42, s236_45, s236_46, s236_47, s236_48, s236_49, s236_50, s236_51, s236_54, s236_57, s236_58, okF, okA, mcC_o, mcF_o, mcT_i, mcT_l, mcT_z, mcT_q, mcN_i, mcN_l, mcN_z, mcN_q, mcI_i, mcI_z, mcL_l, mcQ_q, hg_hp, hp_hp, List.getD_cons_zero, List.getD_cons_succ, List.set_cons_zero, List.set_cons_succ, List.length_cons, List.length_nil, Nat.reduceAdd, Nat.reduceLT, Nat.reduceEqDiff, Nat.lt_add_one, decide_true, decide_false, Bool.and_true, Bool.true_and, Bool.and_false, Bool.false_and, Bool.false_eq_true, if_true, if_false, ↓reduceIte, Option.bind_some, Option.bind_none, kont_v, kont_n, h0, MO_len, MO_2, M.2.2, hk, m_in, w, r1, c1, lp, n1]
theorem S_from (I : INVD t h D S IM KP) {i : Int32} : SAME X t h 150 [.ref 0, .int i, .float 0] 236 [.ref 55, .int i, .float 0] := by
  have I' := I
  obtain ⟨L, F, M, R, N, G⟩ := I
  obtain ⟨q, g1, g2, g3, g4, g5⟩ := G
  have al : Int32.ofNat 2 - 1 = (1 : Int32) := by decide
  have l3 : (3 : Nat) ≤ 3 := Nat.le_refl 3
  have n1 : ¬ (1 : Int32) = 0 := by decide
  by_cases w : wi i 0 1 = 0
  · refine step_id I' (v := .int (-2)) ?_ (fun h' _ _ => ?_)
    · simp only [s150_0, s150_1, s150_2, s150_3, s150_6, s150_7, s150_8, s150_9, s150_12, s150_15, s150_17, s150_18, s150_19, s150_22, s150_23, s150_24, s150_24n, s150_25, s150_25n, s150_26, s150_26n, s150_29, s150_31, s150_32, s150_33, s150_36, s150_36n, s150_37, s150_40, s150_41, okF, okA, mcC_o, mcF_o, mcT_i, mcT_l, mcT_z, mcT_q, mcN_i, mcN_l, mcN_z, mcN_q, mcI_i, mcI_z, mcL_l, mcQ_q, hg_hp, hp_hp, List.getD_cons_zero, List.getD_cons_succ, List.set_cons_zero, List.set_cons_succ, List.length_cons, List.length_nil, Nat.reduceAdd, Nat.reduceLT, Nat.reduceEqDiff, Nat.lt_add_one, decide_true, decide_false, Bool.and_true, Bool.true_and, Bool.and_false, Bool.false_and, Bool.false_eq_true, if_true, if_false, ↓reduceIte, Option.bind_some, Option.bind_none, kont_v, kont_n, F.c0, c_within, g1, al, l3, w]
    · simp only [s236_0, s236_1, s236_2, s236_3, s236_6, s236_9, s236_11, s236_12, s236_13, s236_16, s236_17, s236_18, s236_21, s236_23, s236_24, s236_25, s236_27, s236_30, s236_33, s236_34, s236_37, s236_38, s236_39, s236_42, s236_45, s236_46, s236_47, s236_48, s236_49, s236_50, s236_51, s236_54, s236_57, s236_58, okF, okA, mcC_o, mcF_o, mcT_i, mcT_l, mcT_z, mcT_q, mcN_i, mcN_l, mcN_z, mcN_q, mcI_i, mcI_z, mcL_l, mcQ_q, hg_hp, hp_hp, List.getD_cons_zero, List.getD_cons_succ, List.set_cons_zero, List.set_cons_succ, List.length_cons, List.length_nil, Nat.reduceAdd, Nat.reduceLT, Nat.reduceEqDiff, Nat.lt_add_one, decide_true, decide_false, Bool.and_true, Bool.true_and, Bool.and_false, Bool.false_and, Bool.false_eq_true, if_true, if_false, ↓reduceIte, Option.bind_some, Option.bind_none, kont_v, kont_n, m_in, w]
  obtain ⟨w1, w2⟩ := wi_1 w
  obtain ⟨k, -, hk, rfl⟩ := wit_n (a := 0) (b := 1) (by decide) w2 (by decide)
  have r1 : inR (nI k) 2 = true := inR_n (by omega) (by decide)
  have c1 : (nI k).toNatClampNeg = k := nI_clamp (by omega)
  rcases g2 k (by omega) with ⟨q1, q2⟩ | ⟨b, q1, q2, hb, hb2, D', LI, RI', NI⟩
  · refine step_ok I' (v := .int (-3)) (CA.id F L ?_) (fun h' F' M' => MA.id F' M' ?_) R (N.mono (by omega))
    · have e : mrf (q k) = .null := by rw [q1]; rfl
      simp only [s150_0, s150_1, s150_2, s150_3, s150_6, s150_7, s150_8, s150_9, s150_12, s150_15, s150_17, s150_18, s150_19, s150_22, s150_23, s150_24, s150_24n, s150_25, s150_25n, s150_26, s150_26n, s150_29, s150_31, s150_32, s150_33, s150_36, s150_36n, s150_37, s150_40, s150_41, okF, okA, mcC_o, mcF_o, mcT_i, mcT_l, mcT_z, mcT_q, mcN_i, mcN_l, mcN_z, mcN_q, mcI_i, mcI_z, mcL_l, mcQ_q, hg_hp, hp_hp, List.getD_cons_zero, List.getD_cons_succ, List.set_cons_zero, List.set_cons_succ, List.length_cons, List.length_nil, Nat.reduceAdd, Nat.reduceLT, Nat.reduceEqDiff, Nat.lt_add_one, decide_true, decide_false, Bool.and_true, Bool.true_and, Bool.and_false, Bool.false_and, Bool.false_eq_true, if_true, if_false, ↓reduceIte, Option.bind_some, Option.bind_none, kont_v, kont_n, F.c0, c_within, g1, al, l3, w1, n1, r1, c1, e]
    · obtain ⟨io, wl, pl, sp, wa, se, bc, sv, bq, h0⟩ := F'.c55
      simp only [s236_0, s236_1, s236_2, s236_3, s236_6, s236_9, s236_11, s236_12, s236_13, s236_16, s236_17, s236_18, s236_21, s236_23, s236_24, s236_25, s236_27, s236_30, s236_33, s236_34, s236_37, s236_38, s236_39, s236_42, s236_45, s236_46, s236_47, s236_48, s236_49, s236_50, s236_51, s236_54, s236_57, s236_58, okF, okA, mcC_o, mcF_o, mcT_i, mcT_l, mcT_z, mcT_q, mcN_i, mcN_l, mcN_z, mcN_q, mcI_i, mcI_z, mcL_l, mcQ_q, hg_hp, hp_hp, List.getD_cons_zero, List.getD_cons_succ, List.set_cons_zero, List.set_cons_succ, List.length_cons, List.length_nil, Nat.reduceAdd, Nat.reduceLT, Nat.reduceEqDiff, Nat.lt_add_one, decide_true, decide_false, Bool.and_true, Bool.true_and, Bool.and_false, Bool.false_and, Bool.false_eq_true, if_true, if_false, ↓reduceIte, Option.bind_some, Option.bind_none, kont_v, kont_n, m_in, w1, n1, h0, MO_len, MO_2, M'.2.2, r1, c1, q2]
  · have e : mrf (q k) = .ref b := by rw [q1]; rfl
    obtain ⟨h1, e1, k1, k2, k3, L1⟩ := c_copy (X := X) (b := 1) (s := b) (by omega) L LI
    have bb : ∀ i, i < 9 → D'.1 i ≤ tcap i := fun i hi => (LI.2 i hi).2
    have A : AGR D' (D'.1, fun i => cpf (tcap i * twid i) (D'.2.1 i) (D.2.1 i), D'.2.2) := ⟨rfl, rfl, fun i hi k hk => cpf_lt hk⟩
    refine step_ok I' (v := .int 1) (D' := (D'.1, fun i => cpf (tcap i * twid i) (D'.2.1 i) (D.2.1 i), D'.2.2)) (S' := frq IM S k 16450) ⟨h1, ?_, ⟨fun j => ?_, k1, k2, k3 20 (by omega), fun j j1 j2 => k3 j (by omega), fun j hj => k3 j (by omega)⟩, L1⟩ (fun h' F' M' => ?_) ?_ ?_
    · simp only [s150_0, s150_1, s150_2, s150_3, s150_6, s150_7, s150_8, s150_9, s150_12, s150_15, s150_17, s150_18, s150_19, s150_22, s150_23, s150_24, s150_24n, s150_25, s150_25n, s150_26, s150_26n, s150_29, s150_31, s150_32, s150_33, s150_36, s150_36n, s150_37, s150_40, s150_41, okF, okA, mcC_o, mcF_o, mcT_i, mcT_l, mcT_z, mcT_q, mcN_i, mcN_l, mcN_z, mcN_q, mcI_i, mcI_z, mcL_l, mcQ_q, hg_hp, hp_hp, List.getD_cons_zero, List.getD_cons_succ, List.set_cons_zero, List.set_cons_succ, List.length_cons, List.length_nil, Nat.reduceAdd, Nat.reduceLT, Nat.reduceEqDiff, Nat.lt_add_one, decide_true, decide_false, Bool.and_true, Bool.true_and, Bool.and_false, Bool.false_and, Bool.false_eq_true, if_true, if_false, ↓reduceIte, Option.bind_some, Option.bind_none, kont_v, kont_n, F.c0, c_within, g1, al, l3, w1, n1, r1, c1, e, e1, lgo L]
    · by_cases z : 0 < j ∧ j < 20
      · exact FC_lg j z.1 z.2
      · rw [k3 j (by omega)]; exact F j
    · obtain ⟨io, wl, pl, sp, wa, se, bc, sv, bq, h0⟩ := F'.c55
      exact MA.st F' M' (M_from h0 M' (by omega) q2)
    · refine (RI'.congrD (bb 2 (by decide)) A).congrS (bb 2 (by decide)) (fun j hj => ?_)
      show frq IM S k 16450 j = _
      unfold frq
      rw [if_pos hj]
    · exact (NI.mono (by omega)).congrD bb A
end FRM

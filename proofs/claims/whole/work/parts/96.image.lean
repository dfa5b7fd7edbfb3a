-- IMAGE: what is told becomes an image
/-- the reference's images when k numbers are laid into image i -/
def imq (IM S : Nat → Int32) (i k : Nat) : Nat → Int32 := fun j => if 16450 * i ≤ j ∧ j < 16450 * i + k then S (j - 16450 * i) else IM j
theorem imq_0 {IM S : Nat → Int32} {i : Nat} : imq IM S i 0 = IM := by
  funext j
  unfold imq
  rw [if_neg (by omega)]
theorem imq_s {IM S : Nat → Int32} {i k : Nat} : upd (imq IM S i k) (16450 * i + k) (S k) = imq IM S i (k + 1) := by
  funext j
  by_cases e : j = 16450 * i + k
  · subst e
    rw [upd_eq]
    unfold imq
    rw [if_pos (by omega), Nat.add_sub_cancel_left]
  · rw [upd_ne e]
    unfold imq
    by_cases q : 16450 * i ≤ j ∧ j < 16450 * i + k
    · rw [if_pos q, if_pos (by omega)]
    · rw [if_neg q, if_neg (by omega)]
section IMA
variable {X : MX} {t : Nat} {h : MH} {D : LD} {S IM KP : Nat → Int32}
theorem m_image_lp {io wl pl sp wa se bc sv bq : Int32} (h0 : hg h 55 = oB 12 (MO io wl pl sp wa se bc sv bq)) (h2 : hg h 56 = iA 16450 S) {i : Nat} (hi : i < 2) : ∀ (d k : Nat), k + d = 16450 → ev X 235 21 [.ref 55, .int (nI i), .int (nI k)] [] (hp h 57 (iA 32900 (imq IM S i k))) = some (some (.int (1)), (hp h 57 (iA 32900 (imq IM S i 16450))))
  | 0, k, e => by
    have e : k = 16450 := by omega
    have l : ¬ nI 16450 < (16450 : Int32) := by decide
    subst e
    rw [s235_21]
    simp only [s235_0, s235_1, s235_2, s235_3, s235_6, s235_9, s235_11, s235_12, s235_13, s235_16, s235_17, s235_18, s235_19, s235_20, s235_22, s235_25, s235_28, s235_29, s235_32, s235_35, s235_36, s235_37, s235_38, s235_39, s235_40, s235_43, s235_44, s235_45, s235_46, s235_49, s235_52, s235_53, okF, okA, mcC_o, mcF_o, mcT_i, mcT_l, mcT_z, mcT_q, mcN_i, mcN_l, mcN_z, mcN_q, mcI_i, mcI_z, mcL_l, mcQ_q, hg_hp, hp_hp, List.getD_cons_zero, List.getD_cons_succ, List.set_cons_zero, List.set_cons_succ, List.length_cons, List.length_nil, Nat.reduceAdd, Nat.reduceLT, Nat.reduceEqDiff, Nat.lt_add_one, decide_true, decide_false, Bool.and_true, Bool.true_and, Bool.and_false, Bool.false_and, Bool.false_eq_true, if_true, if_false, ↓reduceIte, Option.bind_some, Option.bind_none, kont_v, kont_n, l]
  | d + 1, k, e => by
    have hk : k < 16450 := by omega
    have l : nI k < (16450 : Int32) := nI_lt (b := 16450) hk (by decide)
    have p1 : nI k + 1 = nI (k + 1) := nI_add k 1
    have p2 : (16450 : Int32) * nI i + nI k = nI (16450 * i + k) := by rw [show (16450 : Int32) = nI 16450 from rfl, nI_mul, nI_add]
    have r1 : inR (nI k) 16450 = true := inR_n hk (by decide)
    have r2 : inR (nI (16450 * i + k)) 32900 = true := inR_n (by omega) (by decide)
    have c1 : (nI k).toNatClampNeg = k := nI_clamp (by omega)
    have c2 : (nI (16450 * i + k)).toNatClampNeg = 16450 * i + k := nI_clamp (by omega)
    have ih := m_image_lp h0 h2 hi d (k + 1) (by omega)
    rw [← ih, s235_21]
    simp only [s235_0, s235_1, s235_2, s235_3, s235_6, s235_9, s235_11, s235_12, s235_13, s235_16, s235_17, s235_18, s235_19, s235_20, s235_22, s235_25, s235_28, s235_29, s235_32, s235_35, s235_36, s235_37, s235_38, s235_39, s235_40, s235_43, s235_44, s235_45, s235_46, s235_49, s235_52, s235_53, okF, okA, mcC_o, mcF_o, mcT_i, mcT_l, mcT_z, mcT_q, mcN_i, mcN_l, mcN_z, mcN_q, mcI_i, mcI_z, mcL_l, mcQ_q, hg_hp, hp_hp, List.getD_cons_zero, List.getD_cons_succ, List.set_cons_zero, List.set_cons_succ, List.length_cons, List.length_nil, Nat.reduceAdd, Nat.reduceLT, Nat.reduceEqDiff, Nat.lt_add_one, decide_true, decide_false, Bool.and_true, Bool.true_and, Bool.and_false, Bool.false_and, Bool.false_eq_true, if_true, if_false, ↓reduceIte, Option.bind_some, Option.bind_none, kont_v, kont_n, h0, MO_len, MO_0, MO_1, h2, l, p1, p2, r1, r2, c1, c2, imq_s]
theorem M_image {io wl pl sp wa se bc sv bq : Int32} (h0 : hg h 55 = oB 12 (MO io wl pl sp wa se bc sv bq)) (M : MD h S IM KP) {i : Nat} (hi : i < 2) : (ev X 235 0 [.ref 55, .int (nI i), .float 0] [] (h)) = some (some (.int (1)), (hp (hp h 58 (zA 2 (upd KP i 1))) 57 (iA 32900 (imq IM S i 16450)))) := by
  have lp := m_image_lp (X := X) (h := hp h 58 (zA 2 (upd KP i 1))) (IM := IM) (by rw [hg_hp, if_neg (by decide)]; exact h0) (by rw [hg_hp, if_neg (by decide)]; exact M.1) hi 16450 0 (by omega)
  rw [imq_0, hp_self (h := hp h 58 (zA 2 (upd KP i 1))) (by rw [hg_hp, if_neg (by decide)]; exact M.2.1), nI_0] at lp
  have w : wi (nI i) 0 1 = 1 := by
    rcases (by omega : i = 0 ∨ i = 1) with rfl | rfl <;> decide
  have r1 : inR (nI i) 2 = true := inR_n hi (by decide)
  have c1 : (nI i).toNatClampNeg = i := nI_clamp (by omega)
  have n1 : ¬ (1 : Int32) = 0 := by decide
  have v1 : vp_nar .boolean 1 = 1 := by decide
  simp only [s235_0, s235_1, s235_2, s235_3, s235_6, s235_9, s235_11, s235_12, s235_13, s235_16, s235_17, s235_18, s235_19, s235_20, s235_22, s235_25, s235_28, s235_29, s235_32, s235_35, s235_36, s235_37, s235_38, s235_39, s235_40, s235_43, s235_44, s235_45, s235_46, s235_49, s235_52, s235_53, okF, okA, mcC_o, mcF_o, mcT_i, mcT_l, mcT_z, mcT_q, mcN_i, mcN_l, mcN_z, mcN_q, mcI_i, mcI_z, mcL_l, mcQ_q, hg_hp, hp_hp, List.getD_cons_zero, List.getD_cons_succ, List.set_cons_zero, List.set_cons_succ, List.length_cons, List.length_nil, Nat.reduceAdd, Nat.reduceLT, Nat.reduceEqDiff, Nat.lt_add_one, decide_true, decide_false, Bool.and_true, Bool.true_and, Bool.and_false, Bool.false_and, Bool.false_eq_true, if_true, if_false, ↓reduceIte, Option.bind_some, Option.bind_none, kont_v, kont_n, h0, MO_len, MO_2, M.2.2, m_in, w, r1, c1, v1, lp, n1]
theorem img_done {k b : Nat} {q' : Nat → Option Nat} {h1 : MH} {D2 : LD} (hk : k < 2) (F1 : FIX h1) (L1 : LG h1 1 D) (M1 : MD h1 S IM KP) (R : REL D S) (N : RNG t D) (g1 : hg h1 20 = qA 2 q') (qk : q' k = some b) (hb : 88 ≤ b) (hb2 : b + 19 ≤ h1.1) (LI : LG h1 b D2) (A : AGR D D2) (g2 : ∀ i, i < 2 → i ≠ k → (q' i = none ∧ KP i = 0) ∨ ∃ b, q' i = some b ∧ KP i = 1 ∧ 88 ≤ b ∧ b + 19 ≤ h1.1 ∧ ∃ D, LG h1 b D ∧ REL D (fun k => IM (16450 * i + k)) ∧ RNG t D) (g3 : ∀ a b, q' 0 = some a → q' 1 = some b → a + 19 ≤ b ∨ b + 19 ≤ a) (g4 : h1.1 = 88 + 19 * (cnt01 (q' 0) + cnt01 (q' 1))) (g5 : h1.2.1 ≤ 100000 + 10000 * (cnt01 (q' 0) + cnt01 (q' 1))) (e : (ev X 149 0 [.ref 0, .int (nI k), .float 0] [] (h)) = some (some (.int (1)), (h1))) (c0 : hg h1 0 = hg h 0) : SAME X t h 149 [.ref 0, .int (nI k), .float 0] 235 [.ref 55, .int (nI k), .float 0] := by
  obtain ⟨io, wl, pl, sp, wa, se, bc, sv, bq, h0⟩ := F1.c55
  have bb : ∀ i, i < 9 → D.1 i ≤ tcap i := fun i hi => (L1.2 i hi).2
  have hh : ∀ j, j ≠ 57 → j ≠ 58 → hg (hp (hp h1 58 (zA 2 (upd KP k 1))) 57 (iA 32900 (imq IM S k 16450))) j = hg h1 j := fun j j1 j2 => by rw [hg_hp, if_neg j1, hg_hp, if_neg j2]
  refine ⟨.int 1, h1, _, e, M_image h0 M1 hk, F1, D, S, imq IM S k 16450, upd KP k 1, L1.same (fun j j1 j2 => hh j (by omega) (by omega)), (F1.put (k := 58) trivial).put (k := 57) trivial, ⟨?_, ?_, ?_⟩, R, N.mono (by omega), q', ?_, fun i hi => ?_, g3, g4, g5⟩
  · rw [hh 56 (by decide) (by decide)]; exact M1.1
  · rw [hg_hp, if_pos rfl]
  · rw [hg_hp, if_neg (by decide), hg_hp, if_pos rfl]
  · rw [hh 20 (by decide) (by decide)]; exact g1
  · by_cases z : i = k
    · subst z
      refine Or.inr ⟨b, qk, upd_eq, hb, hb2, D2, LI.same (fun j j1 j2 => hh j (by omega) (by omega)), ?_, (N.mono (by omega)).congrD bb A⟩
      refine (R.congrD (bb 2 (by decide)) A).congrS (by rw [A.1]; exact bb 2 (by decide)) (fun j hj => ?_)
      show imq IM S i 16450 (16450 * i + j) = S j
      unfold imq
      rw [if_pos (by omega), Nat.add_sub_cancel_left]
    · rcases g2 i hi z with ⟨z1, z2⟩ | ⟨b', z1, z2, z3, z4, D', z5, z6, z7⟩
      · exact Or.inl ⟨z1, by rw [upd_ne z]; exact z2⟩
      · refine Or.inr ⟨b', z1, by rw [upd_ne z]; exact z2, z3, z4, D', z5.same (fun j j1 j2 => hh j (by omega) (by omega)), z6.congrS (z5.2 2 (by decide)).2 (fun j hj => ?_), z7.mono (by omega)⟩
        show imq IM S k 16450 (16450 * i + j) = IM (16450 * i + j)
        unfold imq
        rw [if_neg (by omega)]
theorem q_aast {b : Nat} {a0 a1 a2 : Value} {i : Int32} {q : Nat → Option Nat} {fs : List Value} {st : List Value} (e1 : hg h 20 = qA 2 q) (e2 : hg h b = oB 4 fs) (hi : inR i 2 = true) : ev X 149 43 [a0, a1, a2] (.ref b :: .int i :: .ref 20 :: st) h = ev X 149 44 [a0, a1, a2] st (hp h 20 (qA 2 (va_up q i.toNatClampNeg (some b)))) := by
  refine r_sim (q := (44, [a0, a1, a2], st, hp h 20 (qA 2 (va_up q i.toNatClampNeg (some b))))) mb_149 (show decode prog_1_method_37_code 43 = .ok (.aastore, 1) by decide +kernel) (by decide) rfl ?_
  show (pq h 20 i b).map _ = _
  unfold pq
  rw [e1, e2]
  show (if inR i 2 = true then some _ else none).map _ = _
  rw [if_pos hi]
  rfl
theorem va_up_s {f : Nat → Option Nat} {k : Nat} {v : Option Nat} : va_up f k v k = v := by
  unfold va_up
  rw [if_pos rfl]
theorem va_up_n {f : Nat → Option Nat} {k j : Nat} {v : Option Nat} (hj : j ≠ k) : va_up f k v j = f j := by
  unfold va_up
  rw [if_neg hj]
theorem S_image (I : INVD t h D S IM KP) {i : Int32} : SAME X t h 149 [.ref 0, .int i, .float 0] 235 [.ref 55, .int i, .float 0] := by
  have I' := I
  obtain ⟨L, F, M, R, N, G⟩ := I
  obtain ⟨q, g1, g2, g3, g4, g5⟩ := G
  have al : Int32.ofNat 2 - 1 = (1 : Int32) := by decide
  have l3 : (3 : Nat) ≤ 3 := Nat.le_refl 3
  have n1 : ¬ (1 : Int32) = 0 := by decide
  by_cases w : wi i 0 1 = 0
  · refine step_id I' (v := .int (-2)) ?_ (fun h' _ _ => ?_)
    · simp only [s149_0, s149_1, s149_2, s149_3, s149_6, s149_7, s149_8, s149_9, s149_12, s149_15, s149_17, s149_18, s149_19, s149_22, s149_23, s149_24, s149_24n, s149_25, s149_25n, s149_26, s149_26n, s149_29, s149_32, s149_33, s149_36, s149_36n, s149_37, s149_38, s149_41, s149_42, s149_42n, s149_44, s149_44n, s149_45, s149_46, s149_49, s149_52, s149_53, okF, okA, mcC_o, mcF_o, mcT_i, mcT_l, mcT_z, mcT_q, mcN_i, mcN_l, mcN_z, mcN_q, mcI_i, mcI_z, mcL_l, mcQ_q, hg_hp, hp_hp, List.getD_cons_zero, List.getD_cons_succ, List.set_cons_zero, List.set_cons_succ, List.length_cons, List.length_nil, Nat.reduceAdd, Nat.reduceLT, Nat.reduceEqDiff, Nat.lt_add_one, decide_true, decide_false, Bool.and_true, Bool.true_and, Bool.and_false, Bool.false_and, Bool.false_eq_true, if_true, if_false, ↓reduceIte, Option.bind_some, Option.bind_none, kont_v, kont_n, F.c0, c_within, g1, al, l3, w]
    · simp only [s235_0, s235_1, s235_2, s235_3, s235_6, s235_9, s235_11, s235_12, s235_13, s235_16, s235_17, s235_18, s235_19, s235_20, s235_22, s235_25, s235_28, s235_29, s235_32, s235_35, s235_36, s235_37, s235_38, s235_39, s235_40, s235_43, s235_44, s235_45, s235_46, s235_49, s235_52, s235_53, okF, okA, mcC_o, mcF_o, mcT_i, mcT_l, mcT_z, mcT_q, mcN_i, mcN_l, mcN_z, mcN_q, mcI_i, mcI_z, mcL_l, mcQ_q, hg_hp, hp_hp, List.getD_cons_zero, List.getD_cons_succ, List.set_cons_zero, List.set_cons_succ, List.length_cons, List.length_nil, Nat.reduceAdd, Nat.reduceLT, Nat.reduceEqDiff, Nat.lt_add_one, decide_true, decide_false, Bool.and_true, Bool.true_and, Bool.and_false, Bool.false_and, Bool.false_eq_true, if_true, if_false, ↓reduceIte, Option.bind_some, Option.bind_none, kont_v, kont_n, m_in, w]
  obtain ⟨w1, w2⟩ := wi_1 w
  obtain ⟨k, -, hk, rfl⟩ := wit_n (a := 0) (b := 1) (by decide) w2 (by decide)
  have hk2 : k < 2 := by omega
  have r1 : inR (nI k) 2 = true := inR_n (by omega) (by decide)
  have c1 : (nI k).toNatClampNeg = k := nI_clamp (by omega)
  have bb : ∀ i, i < 9 → D.1 i ≤ tcap i := fun i hi => (L.2 i hi).2
  rcases g2 k (by omega) with ⟨q1, q2⟩ | ⟨b, q1, q2, hb, hb2, D', LI, RI', NI⟩
  · have e : mrf (q k) = .null := by rw [q1]; rfl
    have h88 : 88 ≤ h.1 := by omega
    obtain ⟨h', e1, k1, k2, k3, L0⟩ := c_league (X := X) (h := hnw h (ini 4) (nfs 4)) (b := h.1) rfl (by rw [hg_hnw, if_pos rfl])
    have k3' : ∀ j, j < h.1 → hg h' j = hg h j := fun j hj => by rw [k3 j hj, hg_hnw, if_neg (by omega)]
    have a20 : hg h' 20 = qA 2 q := by rw [k3' 20 (by omega)]; exact g1
    have ea := q_aast (X := X) (a0 := .ref 0) (a1 := .int (nI k)) (a2 := .ref h.1) (st := []) a20 L0.1 r1
    rw [c1] at ea
    have L1 : LG (hp h' 20 (qA 2 (va_up q k (some h.1)))) 1 D := L.same (fun j j1 j2 => by rw [hg_hp, if_neg (by omega)]; exact k3' j (by omega))
    have L2 : LG (hp h' 20 (qA 2 (va_up q k (some h.1)))) h.1 D00 := L0.same (fun j j1 j2 => by rw [hg_hp, if_neg (by omega)])
    obtain ⟨h1, e2, m1, m2, m3, L3⟩ := c_copy (X := X) (b := h.1) (s := 1) (by omega) L2 L1
    have z0 : hg h' 0 = hg h 0 := k3' 0 (by omega)
    have n20 : ¬ h.1 = 20 := by omega
    have n0 : ¬ 0 = h.1 := by omega
    have hh : ∀ j, j < h.1 → j ≠ 20 → hg h1 j = hg h j := fun j j1 j2 => by rw [m3 j (Or.inl j1), hg_hp, if_neg j2]; exact k3' j j1
    have cn : cnt01 (va_up q k (some h.1) 0) + cnt01 (va_up q k (some h.1) 1) = cnt01 (q 0) + cnt01 (q 1) + 1 := by
      rcases (by omega : k = 0 ∨ k = 1) with rfl | rfl
      · rw [va_up_s, va_up_n (by decide), q1]; show 1 + _ = 0 + _ + 1; omega
      · rw [va_up_s, va_up_n (by decide), q1]; show _ + 1 = _ + 0 + 1; omega
    have c20 : hg h1 20 = qA 2 (va_up q k (some h.1)) := by rw [m3 20 (Or.inl (by omega)), hg_hp, if_pos rfl]
    have hs1 : h1.1 = h.1 + 19 := m1.trans k1
    have hs2 : h1.2.1 = h.2.1 + 10 + 2916 := m2.trans k2
    refine img_done (q' := va_up q k (some h.1)) (b := h.1) (h1 := h1) hk2 (fun j => ?_) (L.same (fun j j1 j2 => hh j (by omega) (by omega))) (M.same (fun j j1 j2 => hh j (by omega) (by omega))) R N c20 va_up_s h88 (by omega) L3 ⟨rfl, rfl, fun i hi k hk => cpf_lt hk⟩ (fun i hi ik => ?_) (fun a b z1 z2 => ?_) (by rw [cn]; omega) (by rw [cn]; omega) ?_ (hh 0 (by omega) (by decide))
    · by_cases j88 : j < 88
      · by_cases j20 : j = 20
        · subst j20; trivial
        · rw [hh j (by omega) j20]; exact F j
      · exact FC_big (by omega)
    · rw [va_up_n ik]
      rcases g2 i hi with z | ⟨b', z1, z2, z3, z4, D', z5, z6, z7⟩
      · exact Or.inl z
      · exact Or.inr ⟨b', z1, z2, z3, by omega, D', z5.same (fun j j1 j2 => hh j (by omega) (by omega)), z6, z7⟩
    · have far : ∀ i b', i < 2 → i ≠ k → q i = some b' → b' + 19 ≤ h.1 := fun i b' hi _ hq => by
        rcases g2 i hi with z | ⟨b2, z1, z2, z3, z4, -⟩
        · rw [z.1] at hq; cases hq
        · rw [hq] at z1; cases z1; exact z4
      rcases (by omega : k = 0 ∨ k = 1) with rfl | rfl
      · rw [va_up_s] at z1; rw [va_up_n (by decide)] at z2; cases z1
        exact Or.inr (far 1 b (by decide) (by decide) z2)
      · rw [va_up_s] at z2; rw [va_up_n (by decide)] at z1; cases z2
        exact Or.inl (far 0 a (by decide) (by decide) z1)
    · simp only [s149_0, s149_1, s149_2, s149_3, s149_6, s149_7, s149_8, s149_9, s149_12, s149_15, s149_17, s149_18, s149_19, s149_22, s149_23, s149_24, s149_24n, s149_25, s149_25n, s149_26, s149_26n, s149_29, s149_32, s149_33, s149_36, s149_36n, s149_37, s149_38, s149_41, s149_42, s149_42n, s149_44, s149_44n, s149_45, s149_46, s149_49, s149_52, s149_53, okF, okA, mcC_o, mcF_o, mcT_i, mcT_l, mcT_z, mcT_q, mcN_i, mcN_l, mcN_z, mcN_q, mcI_i, mcI_z, mcL_l, mcQ_q, hg_hp, hp_hp, List.getD_cons_zero, List.getD_cons_succ, List.set_cons_zero, List.set_cons_succ, List.length_cons, List.length_nil, Nat.reduceAdd, Nat.reduceLT, Nat.reduceEqDiff, Nat.lt_add_one, decide_true, decide_false, Bool.and_true, Bool.true_and, Bool.and_false, Bool.false_and, Bool.false_eq_true, if_true, if_false, ↓reduceIte, Option.bind_some, Option.bind_none, kont_v, kont_n, F.c0, c_within, g1, al, l3, w1, n1, r1, c1, e, e1, z0, ea, e2, L0.1, n20, n0]
  · have e : mrf (q k) = .ref b := by rw [q1]; rfl
    obtain ⟨h1, e2, m1, m2, m3, L3⟩ := c_copy (X := X) (b := b) (s := 1) (by omega) LI L
    have hh : ∀ j, j < b ∨ b + 19 ≤ j → hg h1 j = hg h j := m3
    refine img_done (q' := q) (b := b) (h1 := h1) hk2 (fun j => ?_) (L.same (fun j j1 j2 => hh j (by omega))) (M.same (fun j j1 j2 => hh j (by omega))) R N (by rw [hh 20 (by omega)]; exact g1) q1 hb (by omega) L3 ⟨rfl, rfl, fun i hi k hk => cpf_lt hk⟩ (fun i hi ik => ?_) g3 (by omega) (by omega) ?_ (hh 0 (by omega))
    · by_cases j88 : j < 88
      · rw [hh j (by omega)]; exact F j
      · exact FC_big (by omega)
    · rcases g2 i hi with z | ⟨b', z1, z2, z3, z4, D'', z5, z6, z7⟩
      · exact Or.inl z
      · have far : b' + 19 ≤ b ∨ b + 19 ≤ b' := by
          rcases (by omega : (k = 0 ∧ i = 1) ∨ (k = 1 ∧ i = 0)) with ⟨rfl, rfl⟩ | ⟨rfl, rfl⟩
          · exact (g3 b b' q1 z1).symm
          · exact g3 b' b z1 q1
        exact Or.inr ⟨b', z1, z2, z3, by omega, D'', z5.same (fun j j1 j2 => hh j (by omega)), z6, z7⟩
    · simp only [s149_0, s149_1, s149_2, s149_3, s149_6, s149_7, s149_8, s149_9, s149_12, s149_15, s149_17, s149_18, s149_19, s149_22, s149_23, s149_24, s149_24n, s149_25, s149_25n, s149_26, s149_26n, s149_29, s149_32, s149_33, s149_36, s149_36n, s149_37, s149_38, s149_41, s149_42, s149_42n, s149_44, s149_44n, s149_45, s149_46, s149_49, s149_52, s149_53, okF, okA, mcC_o, mcF_o, mcT_i, mcT_l, mcT_z, mcT_q, mcN_i, mcN_l, mcN_z, mcN_q, mcI_i, mcI_z, mcL_l, mcQ_q, hg_hp, hp_hp, List.getD_cons_zero, List.getD_cons_succ, List.set_cons_zero, List.set_cons_succ, List.length_cons, List.length_nil, Nat.reduceAdd, Nat.reduceLT, Nat.reduceEqDiff, Nat.lt_add_one, decide_true, decide_false, Bool.and_true, Bool.true_and, Bool.and_false, Bool.false_and, Bool.false_eq_true, if_true, if_false, ↓reduceIte, Option.bind_some, Option.bind_none, kont_v, kont_n, F.c0, c_within, g1, al, l3, w1, n1, r1, c1, e, e2, LI.1]
end IMA

-- NEW: tables and leagues are made
theorem hg_hnw (h : MH) (c : MC) (sz b : Nat) : hg (hnw h c sz) b = if b = h.1 then c else hg h b := rfl
theorem hnw_1 (h : MH) (c : MC) (sz : Nat) : (hnw h c sz).1 = h.1 + 1 := rfl
theorem hnw_2 (h : MH) (c : MC) (sz : Nat) : (hnw h c sz).2.1 = h.2.1 + sz := rfl
theorem hp_1 (h : MH) (a : Nat) (c : MC) : (hp h a c).1 = h.1 := rfl
theorem hp_2 (h : MH) (a : Nat) (c : MC) : (hp h a c).2.1 = h.2.1 := rfl
theorem ini_10 : ini 10 = oB 10 [.int 0, .int 0, .null, .int 0] := by rfl
theorem nfs_10 : nfs 10 = 4 := by rfl
theorem ini_4 : ini 4 = oB 4 [.null, .null, .null, .null, .null, .null, .null, .null, .null, .int 0] := by rfl
theorem nfs_4 : nfs 4 = 10 := by rfl
theorem hn_at (h : MH) (a : Nat) (c d : MC) (sz : Nat) (e : a = h.1) : hp (hnw h c sz) a d = hnw h d sz := by
  subst e
  unfold hp hnw
  simp only [Prod.mk.injEq, true_and]
  funext j
  split <;> rfl
theorem hn_off (h : MH) (a : Nat) (c d : MC) (sz : Nat) (e : a ≠ h.1) : hp (hnw h c sz) a d = hnw (hp h a d) c sz := by
  unfold hp hnw
  simp only [Prod.mk.injEq, true_and]
  funext j
  by_cases q : j = a
  · subst q; rw [if_pos rfl, if_neg e, if_pos rfl]
  · rw [if_neg q, if_neg q]
/-- a table of zeros is made -/
def tnw (h : MH) (C W : Nat) : MH := hnw (hnw h (oB 10 [.int (nI C), .int (nI W), .ref (h.1 + 1), .int (nI 0)]) 4) (iA (C * W) (fun _ => 0)) (C * W)
theorem tnw_1 (h : MH) (C W : Nat) : (tnw h C W).1 = h.1 + 2 := rfl
theorem tnw_2 (h : MH) (C W : Nat) : (tnw h C W).2.1 = h.2.1 + (4 + C * W) := Nat.add_assoc _ _ _
theorem tnw_lt {h : MH} {C W j : Nat} (hj : j < h.1) : hg (tnw h C W) j = hg h j := by
  unfold tnw
  rw [hg_hnw, hnw_1, if_neg (by omega), hg_hnw, if_neg (by omega)]
theorem tnw_tab {h : MH} {C W : Nat} (hC : C < 2 ^ 31) (hW : W < 2 ^ 31) (hN : C * W < 2 ^ 31) : TAB (tnw h C W) h.1 (h.1 + 1) C W 0 (fun _ => 0) := by
  refine ⟨?_, ?_, hC, hW, hN, by omega⟩
  · unfold tnw
    rw [hg_hnw, hnw_1, if_neg (by omega), hg_hnw, if_pos rfl]
  · unfold tnw
    rw [hg_hnw, hnw_1, if_pos rfl]
section NEW
variable {X : MX}
theorem tb_new {h : MH} {C W : Nat} (hC : C < 2 ^ 31) (hW : W < 2 ^ 31) (hN : C * W ≤ 40000) : (ev X 98 0 [.ref h.1, .int (nI C), .int (nI W)] [] (hnw h (ini 10) (nfs 10))) = some (none, tnw h C W) := by
  have p1 : (if (0 : Int32) < nI C then nI C else 0) = nI C := by
    by_cases z : 0 < C
    · have z' : (0 : Int32) < nI C := nI_lt (a := 0) z hC
      rw [if_pos z']
    · have : C = 0 := by omega
      subst this; rfl
  have p2 : (if (0 : Int32) < nI W then nI W else 0) = nI W := by
    by_cases z : 0 < W
    · have z' : (0 : Int32) < nI W := nI_lt (a := 0) z hW
      rw [if_pos z']
    · have : W = 0 := by omega
      subst this; rfl
  have p3 : nI C * nI W = nI (C * W) := nI_mul C W
  have c1 : (nI (C * W)).toNatClampNeg = C * W := nI_clamp (by omega)
  have ok : okN (nI (C * W)) = true := by
    unfold okN
    rw [c1, decide_eq_true (show (0 : Int32) ≤ nI (C * W) by rw [Int32.le_iff_toInt_le, nI_toInt (by omega), z_toInt]; omega), decide_eq_true hN]
    rfl
  have s1 : ¬ h.1 = h.1 + 1 := by omega
  have e1 : ∀ c d, hp (hnw h c 4) h.1 d = hnw h d 4 := fun c d => hn_at _ _ _ _ _ rfl
  have e2 : ∀ c d g, hp (hnw (hnw h c 4) g (C * W)) h.1 d = hnw (hnw h d 4) g (C * W) := fun c d g => by rw [hn_off _ _ _ _ _ (by rw [hnw_1]; omega), e1]
  rw [ini_10, nfs_10]
  simp only [s98_0, s98_1, s98_4, s98_5, s98_6, s98_7, s98_10, s98_13, s98_14, s98_15, s98_16, s98_19, s98_22, s98_23, s98_24, s98_27, s98_28, s98_31, s98_32, s98_34, s98_37, s98_38, s98_39, s98_42, okF, okA, mcC_o, mcF_o, mcT_i, mcT_l, mcT_z, mcT_q, mcN_i, mcN_l, mcN_z, mcN_q, mcI_i, mcI_z, mcL_l, mcQ_q, hg_hp, hp_hp, List.getD_cons_zero, List.getD_cons_succ, List.set_cons_zero, List.set_cons_succ, List.length_cons, List.length_nil, Nat.reduceAdd, Nat.reduceLT, Nat.reduceEqDiff, Nat.lt_add_one, decide_true, decide_false, Bool.and_true, Bool.true_and, Bool.and_false, Bool.false_and, Bool.false_eq_true, if_true, if_false, ↓reduceIte, Option.bind_some, Option.bind_none, kont_v, kont_n, hg_hnw, hnw_1, e1, e2, p1, p2, p3, ok, c1, s1]
  rfl
/-- the first k tables of a league at b are made -/
def LNK (h0 h : MH) (b k sz : Nat) : Prop := h.1 = b + 1 + 2 * k ∧ h.2.1 = h0.2.1 + sz ∧ (∀ j, j < b → hg h j = hg h0 j) ∧ ∀ i, i < k → TAB h (b + 1 + 2 * i) (b + 2 + 2 * i) (tcap i) (twid i) 0 (fun _ => 0)
theorem LNK.put {h0 h : MH} {b k sz : Nat} {c : MC} (N : LNK h0 h b k sz) : LNK h0 (hp h b c) b k sz := ⟨N.1, N.2.1, fun j hj => by rw [hg_hp, if_neg (by omega)]; exact N.2.2.1 j hj, fun i hi => (N.2.2.2 i hi).off (by omega) (by omega)⟩
theorem ln_step {h0 h : MH} {b k sz : Nat} (hk : k < 9) (N : LNK h0 h b k sz) : ∃ h', (ev X 98 0 [.ref h.1, .int (nI (tcap k)), .int (nI (twid k))] [] (hnw h (ini 10) (nfs 10))) = some (none, h') ∧ hg h' b = hg h b ∧ LNK h0 h' b (k + 1) (sz + (4 + tcap k * twid k)) := by
  obtain ⟨t1, t2, t3⟩ := tcw k hk
  have t4 : tcap k * twid k ≤ 40000 := (by decide : ∀ i, i < 9 → tcap i * twid i ≤ 40000) k hk
  obtain ⟨n1, n2, n3, n4⟩ := N
  refine ⟨_, tb_new t1 t2 t4, tnw_lt (by omega), by rw [tnw_1, n1]; omega, by rw [tnw_2, n2]; omega, fun j hj => by rw [tnw_lt (by omega)]; exact n3 j hj, fun i hi => ?_⟩
  by_cases z : i = k
  · subst z
    have T := tnw_tab (h := h) t1 t2 t3
    rw [n1, show b + 1 + 2 * i + 1 = b + 2 + 2 * i by omega] at T
    exact T
  · exact (n4 i (by omega)).same (tnw_lt (by omega)) (tnw_lt (by omega))
/-- what a new league holds -/
def D00 : LD := (fun i => if i = 4 then 4 else 0, fun _ _ => 0, 5)
theorem addF_0 {C W : Nat} : addF C W 0 (fun _ => 0) = fun _ => 0 := by
  funext j
  unfold addF
  split <;> rfl
theorem nl_120 : (120 : Int32) = nI 120 := rfl
theorem nl_20' : (20 : Int32) = nI 20 := rfl
theorem lg_sz {h g : MH} {b : Nat} (N : LNK h g b 9 (0 + (4 + tcap 0 * twid 0) + (4 + tcap 1 * twid 1) + (4 + tcap 2 * twid 2) + (4 + tcap 3 * twid 3) + (4 + tcap 4 * twid 4) + (4 + tcap 5 * twid 5) + (4 + tcap 6 * twid 6) + (4 + tcap 7 * twid 7) + (4 + tcap 8 * twid 8))) : LNK h g b 9 2916 := by
  rw [show 0 + (4 + tcap 0 * twid 0) + (4 + tcap 1 * twid 1) + (4 + tcap 2 * twid 2) + (4 + tcap 3 * twid 3) + (4 + tcap 4 * twid 4) + (4 + tcap 5 * twid 5) + (4 + tcap 6 * twid 6) + (4 + tcap 7 * twid 7) + (4 + tcap 8 * twid 8) = 2916 by decide] at N
  exact N
theorem lg_n9 {b : Nat} : ¬ b + 9 = b := by omega
theorem lg_1 {h g : MH} {b k sz : Nat} (N : LNK h g b (k + 1) sz) : g.1 = b + (2 * k + 3) := by rw [N.1]; omega
theorem lg_c9 {h g : MH} {b : Nat} (N : LNK h g b 9 2916) : mcC (hg g (b + 9)) = 10 := by
  have := (N.2.2.2 4 (by decide)).1
  rw [show b + 1 + 2 * 4 = b + 9 by omega] at this
  rw [this]
  rfl
theorem lg_t4 {h g : MH} {b : Nat} (N : LNK h g b 9 2916) {c : MC} : TAB (hp g b c) (b + 9) (b + 10) 4 51 0 (fun _ => 0) := by
  have := (N.put (c := c)).2.2.2 4 (by decide)
  rw [show b + 1 + 2 * 4 = b + 9 by omega, show b + 2 + 2 * 4 = b + 10 by omega] at this
  exact this
theorem lg_end {h g : MH} {b : Nat} (N : LNK h g b 9 2916) : (hp (hp (hp g b (oB 4 [.ref (b + 1), .ref (b + 3), .ref (b + 5), .ref (b + 7), .ref (b + 9), .ref (b + 11), .ref (b + 13), .ref (b + 15), .ref (b + 17), .int 5])) (b + 9) (oB 10 [.int (nI 4), .int (nI 51), .ref (b + 10), .int (nI 4)])) (b + 10) (iA (4 * 51) (fun _ => 0))).1 = b + 19 ∧ (hp (hp (hp g b (oB 4 [.ref (b + 1), .ref (b + 3), .ref (b + 5), .ref (b + 7), .ref (b + 9), .ref (b + 11), .ref (b + 13), .ref (b + 15), .ref (b + 17), .int 5])) (b + 9) (oB 10 [.int (nI 4), .int (nI 51), .ref (b + 10), .int (nI 4)])) (b + 10) (iA (4 * 51) (fun _ => 0))).2.1 = h.2.1 + 2916 ∧ (∀ j, j < b → hg (hp (hp (hp g b (oB 4 [.ref (b + 1), .ref (b + 3), .ref (b + 5), .ref (b + 7), .ref (b + 9), .ref (b + 11), .ref (b + 13), .ref (b + 15), .ref (b + 17), .int 5])) (b + 9) (oB 10 [.int (nI 4), .int (nI 51), .ref (b + 10), .int (nI 4)])) (b + 10) (iA (4 * 51) (fun _ => 0))) j = hg h j) ∧ LG (hp (hp (hp g b (oB 4 [.ref (b + 1), .ref (b + 3), .ref (b + 5), .ref (b + 7), .ref (b + 9), .ref (b + 11), .ref (b + 13), .ref (b + 15), .ref (b + 17), .int 5])) (b + 9) (oB 10 [.int (nI 4), .int (nI 51), .ref (b + 10), .int (nI 4)])) (b + 10) (iA (4 * 51) (fun _ => 0))) b D00 := by
  have T := lg_t4 N (c := oB 4 [.ref (b + 1), .ref (b + 3), .ref (b + 5), .ref (b + 7), .ref (b + 9), .ref (b + 11), .ref (b + 13), .ref (b + 15), .ref (b + 17), .int 5])
  have N1 := N.put (c := oB 4 [.ref (b + 1), .ref (b + 3), .ref (b + 5), .ref (b + 7), .ref (b + 9), .ref (b + 11), .ref (b + 13), .ref (b + 15), .ref (b + 17), .int 5])
  refine ⟨by rw [hp_1, hp_1, hp_1, N.1], by rw [hp_2, hp_2, hp_2, N.2.1], fun j hj => ?_, ?_, fun i hi => ?_⟩
  · rw [hg_hp, if_neg (by omega), hg_hp, if_neg (by omega)]; exact N1.2.2.1 j hj
  · rw [hg_hp, if_neg (by omega), hg_hp, if_neg (by omega), hg_hp, if_pos rfl]; rfl
  · by_cases z : i = 4
    · subst z
      exact ⟨(T.rows 4).put (fun _ => 0), Nat.le_refl 4⟩
    · have e : D00.1 i = 0 := if_neg z
      rw [e]
      exact ⟨((N1.2.2.2 i hi).off (by omega) (by omega)).off (by omega) (by omega), Nat.zero_le _⟩
set_option maxHeartbeats 8000000 in
theorem c_league {h : MH} {b : Nat} (hb : h.1 = b + 1) (h0 : hg h b = ini 4) : ∃ h', (ev X 44 0 [.ref b] [] (h)) = some (none, h') ∧ h'.1 = b + 19 ∧ h'.2.1 = h.2.1 + 2916 ∧ (∀ j, j < b → hg h' j = hg h j) ∧ LG h' b D00 := by
  rw [ini_4] at h0
  have N0 : LNK h h b 0 0 := ⟨hb, rfl, fun _ _ => rfl, fun i hi => absurd hi (by omega)⟩
  obtain ⟨g1, e0, x1, N1p⟩ := ln_step (X := X) (k := 0) (by decide) N0
  have q0 : (h).1 = b + 1 := by rw [N0.1]
  rw [q0, show tcap 0 = 20 from rfl, show twid 0 = 3 from rfl, ← nl_20, ← nl_3] at e0
  rw [h0] at x1
  have N1 := N1p.put (c := oB 4 [.ref (b + 1), .null, .null, .null, .null, .null, .null, .null, .null, .int 0])
  obtain ⟨g2, e1, x2, N2p⟩ := ln_step (X := X) (k := 1) (by decide) N1
  have q1 : (hp g1 b (oB 4 [.ref (b + 1), .null, .null, .null, .null, .null, .null, .null, .null, .int 0])).1 = b + 3 := by rw [N1.1]
  rw [q1, show tcap 1 = 16 from rfl, show twid 1 = 3 from rfl, ← nl_16, ← nl_3] at e1
  rw [hg_hp, if_pos rfl] at x2
  have N2 := N2p.put (c := oB 4 [.ref (b + 1), .ref (b + 3), .null, .null, .null, .null, .null, .null, .null, .int 0])
  obtain ⟨g3, e2, x3, N3p⟩ := ln_step (X := X) (k := 2) (by decide) N2
  have q2 : (hp g2 b (oB 4 [.ref (b + 1), .ref (b + 3), .null, .null, .null, .null, .null, .null, .null, .int 0])).1 = b + 5 := by rw [N2.1]
  rw [q2, show tcap 2 = 120 from rfl, show twid 2 = 17 from rfl, ← nl_120, ← nl_17] at e2
  rw [hg_hp, if_pos rfl] at x3
  have N3 := N3p.put (c := oB 4 [.ref (b + 1), .ref (b + 3), .ref (b + 5), .null, .null, .null, .null, .null, .null, .int 0])
  obtain ⟨g4, e3, x4, N4p⟩ := ln_step (X := X) (k := 3) (by decide) N3
  have q3 : (hp g3 b (oB 4 [.ref (b + 1), .ref (b + 3), .ref (b + 5), .null, .null, .null, .null, .null, .null, .int 0])).1 = b + 7 := by rw [N3.1]
  rw [q3, show tcap 3 = 6 from rfl, show twid 3 = 1 from rfl, ← nl_6, ← nl_1] at e3
  rw [hg_hp, if_pos rfl] at x4
  have N4 := N4p.put (c := oB 4 [.ref (b + 1), .ref (b + 3), .ref (b + 5), .ref (b + 7), .null, .null, .null, .null, .null, .int 0])
  obtain ⟨g5, e4, x5, N5p⟩ := ln_step (X := X) (k := 4) (by decide) N4
  have q4 : (hp g4 b (oB 4 [.ref (b + 1), .ref (b + 3), .ref (b + 5), .ref (b + 7), .null, .null, .null, .null, .null, .int 0])).1 = b + 9 := by rw [N4.1]
  rw [q4, show tcap 4 = 4 from rfl, show twid 4 = 51 from rfl, ← nl_4, ← nl_51] at e4
  rw [hg_hp, if_pos rfl] at x5
  have N5 := N5p.put (c := oB 4 [.ref (b + 1), .ref (b + 3), .ref (b + 5), .ref (b + 7), .ref (b + 9), .null, .null, .null, .null, .int 0])
  obtain ⟨g6, e5, x6, N6p⟩ := ln_step (X := X) (k := 5) (by decide) N5
  have q5 : (hp g5 b (oB 4 [.ref (b + 1), .ref (b + 3), .ref (b + 5), .ref (b + 7), .ref (b + 9), .null, .null, .null, .null, .int 0])).1 = b + 11 := by rw [N5.1]
  rw [q5, show tcap 5 = 8 from rfl, show twid 5 = 3 from rfl, ← nl_8, ← nl_3] at e5
  rw [hg_hp, if_pos rfl] at x6
  have N6 := N6p.put (c := oB 4 [.ref (b + 1), .ref (b + 3), .ref (b + 5), .ref (b + 7), .ref (b + 9), .ref (b + 11), .null, .null, .null, .int 0])
  obtain ⟨g7, e6, x7, N7p⟩ := ln_step (X := X) (k := 6) (by decide) N6
  have q6 : (hp g6 b (oB 4 [.ref (b + 1), .ref (b + 3), .ref (b + 5), .ref (b + 7), .ref (b + 9), .ref (b + 11), .null, .null, .null, .int 0])).1 = b + 13 := by rw [N6.1]
  rw [q6, show tcap 6 = 60 from rfl, show twid 6 = 4 from rfl, ← nl_60, ← nl_4] at e6
  rw [hg_hp, if_pos rfl] at x7
  have N7 := N7p.put (c := oB 4 [.ref (b + 1), .ref (b + 3), .ref (b + 5), .ref (b + 7), .ref (b + 9), .ref (b + 11), .ref (b + 13), .null, .null, .int 0])
  obtain ⟨g8, e7, x8, N8p⟩ := ln_step (X := X) (k := 7) (by decide) N7
  have q7 : (hp g7 b (oB 4 [.ref (b + 1), .ref (b + 3), .ref (b + 5), .ref (b + 7), .ref (b + 9), .ref (b + 11), .ref (b + 13), .null, .null, .int 0])).1 = b + 15 := by rw [N7.1]
  rw [q7, show tcap 7 = 60 from rfl, show twid 7 = 4 from rfl, ← nl_60, ← nl_4] at e7
  rw [hg_hp, if_pos rfl] at x8
  have N8 := N8p.put (c := oB 4 [.ref (b + 1), .ref (b + 3), .ref (b + 5), .ref (b + 7), .ref (b + 9), .ref (b + 11), .ref (b + 13), .ref (b + 15), .null, .int 0])
  obtain ⟨g9, e8, x9, N9p⟩ := ln_step (X := X) (k := 8) (by decide) N8
  have q8 : (hp g8 b (oB 4 [.ref (b + 1), .ref (b + 3), .ref (b + 5), .ref (b + 7), .ref (b + 9), .ref (b + 11), .ref (b + 13), .ref (b + 15), .null, .int 0])).1 = b + 17 := by rw [N8.1]
  rw [q8, show tcap 8 = 9 from rfl, show twid 8 = 2 from rfl, ← nl_9, ← nl_2] at e8
  rw [hg_hp, if_pos rfl] at x9
  have N9 := N9p.put (c := oB 4 [.ref (b + 1), .ref (b + 3), .ref (b + 5), .ref (b + 7), .ref (b + 9), .ref (b + 11), .ref (b + 13), .ref (b + 15), .ref (b + 17), .int 0])
  have N10 := lg_sz N9p
  obtain ⟨z1, z2, z3, z4⟩ := lg_end N10
  have T : TAB (hp g9 b (oB 4 [.ref (b + 1), .ref (b + 3), .ref (b + 5), .ref (b + 7), .ref (b + 9), .ref (b + 11), .ref (b + 13), .ref (b + 15), .ref (b + 17), .int 5])) (b + 9) (b + 10) 4 51 0 (fun _ => 0) := lg_t4 N10
  have ea := TAB.addAll (X := X) T
  rw [addF_0] at ea
  have y1 : g1.1 = b + 3 := (lg_1 N1p)
  have y2 : g2.1 = b + 5 := (lg_1 N2p)
  have y3 : g3.1 = b + 7 := (lg_1 N3p)
  have y4 : g4.1 = b + 9 := (lg_1 N4p)
  have y5 : g5.1 = b + 11 := (lg_1 N5p)
  have y6 : g6.1 = b + 13 := (lg_1 N6p)
  have y7 : g7.1 = b + 15 := (lg_1 N7p)
  have y8 : g8.1 = b + 17 := (lg_1 N8p)
  have y9 : g9.1 = b + 19 := (lg_1 N9p)
  have t9 : mcC (hg g9 (b + 9)) = 10 := lg_c9 N10
  have m9 : ¬ b + 9 = b := lg_n9
  refine ⟨hp (hp (hp g9 b (oB 4 [.ref (b + 1), .ref (b + 3), .ref (b + 5), .ref (b + 7), .ref (b + 9), .ref (b + 11), .ref (b + 13), .ref (b + 15), .ref (b + 17), .int 5])) (b + 9) (oB 10 [.int (nI 4), .int (nI 51), .ref (b + 10), .int (nI 4)])) (b + 10) (iA (4 * 51) (fun _ => 0)), ?_, z1, z2, z3, z4⟩
  simp only [s44_0, s44_1, s44_4, s44_5, s44_8, s44_9, s44_11, s44_12, s44_15, s44_18, s44_19, s44_22, s44_23, s44_25, s44_26, s44_29, s44_32, s44_33, s44_36, s44_37, s44_39, s44_41, s44_44, s44_47, s44_48, s44_51, s44_52, s44_54, s44_55, s44_58, s44_61, s44_62, s44_65, s44_66, s44_67, s44_69, s44_72, s44_75, s44_76, s44_79, s44_80, s44_82, s44_83, s44_86, s44_89, s44_90, s44_93, s44_94, s44_96, s44_97, s44_100, s44_103, s44_104, s44_107, s44_108, s44_110, s44_111, s44_114, s44_117, s44_118, s44_121, s44_122, s44_124, s44_125, s44_128, s44_131, s44_132, s44_133, s44_136, s44_137, s44_140, s44_143, okF, okA, mcC_o, mcF_o, mcT_i, mcT_l, mcT_z, mcT_q, mcN_i, mcN_l, mcN_z, mcN_q, mcI_i, mcI_z, mcL_l, mcQ_q, hg_hp, hp_hp, List.getD_cons_zero, List.getD_cons_succ, List.set_cons_zero, List.set_cons_succ, List.length_cons, List.length_nil, Nat.reduceAdd, Nat.reduceLT, Nat.reduceEqDiff, Nat.lt_add_one, decide_true, decide_false, Bool.and_true, Bool.true_and, Bool.and_false, Bool.false_and, Bool.false_eq_true, if_true, if_false, ↓reduceIte, Option.bind_some, Option.bind_none, kont_v, kont_n, hp_1, h0, q0, e0, x1, y1, e1, x2, y2, e2, x3, y3, e3, x4, y4, e4, x5, y5, e5, x6, y6, e6, x7, y7, e7, x8, y8, e8, x9, y9, ea, t9, m9, eq_self]
end NEW

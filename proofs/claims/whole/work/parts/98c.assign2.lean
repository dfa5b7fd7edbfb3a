-- ASSIGN 2: the least sums, and who serves
theorem rb_at {R n : Nat} {fr hs : Nat → Nat} : ∀ (m u : Nat) (y : Nat × (Nat → Nat)), rb R n fr hs m u = some y → m ≤ n → ∀ i, n - m ≤ i → i < n → y.2 i < R
  | 0, _, _, _, _, i, h1, h2 => absurd h2 (by omega)
  | m + 1, u, y, h, hm, i, h1, h2 => by
    rw [rb_s] at h
    obtain ⟨r, -, r2, r3, -⟩ := fol_some _ _ h
    obtain ⟨-, -, z, e, rfl⟩ := rF_some r3
    show fu z.2 (n - (m + 1)) r i < R
    by_cases q : i = n - (m + 1)
    · rw [q, fu_s]; omega
    · rw [fu_n _ _ q]
      exact rb_at m _ z e (by omega) i (by omega) h2
section AS2
variable {X : MX} {t : Nat} {h B : MH} {D : LD} {S : Nat → Int32}
theorem RFH_o1 {m : Int32} {a b c e : Nat → Int32} : hg (RFH B m a b c e) 1 = hg B 1 ∧ hg (RFH B m a b c e) 12 = hg B 12 := ⟨RFH_o (by decide), RFH_o (by decide)⟩
theorem c_dp {R n : Nat} {fr hs : Nat → Nat} {a b c : Nat → Int32} {a1 a2 a4 : Value} (L : LG B 1 D) : ∀ (j : Nat) (e : Nat → Int32), j ≤ 2 ^ R → DPK D R n fr hs b e j → ∃ e', DPK D R n fr hs b e' 0 ∧ ev X 79 30 [.ref 46, a1, a2, .int (kv j), a4] [] (RFH B (nI n) a b c e) = ev X 79 51 [.ref 46, a1, a2, .int (-1), a4] [] (RFH B (nI n) a b c e')
  | 0, e, _, K => by
    refine ⟨e, K, ?_⟩
    have l : (-1 : Int32) < 0 := by decide
    show ev X 79 30 [.ref 46, a1, a2, .int (-1), a4] [] _ = _
    rw [s79_30]
    simp only [s79_0, s79_1, s79_2, s79_5, s79_6, s79_7, s79_10, s79_13, s79_16, s79_17, s79_18, s79_21, s79_22, s79_25, s79_26, s79_27, s79_28, s79_29, s79_31, s79_34, s79_35, s79_38, s79_39, s79_40, s79_41, s79_44, s79_45, s79_48, s79_52, s79_55, s79_56, s79_57, s79_58, s79_61, s79_62, s79_63, s79_64, s79_65, s79_66, s79_70, s79_71, s79_74, s79_77, s79_78, s79_81, s79_83, s79_84, s79_86, s79_87, s79_90, s79_91, s79_92, s79_93, s79_94, s79_97, s79_99, s79_100, s79_101, s79_102, s79_103, s79_106, s79_109, s79_110, okF, okA, mcC_o, mcF_o, mcT_i, mcT_l, mcT_z, mcT_q, mcN_i, mcN_l, mcN_z, mcN_q, mcI_i, mcI_z, mcL_l, mcQ_q, hg_hp, hp_hp, List.getD_cons_zero, List.getD_cons_succ, List.set_cons_zero, List.set_cons_succ, List.length_cons, List.length_nil, Nat.reduceAdd, Nat.reduceLT, Nat.reduceEqDiff, Nat.lt_add_one, decide_true, decide_false, Bool.and_true, Bool.true_and, Bool.and_false, Bool.false_and, Bool.false_eq_true, if_true, if_false, ↓reduceIte, Option.bind_some, Option.bind_none, kont_v, kont_n, l]
  | j + 1, e, hj, K => by
    obtain ⟨k1, k2, k3, k4, k5⟩ := K
    have b5 := (LBD L).2.2.2.2.1
    have hR : 2 ^ R ≤ 256 := Nat.pow_le_pow_right (n := 2) (by decide) (show R ≤ 8 by omega)
    have lb := c_lb (X := X) (a := a) (c := c) L ⟨k1, k2, k3, k4, k5⟩ (u := j) (by omega)
    obtain ⟨e', K', ih⟩ := c_dp L (R := R) (n := n) (fr := fr) (hs := hs) (a := a) (b := b) (c := c) (a1 := a1) (a2 := a2) (a4 := a4) j (upd e j (enc (lv R n fr hs j))) (by omega) ⟨k1, k2, k3, k4, fun u h1 h2 => by
      by_cases q : u = j
      · rw [q, upd_eq]
      · rw [upd_ne q]; exact k5 u (by omega) h2⟩
    refine ⟨e', K', ?_⟩
    have l : ¬ nI j < (0 : Int32) := nI_pos (by omega)
    have p1 : nI j + -1 = kv j := by rw [← kv_pred, Int32.sub_eq_add_neg]
    have r1 : inR (nI j) 256 = true := inR_n (by omega) (by decide)
    have c1 : (nI j).toNatClampNeg = j := nI_clamp (by omega)
    rw [← ih]
    show ev X 79 30 [.ref 46, a1, a2, .int (nI j), a4] [] _ = _
    rw [s79_30]
    simp only [s79_0, s79_1, s79_2, s79_5, s79_6, s79_7, s79_10, s79_13, s79_16, s79_17, s79_18, s79_21, s79_22, s79_25, s79_26, s79_27, s79_28, s79_29, s79_31, s79_34, s79_35, s79_38, s79_39, s79_40, s79_41, s79_44, s79_45, s79_48, s79_52, s79_55, s79_56, s79_57, s79_58, s79_61, s79_62, s79_63, s79_64, s79_65, s79_66, s79_70, s79_71, s79_74, s79_77, s79_78, s79_81, s79_83, s79_84, s79_86, s79_87, s79_90, s79_91, s79_92, s79_93, s79_94, s79_97, s79_99, s79_100, s79_101, s79_102, s79_103, s79_106, s79_109, s79_110, okF, okA, mcC_o, mcF_o, mcT_i, mcT_l, mcT_z, mcT_q, mcN_i, mcN_l, mcN_z, mcN_q, mcI_i, mcI_z, mcL_l, mcQ_q, hg_hp, hp_hp, List.getD_cons_zero, List.getD_cons_succ, List.set_cons_zero, List.set_cons_succ, List.length_cons, List.length_nil, Nat.reduceAdd, Nat.reduceLT, Nat.reduceEqDiff, Nat.lt_add_one, decide_true, decide_false, Bool.and_true, Bool.true_and, Bool.and_false, Bool.false_and, Bool.false_eq_true, if_true, if_false, ↓reduceIte, Option.bind_some, Option.bind_none, kont_v, kont_n, l, RFH_46, RFH_50, RFHp_50, lb, p1, r1, c1]
theorem c_fl_lp (L : LG h 1 D) {F : Nat → WY} {u k r0 : Nat} {e : Nat → Int32} {n' : Int32} {y : Nat × (Nat → Nat)} (h46 : hg h 46 = oB 8 [.ref 1, .ref 47, .ref 48, .ref 49, .ref 50, .int n']) (h50 : hg h 50 = iA 256 e) (hu : u < 256) (eu : e u = nI y.1) (hF : ∀ r, r < D.1 5 → (ev X 84 0 [.ref 46, .int (nI k), .int (nI u), .int (nI r), .float 0] [] (h)) = some (some (.int (enc (F r))), (h))) (hr : r0 < D.1 5) (er : F r0 = some y) (hy : y.1 < 1000000) (lo : ∀ s z, s < r0 → F s = some z → y.1 < z.1 ∧ z.1 < 1000000) : ∀ (d r : Nat) (a4 : Value), r + d = r0 → ev X 85 2 [.ref 46, .int (nI k), .int (nI u), .int (nI r), a4] [] h = some (some (.int (nI r0)), (h))
  | 0, r, a4, q => by
    have q : r = r0 := by omega
    have b5 := (LBD L).2.2.2.2.1
    have l := nI_lt hr (by omega)
    have l2 : nI u < Int32.ofNat 256 := nI_lt (b := 256) hu (by decide)
    have s := hF r0 hr
    have r1 : inR (nI u) 256 = true := inR_n hu (by decide)
    have c1 : (nI u).toNatClampNeg = u := nI_clamp (by omega)
    have nm : (nI y.1 = (-1 : Int32)) = False := eq_false (nI_m1 (by omega))
    rw [er, enc_s] at s
    subst q
    rw [s85_2]
    simp only [s85_0, s85_1, s85_3, s85_4, s85_7, s85_10, s85_13, s85_16, s85_17, s85_18, s85_21, s85_22, s85_25, s85_26, s85_27, s85_28, s85_29, s85_32, s85_34, s85_36, s85_37, s85_40, s85_42, s85_43, s85_46, s85_47, s85_48, s85_51, s85_52, s85_53, s85_56, s85_59, s85_60, okF, okA, mcC_o, mcF_o, mcT_i, mcT_l, mcT_z, mcT_q, mcN_i, mcN_l, mcN_z, mcN_q, mcI_i, mcI_z, mcL_l, mcQ_q, hg_hp, hp_hp, List.getD_cons_zero, List.getD_cons_succ, List.set_cons_zero, List.set_cons_succ, List.length_cons, List.length_nil, Nat.reduceAdd, Nat.reduceLT, Nat.reduceEqDiff, Nat.lt_add_one, decide_true, decide_false, Bool.and_true, Bool.true_and, Bool.and_false, Bool.false_and, Bool.false_eq_true, if_true, if_false, ↓reduceIte, Option.bind_some, Option.bind_none, kont_v, kont_n, h46, h50, lgo L, (lt5 L).1, l, l2, Nat.zero_le, s, nm, r1, c1, eu]
  | d + 1, r, a4, q => by
    have b5 := (LBD L).2.2.2.2.1
    have l := nI_lt (show r < D.1 5 by omega) (by omega)
    have l2 : nI u < Int32.ofNat 256 := nI_lt (b := 256) hu (by decide)
    have s := hF r (by omega)
    have r1 : inR (nI u) 256 = true := inR_n hu (by decide)
    have c1 : (nI u).toNatClampNeg = u := nI_clamp (by omega)
    have p1 : nI r + 1 = nI (r + 1) := nI_add r 1
    rw [s85_2]
    cases ef : F r with
    | none =>
      rw [ef, enc_n] at s
      rw [← c_fl_lp L h46 h50 hu eu hF hr er hy lo d (r + 1) (.int (-1)) (by omega)]
      simp only [s85_0, s85_1, s85_3, s85_4, s85_7, s85_10, s85_13, s85_16, s85_17, s85_18, s85_21, s85_22, s85_25, s85_26, s85_27, s85_28, s85_29, s85_32, s85_34, s85_36, s85_37, s85_40, s85_42, s85_43, s85_46, s85_47, s85_48, s85_51, s85_52, s85_53, s85_56, s85_59, s85_60, okF, okA, mcC_o, mcF_o, mcT_i, mcT_l, mcT_z, mcT_q, mcN_i, mcN_l, mcN_z, mcN_q, mcI_i, mcI_z, mcL_l, mcQ_q, hg_hp, hp_hp, List.getD_cons_zero, List.getD_cons_succ, List.set_cons_zero, List.set_cons_succ, List.length_cons, List.length_nil, Nat.reduceAdd, Nat.reduceLT, Nat.reduceEqDiff, Nat.lt_add_one, decide_true, decide_false, Bool.and_true, Bool.true_and, Bool.and_false, Bool.false_and, Bool.false_eq_true, if_true, if_false, ↓reduceIte, Option.bind_some, Option.bind_none, kont_v, kont_n, h46, h50, lgo L, (lt5 L).1, l, l2, Nat.zero_le, s, p1]
    | some z =>
      rw [ef, enc_s] at s
      obtain ⟨z1, z2⟩ := lo r z (by omega) ef
      have nm : (nI z.1 = (-1 : Int32)) = False := eq_false (nI_m1 (by omega))
      have ne : (nI z.1 = nI y.1) = False := eq_false (fun w => by have := (nI_eq (by omega) (by omega)).mp w; omega)
      rw [← c_fl_lp L h46 h50 hu eu hF hr er hy lo d (r + 1) (.int (nI z.1)) (by omega)]
      simp only [s85_0, s85_1, s85_3, s85_4, s85_7, s85_10, s85_13, s85_16, s85_17, s85_18, s85_21, s85_22, s85_25, s85_26, s85_27, s85_28, s85_29, s85_32, s85_34, s85_36, s85_37, s85_40, s85_42, s85_43, s85_46, s85_47, s85_48, s85_51, s85_52, s85_53, s85_56, s85_59, s85_60, okF, okA, mcC_o, mcF_o, mcT_i, mcT_l, mcT_z, mcT_q, mcN_i, mcN_l, mcN_z, mcN_q, mcI_i, mcI_z, mcL_l, mcQ_q, hg_hp, hp_hp, List.getD_cons_zero, List.getD_cons_succ, List.set_cons_zero, List.set_cons_succ, List.length_cons, List.length_nil, Nat.reduceAdd, Nat.reduceLT, Nat.reduceEqDiff, Nat.lt_add_one, decide_true, decide_false, Bool.and_true, Bool.true_and, Bool.and_false, Bool.false_and, Bool.false_eq_true, if_true, if_false, ↓reduceIte, Option.bind_some, Option.bind_none, kont_v, kont_n, h46, h50, lgo L, (lt5 L).1, l, l2, Nat.zero_le, s, p1, nm, ne, r1, c1, eu]
theorem c_gr {R n : Nat} {fr hs : Nat → Nat} {a b e : Nat → Int32} {a1 a2 : Value} (L : LG B 1 D) (K : DPK D R n fr hs b e 0) : ∀ (d k u : Nat) (y : Nat × (Nat → Nat)) (c : Nat → Int32), k + d = n → pcn 32 u = k → u < 2 ^ R → rb R n fr hs d u = some y → ∃ c', (∀ i, i < k → c' i = c i) ∧ (∀ i, k ≤ i → i < n → c' i = nI (y.2 i)) ∧ ev X 79 68 [.ref 46, a1, a2, .int (nI u), .int (nI k)] [] (RFH B (nI n) a b c e) = some (some (.int (1)), (RFH B (nI n) a b c' e)) := by
  intro d
  induction d with
  | zero =>
    intro k u y c hk hp hu hy
    obtain ⟨k1, k2, k3, k4, k5⟩ := K
    have hk : k = n := by omega
    have l := nI_nlt (Nat.le_refl n) (by omega)
    have b1 : ((1 : Int32) &&& 1 = 1) = True := eq_true (by decide)
    refine ⟨c, fun _ _ => rfl, fun i h1 h2 => absurd h2 (by omega), ?_⟩
    rw [hk, s79_68]
    simp only [s79_0, s79_1, s79_2, s79_5, s79_6, s79_7, s79_10, s79_13, s79_16, s79_17, s79_18, s79_21, s79_22, s79_25, s79_26, s79_27, s79_28, s79_29, s79_31, s79_34, s79_35, s79_38, s79_39, s79_40, s79_41, s79_44, s79_45, s79_48, s79_52, s79_55, s79_56, s79_57, s79_58, s79_61, s79_62, s79_63, s79_64, s79_65, s79_66, s79_70, s79_71, s79_74, s79_77, s79_78, s79_81, s79_83, s79_84, s79_86, s79_87, s79_90, s79_91, s79_92, s79_93, s79_94, s79_97, s79_99, s79_100, s79_101, s79_102, s79_103, s79_106, s79_109, s79_110, okF, okA, mcC_o, mcF_o, mcT_i, mcT_l, mcT_z, mcT_q, mcN_i, mcN_l, mcN_z, mcN_q, mcI_i, mcI_z, mcL_l, mcQ_q, hg_hp, hp_hp, List.getD_cons_zero, List.getD_cons_succ, List.set_cons_zero, List.set_cons_succ, List.length_cons, List.length_nil, Nat.reduceAdd, Nat.reduceLT, Nat.reduceEqDiff, Nat.lt_add_one, decide_true, decide_false, Bool.and_true, Bool.true_and, Bool.and_false, Bool.false_and, Bool.false_eq_true, if_true, if_false, ↓reduceIte, Option.bind_some, Option.bind_none, kont_v, kont_n, RFH_46, l, b1]
  | succ d ihd =>
    intro k u y c hk hp hu hy
    have K' := K
    obtain ⟨k1, k2, k3, k4, k5⟩ := K
    have b5 := (LBD L).2.2.2.2.1
    have hR : 2 ^ R ≤ 256 := Nat.pow_le_pow_right (n := 2) (by decide) (show R ≤ 8 by omega)
    have sw := c_sw (X := X) (a := a) (c := c) L (u := u) ⟨k1, k2, k3, k4, fun v h1 h2 => k5 v (by omega) h2⟩ hu (by omega)
    rw [hp, show n - k - 1 = d by omega] at sw
    have hy' := hy
    rw [rb_s] at hy'
    obtain ⟨r, -, r2, r3, r4, r5⟩ := fol_some _ _ hy'
    have le : ∀ s z, s < R → rF R n fr hs d u s = some z → z.1 < 1000000 := fun s z hs' hz => rF_le (fun r hr => (k4 r hr).2) (by omega) hs' hz
    have eu : e u = nI y.1 := by
      rw [k5 u (by omega) hu]
      unfold lv
      rw [hp, if_pos (by omega), show n - k = d + 1 by omega, hy]
      rfl
    have fl := c_fl_lp (X := X) (h := RFH B (nI n) a b c e) (RFH_lg L) (F := rF R n fr hs d u) RFH_46 RFH_50 (u := u) (k := k) (by omega) eu sw (show r < D.1 5 by omega) r3 (le r y (by omega) r3) (fun s z h1 h2 => ⟨r4 s z (by omega) h1 h2, le s z (by omega) h2⟩) r 0 (.float 0) (by omega)
    rw [nI_0] at fl
    obtain ⟨hc1, hc2, x, ex, ey⟩ := rF_some r3
    obtain ⟨v1, v2, v3⟩ := (lor8 u (by omega) r (by omega)).2 hc1
    have lt : (u ||| 2 ^ r) < 2 ^ R := Nat.or_lt_two_pow hu (Nat.pow_lt_pow_right (by decide) (by omega))
    obtain ⟨c', i1, i2, i3⟩ := ihd (k + 1) (u ||| 2 ^ r) x (upd c k (nI r)) (by omega) (by omega) lt ex
    have l := nI_lt (show k < n by omega) (by omega)
    have p1 : nI k + 1 = nI (k + 1) := nI_add k 1
    have q1 : inR (nI k) 8 = true := inR_n (by omega) (by decide)
    have q2 : (nI k).toNatClampNeg = k := nI_clamp (by omega)
    have sh := nI_shl (r := r) (by omega)
    have nk : n - (d + 1) = k := by omega
    rw [nk] at ey
    refine ⟨c', fun i hi => ?_, fun i h1 h2 => ?_, ?_⟩
    · rw [i1 i (by omega), upd_ne (by omega)]
    · rw [ey]
      show _ = nI (fu x.2 k r i)
      by_cases q : i = k
      · rw [q, i1 k (by omega), upd_eq, fu_s]
      · rw [i2 i (by omega) h2, fu_n _ _ q]
    · rw [← i3, s79_68]
      simp only [s79_0, s79_1, s79_2, s79_5, s79_6, s79_7, s79_10, s79_13, s79_16, s79_17, s79_18, s79_21, s79_22, s79_25, s79_26, s79_27, s79_28, s79_29, s79_31, s79_34, s79_35, s79_38, s79_39, s79_40, s79_41, s79_44, s79_45, s79_48, s79_52, s79_55, s79_56, s79_57, s79_58, s79_61, s79_62, s79_63, s79_64, s79_65, s79_66, s79_70, s79_71, s79_74, s79_77, s79_78, s79_81, s79_83, s79_84, s79_86, s79_87, s79_90, s79_91, s79_92, s79_93, s79_94, s79_97, s79_99, s79_100, s79_101, s79_102, s79_103, s79_106, s79_109, s79_110, s85_0, s85_1, s85_3, s85_4, s85_7, s85_10, s85_13, s85_16, s85_17, s85_18, s85_21, s85_22, s85_25, s85_26, s85_27, s85_28, s85_29, s85_32, s85_34, s85_36, s85_37, s85_40, s85_42, s85_43, s85_46, s85_47, s85_48, s85_51, s85_52, s85_53, s85_56, s85_59, s85_60, okF, okA, mcC_o, mcF_o, mcT_i, mcT_l, mcT_z, mcT_q, mcN_i, mcN_l, mcN_z, mcN_q, mcI_i, mcI_z, mcL_l, mcQ_q, hg_hp, hp_hp, List.getD_cons_zero, List.getD_cons_succ, List.set_cons_zero, List.set_cons_succ, List.length_cons, List.length_nil, Nat.reduceAdd, Nat.reduceLT, Nat.reduceEqDiff, Nat.lt_add_one, decide_true, decide_false, Bool.and_true, Bool.true_and, Bool.and_false, Bool.false_and, Bool.false_eq_true, if_true, if_false, ↓reduceIte, Option.bind_some, Option.bind_none, kont_v, kont_n, RFH_46, RFH_49, RFHp_49, l, fl, p1, q1, q2, sh, nI_or, upd_eq]
theorem c_assign (L : LG B 1 D) (RR : REL D S) {m : Nat} (hm : m < 2 ^ 30) (h8 : pcn 30 m ≤ 8) (hr : ∀ b, bit m b = 1 → b < D.1 2) {fr hs : Nat → Nat} {x : Int32} {a0 b0 c e : Nat → Int32} (hf : ∀ k, k < pcn 30 m → gat (wkn D) m b0 30 k = nI (fr k) ∧ fr k < 256) (hh : ∀ r, r < D.1 5 → D.2.1 5 (r * 3 + 2) = nI (hs r) ∧ hs r ≤ 1000) : ∃ c' e', (ev X 79 0 [.ref 46, .int (nI m), .float 0, .float 0, .float 0] [] (RFH B x a0 b0 c e)) = some (some (.int (if (rb (D.1 5) (pcn 30 m) fr hs (pcn 30 m) 0).isSome = true then 1 else 0)), (RFH B (nI (pcn 30 m)) (gat nI m a0 30) (gat (wkn D) m b0 30) c' e')) ∧ ∀ y, rb (D.1 5) (pcn 30 m) fr hs (pcn 30 m) 0 = some y → ∀ i, i < pcn 30 m → c' i = nI (y.2 i) := by
  have b5 := (LBD L).2.2.2.2.1
  have hR : 2 ^ D.1 5 ≤ 256 := Nat.pow_le_pow_right (n := 2) (by decide) (show D.1 5 ≤ 8 by omega)
  have hR1 := Nat.two_pow_pos (D.1 5)
  have ga := c_gather (X := X) L RR hm h8 hr (x := x) (a0 := a0) (b0 := b0) (c := c) (e := e)
  have K0 : DPK D (D.1 5) (pcn 30 m) fr hs (gat (wkn D) m b0 30) e (2 ^ D.1 5) := ⟨rfl, h8, hf, hh, fun u h1 h2 => absurd h2 (by omega)⟩
  obtain ⟨e', K', dp⟩ := c_dp (X := X) (a := gat nI m a0 30) (c := c) (a1 := .int (nI m)) (a2 := .int (kv (2 ^ D.1 5))) (a4 := .float 0) L (2 ^ D.1 5) e (Nat.le_refl _) K0
  have e0 := K'.2.2.2.2 0 (by omega) hR1
  have p0 : pcn 32 0 = 0 := by decide
  unfold lv at e0
  rw [p0, if_pos (by omega), Nat.sub_zero] at e0
  have sh := nI_shl (r := D.1 5) (by omega)
  have mn : (if Int32.ofNat 256 < nI (2 ^ D.1 5) then Int32.ofNat 256 else nI (2 ^ D.1 5)) = nI (2 ^ D.1 5) := if_neg (nI_nlt (a := 256) hR (by decide))
  have kp : nI (2 ^ D.1 5) - 1 = kv (2 ^ D.1 5) := kv_pred
  have r0 : inR 0 256 = true := by decide
  have b1 : ((1 : Int32) &&& 1 = 1) = True := eq_true (by decide)
  have b00 : ((0 : Int32) &&& 1 = 0) = True := eq_true (by decide)
  have z0 : (0 : Int32).toNatClampNeg = 0 := by decide
  cases eq : rb (D.1 5) (pcn 30 m) fr hs (pcn 30 m) 0 with
  | none =>
    rw [eq, enc_n] at e0
    refine ⟨c, e', ?_, fun y hy => by cases hy⟩
    show _ = some (some (Value.int 0), RFH B (nI (pcn 30 m)) (gat nI m a0 30) (gat (wkn D) m b0 30) c e')
    simp only [s79_0, s79_1, s79_2, s79_5, s79_6, s79_7, s79_10, s79_13, s79_16, s79_17, s79_18, s79_21, s79_22, s79_25, s79_26, s79_27, s79_28, s79_29, s79_31, s79_34, s79_35, s79_38, s79_39, s79_40, s79_41, s79_44, s79_45, s79_48, s79_51, s79_52, s79_55, s79_56, s79_57, s79_58, s79_61, s79_62, s79_63, s79_64, s79_65, s79_66, s79_70, s79_71, s79_74, s79_77, s79_78, s79_81, s79_83, s79_84, s79_86, s79_87, s79_90, s79_91, s79_92, s79_93, s79_94, s79_97, s79_99, s79_100, s79_101, s79_102, s79_103, s79_106, s79_109, s79_110, okF, okA, mcC_o, mcF_o, mcT_i, mcT_l, mcT_z, mcT_q, mcN_i, mcN_l, mcN_z, mcN_q, mcI_i, mcI_z, mcL_l, mcQ_q, hg_hp, hp_hp, List.getD_cons_zero, List.getD_cons_succ, List.set_cons_zero, List.set_cons_succ, List.length_cons, List.length_nil, Nat.reduceAdd, Nat.reduceLT, Nat.reduceEqDiff, Nat.lt_add_one, decide_true, decide_false, Bool.and_true, Bool.true_and, Bool.and_false, Bool.false_and, Bool.false_eq_true, if_true, if_false, ↓reduceIte, Option.bind_some, Option.bind_none, kont_v, kont_n, RFH_46, RFH_50, RFH_o1, lgo L, (lt5 L).1, Nat.zero_le, ga, sh, mn, kp, dp, r0, z0, e0, b00]
  | some y =>
    rw [eq, enc_s] at e0
    obtain ⟨c', i1, i2, i3⟩ := c_gr (X := X) (a := gat nI m a0 30) (a1 := .int (nI m)) (a2 := .int (kv (2 ^ D.1 5))) L K' (pcn 30 m) 0 0 y c (by omega) p0 hR1 eq
    have yl := rb_le (T := 1000) (fun r hr => (hh r hr).2) _ _ y eq
    have : pcn 30 m * 1000 ≤ 8 * 1000 := Nat.mul_le_mul_right _ h8
    have nm : (nI y.1 = (-1 : Int32)) = False := eq_false (nI_m1 (by omega))
    rw [nI_0] at i3
    refine ⟨c', e', ?_, fun y' hy' i hi => by cases hy'; exact i2 i (by omega) hi⟩
    show _ = some (some (Value.int 1), RFH B (nI (pcn 30 m)) (gat nI m a0 30) (gat (wkn D) m b0 30) c' e')
    simp only [s79_0, s79_1, s79_2, s79_5, s79_6, s79_7, s79_10, s79_13, s79_16, s79_17, s79_18, s79_21, s79_22, s79_25, s79_26, s79_27, s79_28, s79_29, s79_31, s79_34, s79_35, s79_38, s79_39, s79_40, s79_41, s79_44, s79_45, s79_48, s79_51, s79_52, s79_55, s79_56, s79_57, s79_58, s79_61, s79_62, s79_63, s79_64, s79_65, s79_66, s79_70, s79_71, s79_74, s79_77, s79_78, s79_81, s79_83, s79_84, s79_86, s79_87, s79_90, s79_91, s79_92, s79_93, s79_94, s79_97, s79_99, s79_100, s79_101, s79_102, s79_103, s79_106, s79_109, s79_110, okF, okA, mcC_o, mcF_o, mcT_i, mcT_l, mcT_z, mcT_q, mcN_i, mcN_l, mcN_z, mcN_q, mcI_i, mcI_z, mcL_l, mcQ_q, hg_hp, hp_hp, List.getD_cons_zero, List.getD_cons_succ, List.set_cons_zero, List.set_cons_succ, List.length_cons, List.length_nil, Nat.reduceAdd, Nat.reduceLT, Nat.reduceEqDiff, Nat.lt_add_one, decide_true, decide_false, Bool.and_true, Bool.true_and, Bool.and_false, Bool.false_and, Bool.false_eq_true, if_true, if_false, ↓reduceIte, Option.bind_some, Option.bind_none, kont_v, kont_n, RFH_46, RFH_50, RFH_o1, lgo L, (lt5 L).1, Nat.zero_le, ga, sh, mn, kp, dp, r0, z0, e0, nm, i3]
end AS2

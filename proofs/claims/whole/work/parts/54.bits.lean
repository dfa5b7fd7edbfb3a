-- BITS: how many, which
theorem pcn_zero (k : Nat) : pcn k 0 = 0 := by
  induction k with
  | zero => rfl
  | succ k ih => show 0 % 2 + pcn k (0 / 2) = 0; rw [show 0 / 2 = 0 from rfl, ih]
theorem pcn_more : ∀ (k d m : Nat), m < 2 ^ k → pcn (k + d) m = pcn k m
  | 0, d, m, h => by
    have : m = 0 := by omega
    rw [this, pcn_zero, pcn_zero]
  | k + 1, d, m, h => by
    rw [Nat.add_right_comm]
    show m % 2 + pcn (k + d) (m / 2) = m % 2 + pcn k (m / 2)
    rw [pcn_more k d (m / 2) (by rw [Nat.pow_succ] at h; omega)]
theorem pcn_add : ∀ (a b m : Nat), pcn (a + b) m = pcn a m + pcn b (m / 2 ^ a)
  | 0, b, m => by rw [Nat.zero_add, Nat.pow_zero, Nat.div_one]; show _ = 0 + _; omega
  | a + 1, b, m => by
    rw [Nat.add_right_comm]
    show m % 2 + pcn (a + b) (m / 2) = m % 2 + pcn a (m / 2) + _
    rw [pcn_add a b (m / 2), Nat.div_div_eq_div_mul, Nat.pow_succ, Nat.mul_comm 2]
    omega
theorem pcn_mod : ∀ (a m : Nat), pcn a (m % 2 ^ a) = pcn a m
  | 0, m => rfl
  | a + 1, m => by
    show m % 2 ^ (a + 1) % 2 + pcn a (m % 2 ^ (a + 1) / 2) = m % 2 + pcn a (m / 2)
    have e1 : m % 2 ^ (a + 1) % 2 = m % 2 := Nat.mod_mod_of_dvd _ ⟨2 ^ a, by rw [Nat.pow_succ, Nat.mul_comm]⟩
    have e2 : m % 2 ^ (a + 1) / 2 = (m / 2) % 2 ^ a := by
      rw [Nat.pow_succ, Nat.mul_comm, Nat.mod_mul_right_div_self]
    rw [e1, e2, pcn_mod a (m / 2)]
def bya (z : Nat) : Nat := z - ((z / 2) &&& 85)
def byb (z : Nat) : Nat := (z &&& 51) + ((z / 4) &&& 51)
def byc (z : Nat) : Nat := (z + z / 16) % 16
theorem by_1 : ∀ b, b < 256 → ∀ c, c < 2 → ((b / 2 + 128 * c) &&& 85) = ((b / 2) &&& 85) := by decide +kernel
theorem by_2 : ∀ b, b < 256 → ((b / 2) &&& 85) ≤ b := by decide +kernel
theorem by_3 : ∀ b, b < 256 → ∀ c, c < 4 → ((b / 4 + 64 * c) &&& 51) = ((b / 4) &&& 51) := by decide +kernel
theorem by_4 : ∀ b, b < 256 → byb b < 256 := by decide +kernel
theorem by_5 : ∀ b, b < 256 → bya b < 256 ∧ byb (bya b) % 16 ≤ 4 ∧ byb (bya b) / 16 ≤ 4 ∧ byc (byb (bya b)) = pcn 8 b ∧ pcn 8 b ≤ 8 := by decide +kernel
theorem and_split (x y : Nat) : (x &&& y) = ((x % 256) &&& (y % 256)) + 256 * ((x / 256) &&& (y / 256)) := by
  have h1 : (x &&& y) % 2 ^ 8 = (x % 2 ^ 8) &&& (y % 2 ^ 8) := Nat.and_mod_two_pow
  have h2 : (x &&& y) / 2 ^ 8 = (x / 2 ^ 8) &&& (y / 2 ^ 8) := Nat.and_div_two_pow
  have h3 := Nat.mod_add_div (x &&& y) (2 ^ 8)
  rw [h1, h2] at h3
  exact h3.symm
theorem and4 {x0 x1 x2 x3 k : Nat} (h0 : x0 < 256) (h1 : x1 < 256) (h2 : x2 < 256) (h3 : x3 < 256) (hk : k < 256) : (x0 + 256 * (x1 + 256 * (x2 + 256 * x3)) &&& (k + 256 * (k + 256 * (k + 256 * k)))) = (x0 &&& k) + 256 * ((x1 &&& k) + 256 * ((x2 &&& k) + 256 * (x3 &&& k))) := by
  rw [and_split, show (x0 + 256 * (x1 + 256 * (x2 + 256 * x3))) % 256 = x0 by omega, show (k + 256 * (k + 256 * (k + 256 * k))) % 256 = k by omega, show (x0 + 256 * (x1 + 256 * (x2 + 256 * x3))) / 256 = x1 + 256 * (x2 + 256 * x3) by omega, show (k + 256 * (k + 256 * (k + 256 * k))) / 256 = k + 256 * (k + 256 * k) by omega]
  rw [and_split (x1 + 256 * (x2 + 256 * x3)), show (x1 + 256 * (x2 + 256 * x3)) % 256 = x1 by omega, show (k + 256 * (k + 256 * k)) % 256 = k by omega, show (x1 + 256 * (x2 + 256 * x3)) / 256 = x2 + 256 * x3 by omega, show (k + 256 * (k + 256 * k)) / 256 = k + 256 * k by omega]
  rw [and_split (x2 + 256 * x3), show (x2 + 256 * x3) % 256 = x2 by omega, show (k + 256 * k) % 256 = k by omega, show (x2 + 256 * x3) / 256 = x3 by omega, show (k + 256 * k) / 256 = k by omega]
theorem fin4 {a b c d : Nat} (ha : a ≤ 8) (hb : b ≤ 8) (hc : c ≤ 8) (hd : d ≤ 8) : (a + 256 * (b + 256 * (c + 256 * d)) + (a + 256 * (b + 256 * (c + 256 * d))) / 256 + (a + 256 * (b + 256 * (c + 256 * d)) + (a + 256 * (b + 256 * (c + 256 * d))) / 256) / 65536) % 64 = a + (b + (c + d)) := by
  have e1 : (a + 256 * (b + 256 * (c + 256 * d))) / 256 = b + 256 * (c + 256 * d) := by omega
  rw [e1]
  have e2 : (a + 256 * (b + 256 * (c + 256 * d)) + (b + 256 * (c + 256 * d))) / 65536 = c + d + 256 * d := by omega
  rw [e2]
  omega
theorem swar {m : Nat} (hm : m < 4294967296) : ∃ i1 i2 i3 : Nat, i1 = m - ((m / 2) &&& 1431655765) ∧ ((m / 2) &&& 1431655765) ≤ m ∧ i2 = (i1 &&& 858993459) + ((i1 / 4) &&& 858993459) ∧ i3 = ((i2 + i2 / 16) &&& 252645135) ∧ i1 < 4294967296 ∧ i2 < 4294967296 ∧ i2 + i2 / 16 < 4294967296 ∧ i3 + i3 / 256 < 4294967296 ∧ (i3 + i3 / 256) + (i3 + i3 / 256) / 65536 < 4294967296 ∧ ((i3 + i3 / 256) + (i3 + i3 / 256) / 65536) % 64 = pcn 32 m := by
  obtain ⟨b0, b1, b2, b3, h0, h1, h2, h3, em⟩ : ∃ b0 b1 b2 b3, b0 < 256 ∧ b1 < 256 ∧ b2 < 256 ∧ b3 < 256 ∧ m = b0 + 256 * (b1 + 256 * (b2 + 256 * b3)) := ⟨m % 256, m / 256 % 256, m / 65536 % 256, m / 16777216, by omega, by omega, by omega, by omega, by omega⟩
  obtain ⟨p0, q0, r0, s0, t0⟩ := by_5 b0 h0
  obtain ⟨p1, q1, r1, s1, t1⟩ := by_5 b1 h1
  obtain ⟨p2, q2, r2, s2, t2⟩ := by_5 b2 h2
  obtain ⟨p3, q3, r3, s3, t3⟩ := by_5 b3 h3
  have u0 := by_2 b0 h0
  have u1 := by_2 b1 h1
  have u2 := by_2 b2 h2
  have u3 := by_2 b3 h3
  have a1 : ((m / 2) &&& 1431655765) = ((b0 / 2) &&& 85) + 256 * (((b1 / 2) &&& 85) + 256 * (((b2 / 2) &&& 85) + 256 * ((b3 / 2) &&& 85))) := by
    rw [em, show (b0 + 256 * (b1 + 256 * (b2 + 256 * b3))) / 2 = (b0 / 2 + 128 * (b1 % 2)) + 256 * ((b1 / 2 + 128 * (b2 % 2)) + 256 * ((b2 / 2 + 128 * (b3 % 2)) + 256 * (b3 / 2 + 128 * 0))) by omega, show 1431655765 = 85 + 256 * (85 + 256 * (85 + 256 * 85)) from rfl, and4 (by omega) (by omega) (by omega) (by omega) (by omega), by_1 b0 h0 _ (by omega), by_1 b1 h1 _ (by omega), by_1 b2 h2 _ (by omega), by_1 b3 h3 _ (by omega)]
  have e1 : m - ((m / 2) &&& 1431655765) = bya b0 + 256 * (bya b1 + 256 * (bya b2 + 256 * bya b3)) := by
    rw [a1, em]
    unfold bya
    omega
  have a2 : (bya b0 + 256 * (bya b1 + 256 * (bya b2 + 256 * bya b3)) &&& 858993459) + ((bya b0 + 256 * (bya b1 + 256 * (bya b2 + 256 * bya b3))) / 4 &&& 858993459) = byb (bya b0) + 256 * (byb (bya b1) + 256 * (byb (bya b2) + 256 * byb (bya b3))) := by
    rw [show 858993459 = 51 + 256 * (51 + 256 * (51 + 256 * 51)) from rfl, and4 p0 p1 p2 p3 (by omega), show (bya b0 + 256 * (bya b1 + 256 * (bya b2 + 256 * bya b3))) / 4 = (bya b0 / 4 + 64 * (bya b1 % 4)) + 256 * ((bya b1 / 4 + 64 * (bya b2 % 4)) + 256 * ((bya b2 / 4 + 64 * (bya b3 % 4)) + 256 * (bya b3 / 4 + 64 * 0))) by omega, and4 (by omega) (by omega) (by omega) (by omega) (by omega), by_3 _ p0 _ (by omega), by_3 _ p1 _ (by omega), by_3 _ p2 _ (by omega), by_3 _ p3 _ (by omega)]
    unfold byb
    omega
  have b0' := by_4 _ p0
  have b1' := by_4 _ p1
  have b2' := by_4 _ p2
  have b3' := by_4 _ p3
  have and15 : ∀ z, (z &&& 15) = z % 16 := fun z => Nat.and_two_pow_sub_one_eq_mod z 4
  have a3 : (byb (bya b0) + 256 * (byb (bya b1) + 256 * (byb (bya b2) + 256 * byb (bya b3))) + (byb (bya b0) + 256 * (byb (bya b1) + 256 * (byb (bya b2) + 256 * byb (bya b3)))) / 16 &&& 252645135) = pcn 8 b0 + 256 * (pcn 8 b1 + 256 * (pcn 8 b2 + 256 * pcn 8 b3)) := by
    rw [show byb (bya b0) + 256 * (byb (bya b1) + 256 * (byb (bya b2) + 256 * byb (bya b3))) + (byb (bya b0) + 256 * (byb (bya b1) + 256 * (byb (bya b2) + 256 * byb (bya b3)))) / 16 = (byb (bya b0) + byb (bya b0) / 16 + 16 * (byb (bya b1) % 16)) + 256 * ((byb (bya b1) + byb (bya b1) / 16 + 16 * (byb (bya b2) % 16)) + 256 * ((byb (bya b2) + byb (bya b2) / 16 + 16 * (byb (bya b3) % 16)) + 256 * (byb (bya b3) + byb (bya b3) / 16))) by omega, show 252645135 = 15 + 256 * (15 + 256 * (15 + 256 * 15)) from rfl, and4 (by omega) (by omega) (by omega) (by omega) (by omega), and15, and15, and15, and15, ← s0, ← s1, ← s2, ← s3]
    unfold byc
    omega
  have tot : pcn 32 m = pcn 8 b0 + (pcn 8 b1 + (pcn 8 b2 + pcn 8 b3)) := by
    have k1 := pcn_add 8 24 m
    have k2 := pcn_add 8 16 (m / 2 ^ 8)
    have k3 := pcn_add 8 8 (m / 2 ^ 8 / 2 ^ 8)
    have m0 := pcn_mod 8 m
    have m1 := pcn_mod 8 (m / 2 ^ 8)
    have m2 := pcn_mod 8 (m / 2 ^ 8 / 2 ^ 8)
    rw [show m % 2 ^ 8 = b0 by omega] at m0
    rw [show m / 2 ^ 8 % 2 ^ 8 = b1 by omega] at m1
    rw [show m / 2 ^ 8 / 2 ^ 8 % 2 ^ 8 = b2 by omega] at m2
    rw [show m / 2 ^ 8 / 2 ^ 8 / 2 ^ 8 = b3 by omega] at k3
    show pcn (8 + 24) m = _
    rw [k1, show pcn 24 (m / 2 ^ 8) = pcn (8 + 16) (m / 2 ^ 8) from rfl, k2, show pcn 16 (m / 2 ^ 8 / 2 ^ 8) = pcn (8 + 8) (m / 2 ^ 8 / 2 ^ 8) from rfl, k3, m0, m1, m2]
  refine ⟨_, _, _, rfl, by rw [a1]; omega, rfl, rfl, ?_⟩
  rw [e1, a2, a3, tot]
  refine ⟨by omega, by omega, by omega, by omega, by omega, fin4 t0 t1 t2 t3⟩
theorem nI_and (a b : Nat) : nI a &&& nI b = nI (a &&& b) := by
  unfold nI
  apply Int32.toBitVec_inj.mp
  simp
section BIT
variable {X : MX} {h : MH}
theorem c_bitCount {m : Nat} (hm : m < 2 ^ 31) : (ev X 241 0 [.int (nI m)] [] (h)) = some (some (.int (nI (pcn 32 m))), (h)) := by
  obtain ⟨i1, i2, i3, e1, l1, e2, e3, h1, h2, h3, h4, h5, h6⟩ := swar (m := m) (by omega)
  have u : ∀ (s : Int32) (k n : Nat), n < 2 ^ 32 → ((s.toUInt32 &&& Int32.toUInt32 31).toBitVec % 32).toNat = k → ((nI n).toUInt32 >>> (s.toUInt32 &&& Int32.toUInt32 31)).toInt32 = nI (n / 2 ^ k) := fun s k n hn hs => pk_ushrN hn s k hs
  have v1 := u 1 1 m (by omega) (by decide)
  have v2 := u 2 2 i1 (by omega) (by decide)
  have v3 := u 4 4 i2 (by omega) (by decide)
  have v4 := u 8 8 i3 (by omega) (by decide)
  have v5 := u 16 16 (i3 + i3 / 256) (by omega) (by decide)
  simp only [Nat.reducePow] at v1 v2 v3 v4 v5
  have c1 : (1431655765 : Int32) = nI 1431655765 := rfl
  have c2 : (858993459 : Int32) = nI 858993459 := rfl
  have c3 : (252645135 : Int32) = nI 252645135 := rfl
  have c4 : (63 : Int32) = nI 63 := rfl
  have s1 := nI_sub l1
  have a6 : nI (i3 + i3 / 256 + (i3 + i3 / 256) / 65536) &&& nI 63 = nI (pcn 32 m) := by
    rw [nI_and, show (i3 + i3 / 256 + (i3 + i3 / 256) / 65536 &&& 63) = (i3 + i3 / 256 + (i3 + i3 / 256) / 65536) % 64 from Nat.and_two_pow_sub_one_eq_mod _ 6, h6]
  simp only [s241_0, s241_1, s241_2, s241_3, s241_4, s241_7, s241_8, s241_9, s241_10, s241_11, s241_14, s241_15, s241_16, s241_17, s241_18, s241_21, s241_22, s241_23, s241_24, s241_25, s241_26, s241_27, s241_28, s241_29, s241_32, s241_33, s241_34, s241_35, s241_36, s241_38, s241_39, s241_40, s241_41, s241_42, s241_43, s241_45, s241_46, s241_47, s241_48, s241_49, s241_51, s241_52, okF, okA, mcC_o, mcF_o, mcT_i, mcT_l, mcT_z, mcT_q, mcN_i, mcN_l, mcN_z, mcN_q, mcI_i, mcI_z, mcL_l, mcQ_q, hg_hp, hp_hp, List.getD_cons_zero, List.getD_cons_succ, List.set_cons_zero, List.set_cons_succ, List.length_cons, List.length_nil, Nat.reduceAdd, Nat.reduceLT, Nat.reduceEqDiff, Nat.lt_add_one, decide_true, decide_false, Bool.and_true, Bool.true_and, Bool.and_false, Bool.false_and, Bool.false_eq_true, if_true, if_false, ↓reduceIte, Option.bind_some, Option.bind_none, kont_v, kont_n, v1, c1, nI_and, s1, ← e1, v2, c2, nI_add, ← e2, v3, c3, ← e3, v4, v5, c4]
  rw [← nI_and, a6]
theorem sh_ok : ∀ r, r < 32 → ((nI r &&& 31 : Int32).toBitVec.smod 32).toNat = r := by decide
theorem nI_shr {m r : Nat} (hm : m < 2 ^ 31) (hr : r < 32) : nI m >>> (nI r &&& 31) = nI (m / 2 ^ r) := pk_shrN hm _ r (sh_ok r hr)
theorem nI_shl {r : Nat} (hr : r < 31) : (1 : Int32) <<< (nI r &&& 31) = nI (2 ^ r) := by
  have := pk_shlN (n := 1) (nI r &&& 31) r (sh_ok r (by omega)) (by rw [Nat.one_mul]; exact Nat.pow_lt_pow_right (by decide) (by omega))
  rw [Nat.one_mul] at this
  exact this
theorem nI_bit {m : Nat} (hm : m < 2 ^ 31) : nI m &&& 1 = nI (m % 2) := by
  have := pk_andN (n := m) (by omega) (m := 1) 1 (by decide)
  exact this
theorem m_size_loop {a0 : Value} : ∀ (k m n : Nat), m < 2 ^ k → k ≤ 31 → ev X 181 4 [a0, .int (nI n), .int (nI m)] [] h = some (some (.int (nI (n + pcn k m))), (h))
  | 0, m, n, hm, hk => by
    have : m = 0 := by omega
    subst this
    rw [s181_4]
    simp only [s181_0, s181_1, s181_2, s181_3, s181_5, s181_8, s181_9, s181_10, s181_11, s181_12, s181_13, s181_14, s181_15, s181_16, s181_17, s181_18, s181_21, s181_22, okF, okA, mcC_o, mcF_o, mcT_i, mcT_l, mcT_z, mcT_q, mcN_i, mcN_l, mcN_z, mcN_q, mcI_i, mcI_z, mcL_l, mcQ_q, hg_hp, hp_hp, List.getD_cons_zero, List.getD_cons_succ, List.set_cons_zero, List.set_cons_succ, List.length_cons, List.length_nil, Nat.reduceAdd, Nat.reduceLT, Nat.reduceEqDiff, Nat.lt_add_one, decide_true, decide_false, Bool.and_true, Bool.true_and, Bool.and_false, Bool.false_and, Bool.false_eq_true, if_true, if_false, ↓reduceIte, Option.bind_some, Option.bind_none, kont_v, kont_n, nI_0, show ¬ (0 : Int32) < 0 by decide, pcn, Nat.add_zero]
  | k + 1, m, n, hm, hk => by
    have h31 : 2 ^ (k + 1) ≤ 2 ^ 31 := Nat.pow_le_pow_right (by decide) hk
    by_cases h0 : m = 0
    · subst h0
      rw [s181_4]
      simp only [s181_0, s181_1, s181_2, s181_3, s181_5, s181_8, s181_9, s181_10, s181_11, s181_12, s181_13, s181_14, s181_15, s181_16, s181_17, s181_18, s181_21, s181_22, okF, okA, mcC_o, mcF_o, mcT_i, mcT_l, mcT_z, mcT_q, mcN_i, mcN_l, mcN_z, mcN_q, mcI_i, mcI_z, mcL_l, mcQ_q, hg_hp, hp_hp, List.getD_cons_zero, List.getD_cons_succ, List.set_cons_zero, List.set_cons_succ, List.length_cons, List.length_nil, Nat.reduceAdd, Nat.reduceLT, Nat.reduceEqDiff, Nat.lt_add_one, decide_true, decide_false, Bool.and_true, Bool.true_and, Bool.and_false, Bool.false_and, Bool.false_eq_true, if_true, if_false, ↓reduceIte, Option.bind_some, Option.bind_none, kont_v, kont_n, nI_0, show ¬ (0 : Int32) < 0 by decide, pcn_zero, Nat.add_zero]
    · have hp : (0 : Int32) < nI m := by rw [nl_0, nI_ltI (by omega) (by omega)]; omega
      have e1 := nI_bit (m := m) (by omega)
      have e2 : nI m >>> ((1 : Int32) &&& 31) = nI (m / 2) := nI_shr (r := 1) (by omega) (by decide)
      have ih := m_size_loop (a0 := a0) k (m / 2) (n + m % 2) (by rw [Nat.pow_succ] at hm; omega) (by omega)
      rw [s181_4]
      simp only [s181_0, s181_1, s181_2, s181_3, s181_5, s181_8, s181_9, s181_10, s181_11, s181_12, s181_13, s181_14, s181_15, s181_16, s181_17, s181_18, s181_21, s181_22, okF, okA, mcC_o, mcF_o, mcT_i, mcT_l, mcT_z, mcT_q, mcN_i, mcN_l, mcN_z, mcN_q, mcI_i, mcI_z, mcL_l, mcQ_q, hg_hp, hp_hp, List.getD_cons_zero, List.getD_cons_succ, List.set_cons_zero, List.set_cons_succ, List.length_cons, List.length_nil, Nat.reduceAdd, Nat.reduceLT, Nat.reduceEqDiff, Nat.lt_add_one, decide_true, decide_false, Bool.and_true, Bool.true_and, Bool.and_false, Bool.false_and, Bool.false_eq_true, if_true, if_false, ↓reduceIte, Option.bind_some, Option.bind_none, kont_v, kont_n, hp, e1, e2, nI_add]
      rw [ih]
      show _ = some (some (Value.int (nI (n + (m % 2 + pcn k (m / 2))))), h)
      rw [Nat.add_assoc]
theorem m_sizeOf {m : Nat} (hm : m < 2 ^ 31) : (ev X 181 0 [.int (nI m), .float 0, .float 0] [] (h)) = some (some (.int (nI (pcn 32 m))), (h)) := by
  have ih := m_size_loop (X := X) (h := h) (a0 := Value.int (nI m)) 31 m 0 hm (by decide)
  rw [nI_0, Nat.zero_add, ← pcn_more 31 1 m hm] at ih
  simp only [s181_0, s181_1, s181_2, s181_3, s181_5, s181_8, s181_9, s181_10, s181_11, s181_12, s181_13, s181_14, s181_15, s181_16, s181_17, s181_18, s181_21, s181_22, okF, okA, mcC_o, mcF_o, mcT_i, mcT_l, mcT_z, mcT_q, mcN_i, mcN_l, mcN_z, mcN_q, mcI_i, mcI_z, mcL_l, mcQ_q, hg_hp, hp_hp, List.getD_cons_zero, List.getD_cons_succ, List.set_cons_zero, List.set_cons_succ, List.length_cons, List.length_nil, Nat.reduceAdd, Nat.reduceLT, Nat.reduceEqDiff, Nat.lt_add_one, decide_true, decide_false, Bool.and_true, Bool.true_and, Bool.and_false, Bool.false_and, Bool.false_eq_true, if_true, if_false, ↓reduceIte, Option.bind_some, Option.bind_none, kont_v, kont_n]
  exact ih
end BIT

-- HOUR: the bouts of one hour
theorem nI_or (a b : Nat) : nI a ||| nI b = nI (a ||| b) := by
  unfold nI
  apply Int32.toBitVec_inj.mp
  simp
theorem pcn_s (b m : Nat) : pcn (b + 1) m = pcn b m + bit m b := by
  rw [pcn_add b 1 m]
  show _ = _ + m / 2 ^ b % 2
  rfl
theorem pcn_mo {b c m : Nat} (h : b ≤ c) : pcn b m ≤ pcn c m := by
  obtain ⟨d, rfl⟩ : ∃ d, c = b + d := ⟨c - b, by omega⟩
  rw [pcn_add]; omega
/-- what lies in a row when the bits below b of m are gone through -/
def gat (v : Nat → Int32) (m : Nat) (a : Nat → Int32) : Nat → Nat → Int32
  | 0 => a
  | b + 1 => if bit m b = 1 then upd (gat v m a b) (pcn b m) (v b) else gat v m a b
theorem gat_at {v : Nat → Int32} {m : Nat} {a : Nat → Int32} {b : Nat} (hb : bit m b = 1) : ∀ c, b < c → gat v m a c (pcn b m) = v b
  | 0, h => absurd h (by omega)
  | c + 1, h => by
    rw [gat]
    by_cases e : b = c
    · subst e; rw [if_pos hb, upd_eq]
    · have ih := gat_at (v := v) (a := a) hb c (by omega)
      have := pcn_mo (m := m) (show b + 1 ≤ c by omega)
      rw [pcn_s, hb] at this
      by_cases q : bit m c = 1
      · rw [if_pos q, upd_ne (by omega)]; exact ih
      · rw [if_neg q]; exact ih
theorem gat_ix {m : Nat} : ∀ (c i : Nat), i < pcn c m → ∃ b, b < c ∧ bit m b = 1 ∧ pcn b m = i
  | 0, i, h => absurd h (by show ¬ i < 0; omega)
  | c + 1, i, h => by
    rw [pcn_s] at h
    by_cases q : i < pcn c m
    · obtain ⟨b, b1, b2, b3⟩ := gat_ix c i q
      exact ⟨b, by omega, b2, b3⟩
    · have := bit_01 m c
      exact ⟨c, by omega, by omega, by omega⟩
theorem gat_rest {v : Nat → Int32} {m : Nat} {a : Nat → Int32} {b : Nat} : ∀ d, pcn (b + d) m = pcn b m → gat v m a (b + d) = gat v m a b
  | 0, _ => rfl
  | d + 1, h => by
    rw [← Nat.add_assoc, pcn_s] at h
    have := pcn_mo (m := m) (show b ≤ b + d by omega)
    rw [← Nat.add_assoc, gat, if_neg (by omega)]
    exact gat_rest d (by omega)
theorem pcn_pow {m k : Nat} (h : m < 2 ^ k) (d : Nat) : pcn (k + d) m = pcn k m := pcn_more k d m h
/-- bits that stand for those below r for whom Q holds -/
def wkm (Q : Nat → Bool) : Nat → Nat
  | 0 => 0
  | r + 1 => if Q r = true then wkm Q r ||| 2 ^ r else wkm Q r
theorem lor_pow {x r : Nat} (h : x < 2 ^ r) : x ||| 2 ^ r = x + 2 ^ r := by
  have := Nat.two_pow_add_eq_or_of_lt h 1
  rw [Nat.mul_one] at this
  rw [Nat.or_comm, ← this, Nat.add_comm]
theorem wkm_lt (Q : Nat → Bool) : ∀ r, wkm Q r < 2 ^ r
  | 0 => by show 0 < 1; omega
  | r + 1 => by
    have ih := wkm_lt Q r
    rw [wkm, Nat.pow_succ]
    split
    · rw [lor_pow ih]; omega
    · omega
theorem bit_h0 {x r : Nat} (h : x < 2 ^ r) : bit x r = 0 := by
  unfold bit
  rw [Nat.div_eq_of_lt h]
theorem bit_tb (x r : Nat) : bit x r = 1 ↔ x.testBit r = true := by
  unfold bit
  rw [Nat.testBit_eq_decide_div_mod_eq]
  simp
theorem wkm_bit (Q : Nat → Bool) : ∀ R r, bit (wkm Q R) r = 1 ↔ r < R ∧ Q r = true
  | 0, r => by
    rw [bit_tb]
    show (Nat.testBit 0 r) = true ↔ _
    simp
  | R + 1, r => by
    have ih := wkm_bit Q R r
    rw [bit_tb] at ih ⊢
    rw [wkm]
    by_cases q : Q R = true
    · rw [if_pos q, Nat.testBit_or, Bool.or_eq_true, ih, Nat.testBit_two_pow]
      simp only [decide_eq_true_eq]
      constructor
      · rintro (⟨h1, h2⟩ | h)
        · exact ⟨by omega, h2⟩
        · subst h; exact ⟨by omega, q⟩
      · rintro ⟨h1, h2⟩
        by_cases e : R = r
        · exact Or.inr e
        · exact Or.inl ⟨by omega, h2⟩
    · rw [if_neg q, ih]
      constructor
      · rintro ⟨h1, h2⟩; exact ⟨by omega, h2⟩
      · rintro ⟨h1, h2⟩
        by_cases e : r = R
        · subst e; exact absurd h2 q
        · exact ⟨by omega, h2⟩
/-- a referee and a fencer have a club or a land in common -/
def kin (D : LD) (r f : Nat) : Bool := decide (D.2.1 5 (r * 3 + 0) = D.2.1 1 (f * 3 + 0)) || decide (D.2.1 5 (r * 3 + 1) = D.2.1 1 (f * 3 + 1))
/-- who may serve at a bout -/
def may (D : LD) (b r : Nat) : Bool := !kin D r (D.2.1 2 (b * 17 + 0)).toNatClampNeg && !kin D r (D.2.1 2 (b * 17 + 1)).toNatClampNeg
theorem hp_sw {h : MH} {a b : Nat} {c d : MC} (n : a ≠ b) : hp (hp h a c) b d = hp (hp h b d) a c := by
  unfold hp
  simp only [Prod.mk.injEq, true_and]
  funext j
  by_cases q : j = b
  · subst q; rw [if_pos rfl, if_neg (fun z => n z.symm), if_pos rfl]
  · rw [if_neg q, if_neg q]
/-- the class's cells that serve -/
def RFH (B : MH) (m : Int32) (a b c e : Nat → Int32) : MH := hp (hp (hp (hp (hp B 46 (oB 8 [.ref 1, .ref 47, .ref 48, .ref 49, .ref 50, .int m])) 47 (iA 8 a)) 48 (iA 8 b)) 49 (iA 8 c)) 50 (iA 256 e)
section SHS
variable {B : MH} {m : Int32} {a b c e : Nat → Int32}
theorem RFH_46 : hg (RFH B m a b c e) 46 = oB 8 [.ref 1, .ref 47, .ref 48, .ref 49, .ref 50, .int m] := Eq.trans rfl rfl
theorem RFH_47 : hg (RFH B m a b c e) 47 = iA 8 a := Eq.trans rfl rfl
theorem RFH_48 : hg (RFH B m a b c e) 48 = iA 8 b := Eq.trans rfl rfl
theorem RFH_49 : hg (RFH B m a b c e) 49 = iA 8 c := Eq.trans rfl rfl
theorem RFH_50 : hg (RFH B m a b c e) 50 = iA 256 e := Eq.trans rfl rfl
theorem RFH_o {k : Nat} (hk : k < 46 ∨ 50 < k) : hg (RFH B m a b c e) k = hg B k := by
  unfold RFH
  rw [hg_hp, if_neg (by omega), hg_hp, if_neg (by omega), hg_hp, if_neg (by omega), hg_hp, if_neg (by omega), hg_hp, if_neg (by omega)]
theorem RFHp_46 {x : Int32} : hp (RFH B m a b c e) 46 (oB 8 [.ref 1, .ref 47, .ref 48, .ref 49, .ref 50, .int x]) = RFH B x a b c e := by
  unfold RFH
  rw [hp_sw (by decide : (50 : Nat) ≠ 46), hp_sw (by decide : (49 : Nat) ≠ 46), hp_sw (by decide : (48 : Nat) ≠ 46), hp_sw (by decide : (47 : Nat) ≠ 46), hp_hp]
theorem RFHp_47 {x : Nat → Int32} : hp (RFH B m a b c e) 47 (iA 8 x) = RFH B m x b c e := by
  unfold RFH
  rw [hp_sw (by decide : (50 : Nat) ≠ 47), hp_sw (by decide : (49 : Nat) ≠ 47), hp_sw (by decide : (48 : Nat) ≠ 47), hp_hp]
theorem RFHp_48 {x : Nat → Int32} : hp (RFH B m a b c e) 48 (iA 8 x) = RFH B m a x c e := by
  unfold RFH
  rw [hp_sw (by decide : (50 : Nat) ≠ 48), hp_sw (by decide : (49 : Nat) ≠ 48), hp_hp]
theorem RFHp_49 {x : Nat → Int32} : hp (RFH B m a b c e) 49 (iA 8 x) = RFH B m a b x e := by
  unfold RFH
  rw [hp_sw (by decide : (50 : Nat) ≠ 49), hp_hp]
theorem RFHp_50 {x : Nat → Int32} : hp (RFH B m a b c e) 50 (iA 256 x) = RFH B m a b c x := by
  unfold RFH
  rw [hp_hp]
theorem RFH_lg {D : LD} (L : LG B 1 D) : LG (RFH B m a b c e) 1 D := L.same (fun k h1 h2 => RFH_o (by omega))
end SHS
theorem REL.ends {D : LD} {S : Nat → Int32} (R : REL D S) {b : Nat} (hb : b < D.1 2) : ∃ x y : Nat, x < 16 ∧ y < 16 ∧ D.2.1 2 (b * 17 + 0) = nI x ∧ D.2.1 2 (b * 17 + 1) = nI y := by
  obtain ⟨p1, p2, p3, k, n, L, a, b', q1, q2, q3, q4, q5, q6, q7, q8, q9, q10, q11, q12, q13, q14, q15, q16, q17, q18, q19⟩ := R.2.2.2.2 b hb
  exact ⟨a, b', q16, q18, (p1 0 (by decide)).trans q15, (p1 1 (by decide)).trans q17⟩
section HOU
variable {X : MX} {t : Nat} {h B : MH} {D : LD} {S IM KP : Nat → Int32}
theorem c_isKin (L : LG h 1 D) (h46 : ∃ m : Int32, hg h 46 = oB 8 [.ref 1, .ref 47, .ref 48, .ref 49, .ref 50, .int m]) {r f : Nat} (hr : r < 8) (hf : f < 16) : (ev X 82 0 [.ref 46, .int (nI r), .int (nI f)] [] (h)) = some (some (.int (if kin D r f = true then 1 else 0)), (h)) := by
  obtain ⟨m, h46⟩ := h46
  have g0 := (lt5 L).get' (X := X) (r := r) (q := 0) rfl (q' := 0) rfl hr (by decide)
  have g1 := (lt5 L).get' (X := X) (r := r) (q := 1) rfl (q' := 1) rfl hr (by decide)
  have f0 := (lt1 L).get' (X := X) (r := f) (q := 0) rfl (q' := 0) rfl hf (by decide)
  have f1 := (lt1 L).get' (X := X) (r := f) (q := 1) rfl (q' := 1) rfl hf (by decide)
  have b1 : ((1 : Int32) &&& 1 = 1) = True := eq_true (by decide)
  have b0 : ((0 : Int32) &&& 1 = 0) = True := eq_true (by decide)
  by_cases e0 : D.2.1 5 (r * 3 + 0) = D.2.1 1 (f * 3 + 0)
  · have k : kin D r f = true := by unfold kin; rw [decide_eq_true e0]; rfl
    have e0' := eq_true e0
    simp only [s82_0, s82_1, s82_4, s82_7, s82_8, s82_9, s82_12, s82_13, s82_16, s82_19, s82_20, s82_21, s82_24, s82_27, s82_28, s82_31, s82_34, s82_35, s82_36, s82_39, s82_40, s82_43, s82_46, s82_47, s82_48, s82_51, s82_54, s82_55, s82_58, s82_59, okF, okA, mcC_o, mcF_o, mcT_i, mcT_l, mcT_z, mcT_q, mcN_i, mcN_l, mcN_z, mcN_q, mcI_i, mcI_z, mcL_l, mcQ_q, hg_hp, hp_hp, List.getD_cons_zero, List.getD_cons_succ, List.set_cons_zero, List.set_cons_succ, List.length_cons, List.length_nil, Nat.reduceAdd, Nat.reduceLT, Nat.reduceEqDiff, Nat.lt_add_one, decide_true, decide_false, Bool.and_true, Bool.true_and, Bool.and_false, Bool.false_and, Bool.false_eq_true, if_true, if_false, ↓reduceIte, Option.bind_some, Option.bind_none, kont_v, kont_n, h46, lgo L, (lt5 L).1, (lt1 L).1, g0, g1, f0, f1, e0', b1, k]
  · have e0' := eq_false e0
    by_cases e1 : D.2.1 5 (r * 3 + 1) = D.2.1 1 (f * 3 + 1)
    · have k : kin D r f = true := by unfold kin; rw [decide_eq_true e1, Bool.or_true]
      have e1' := eq_true e1
      simp only [s82_0, s82_1, s82_4, s82_7, s82_8, s82_9, s82_12, s82_13, s82_16, s82_19, s82_20, s82_21, s82_24, s82_27, s82_28, s82_31, s82_34, s82_35, s82_36, s82_39, s82_40, s82_43, s82_46, s82_47, s82_48, s82_51, s82_54, s82_55, s82_58, s82_59, okF, okA, mcC_o, mcF_o, mcT_i, mcT_l, mcT_z, mcT_q, mcN_i, mcN_l, mcN_z, mcN_q, mcI_i, mcI_z, mcL_l, mcQ_q, hg_hp, hp_hp, List.getD_cons_zero, List.getD_cons_succ, List.set_cons_zero, List.set_cons_succ, List.length_cons, List.length_nil, Nat.reduceAdd, Nat.reduceLT, Nat.reduceEqDiff, Nat.lt_add_one, decide_true, decide_false, Bool.and_true, Bool.true_and, Bool.and_false, Bool.false_and, Bool.false_eq_true, if_true, if_false, ↓reduceIte, Option.bind_some, Option.bind_none, kont_v, kont_n, h46, lgo L, (lt5 L).1, (lt1 L).1, g0, g1, f0, f1, e0', e1', b1, k]
    · have k : kin D r f = false := by unfold kin; rw [decide_eq_false e0, decide_eq_false e1]; rfl
      have e1' := eq_false e1
      simp only [s82_0, s82_1, s82_4, s82_7, s82_8, s82_9, s82_12, s82_13, s82_16, s82_19, s82_20, s82_21, s82_24, s82_27, s82_28, s82_31, s82_34, s82_35, s82_36, s82_39, s82_40, s82_43, s82_46, s82_47, s82_48, s82_51, s82_54, s82_55, s82_58, s82_59, okF, okA, mcC_o, mcF_o, mcT_i, mcT_l, mcT_z, mcT_q, mcN_i, mcN_l, mcN_z, mcN_q, mcI_i, mcI_z, mcL_l, mcQ_q, hg_hp, hp_hp, List.getD_cons_zero, List.getD_cons_succ, List.set_cons_zero, List.set_cons_succ, List.length_cons, List.length_nil, Nat.reduceAdd, Nat.reduceLT, Nat.reduceEqDiff, Nat.lt_add_one, decide_true, decide_false, Bool.and_true, Bool.true_and, Bool.and_false, Bool.false_and, Bool.false_eq_true, if_true, if_false, ↓reduceIte, Option.bind_some, Option.bind_none, kont_v, kont_n, h46, lgo L, (lt5 L).1, (lt1 L).1, g0, g1, f0, f1, e0', e1', b0, k]
theorem c_wk_lp (L : LG h 1 D) (h46 : ∃ m : Int32, hg h 46 = oB 8 [.ref 1, .ref 47, .ref 48, .ref 49, .ref 50, .int m]) {b x y : Nat} (hx : x < 16) (hy : y < 16) (ex : D.2.1 2 (b * 17 + 0) = nI x) (ey : D.2.1 2 (b * 17 + 1) = nI y) : ∀ (d r : Nat), r + d = D.1 5 → ev X 81 32 [.ref 46, .int (nI b), .int (nI x), .int (nI y), .int (nI (wkm (may D b) r)), .int (nI r)] [] h = some (some (.int (nI (wkm (may D b) (D.1 5)))), (h))
  | 0, r, e => by
    have e : r = D.1 5 := by omega
    have b5 := (LBD L).2.2.2.2.1
    have l := nI_nlt (Nat.le_refl (D.1 5)) (by omega)
    obtain ⟨m, h46'⟩ := h46
    subst e
    rw [s81_32]
    simp only [s81_0, s81_1, s81_4, s81_7, s81_8, s81_9, s81_12, s81_13, s81_14, s81_17, s81_20, s81_21, s81_22, s81_25, s81_26, s81_27, s81_29, s81_30, s81_34, s81_35, s81_38, s81_41, s81_44, s81_47, s81_48, s81_50, s81_51, s81_54, s81_57, s81_58, s81_60, s81_61, s81_64, s81_67, s81_69, s81_70, s81_72, s81_73, s81_74, s81_76, s81_79, s81_82, s81_84, okF, okA, mcC_o, mcF_o, mcT_i, mcT_l, mcT_z, mcT_q, mcN_i, mcN_l, mcN_z, mcN_q, mcI_i, mcI_z, mcL_l, mcQ_q, hg_hp, hp_hp, List.getD_cons_zero, List.getD_cons_succ, List.set_cons_zero, List.set_cons_succ, List.length_cons, List.length_nil, Nat.reduceAdd, Nat.reduceLT, Nat.reduceEqDiff, Nat.lt_add_one, decide_true, decide_false, Bool.and_true, Bool.true_and, Bool.and_false, Bool.false_and, Bool.false_eq_true, if_true, if_false, ↓reduceIte, Option.bind_some, Option.bind_none, kont_v, kont_n, h46', lgo L, (lt5 L).1, l]
  | d + 1, r, e => by
    have b5 := (LBD L).2.2.2.2.1
    have l := nI_lt (show r < D.1 5 by omega) (by omega)
    have p1 : nI r + 1 = nI (r + 1) := nI_add r 1
    have k1 := c_isKin (X := X) L h46 (r := r) (by omega) hx
    have k2 := c_isKin (X := X) L h46 (r := r) (by omega) hy
    have ih := c_wk_lp L h46 hx hy ex ey d (r + 1) (by omega)
    have n1 : ¬ (1 : Int32) = 0 := by decide
    have sh := nI_shl (r := r) (by omega)
    have em : may D b r = (!kin D r x && !kin D r y) := by unfold may; rw [ex, ey, nI_clamp (by omega), nI_clamp (by omega)]
    have ff : ¬ (false : Bool) = true := by decide
    obtain ⟨m, h46'⟩ := h46
    rw [← ih, wkm, em, s81_32]
    cases q1 : kin D r x with
    | true =>
      rw [q1] at k1
      rw [if_pos rfl] at k1
      simp only [s81_0, s81_1, s81_4, s81_7, s81_8, s81_9, s81_12, s81_13, s81_14, s81_17, s81_20, s81_21, s81_22, s81_25, s81_26, s81_27, s81_29, s81_30, s81_34, s81_35, s81_38, s81_41, s81_44, s81_47, s81_48, s81_50, s81_51, s81_54, s81_57, s81_58, s81_60, s81_61, s81_64, s81_67, s81_69, s81_70, s81_72, s81_73, s81_74, s81_76, s81_79, s81_82, s81_84, okF, okA, mcC_o, mcF_o, mcT_i, mcT_l, mcT_z, mcT_q, mcN_i, mcN_l, mcN_z, mcN_q, mcI_i, mcI_z, mcL_l, mcQ_q, hg_hp, hp_hp, List.getD_cons_zero, List.getD_cons_succ, List.set_cons_zero, List.set_cons_succ, List.length_cons, List.length_nil, Nat.reduceAdd, Nat.reduceLT, Nat.reduceEqDiff, Nat.lt_add_one, decide_true, decide_false, Bool.and_true, Bool.true_and, Bool.and_false, Bool.false_and, Bool.false_eq_true, if_true, if_false, ↓reduceIte, Option.bind_some, Option.bind_none, kont_v, kont_n, h46', lgo L, (lt5 L).1, l, k1, n1, p1, Bool.not_true]
    | false =>
      rw [q1] at k1
      rw [if_neg ff] at k1
      cases q2 : kin D r y with
      | true =>
        rw [q2] at k2
        rw [if_pos rfl] at k2
        simp only [s81_0, s81_1, s81_4, s81_7, s81_8, s81_9, s81_12, s81_13, s81_14, s81_17, s81_20, s81_21, s81_22, s81_25, s81_26, s81_27, s81_29, s81_30, s81_34, s81_35, s81_38, s81_41, s81_44, s81_47, s81_48, s81_50, s81_51, s81_54, s81_57, s81_58, s81_60, s81_61, s81_64, s81_67, s81_69, s81_70, s81_72, s81_73, s81_74, s81_76, s81_79, s81_82, s81_84, okF, okA, mcC_o, mcF_o, mcT_i, mcT_l, mcT_z, mcT_q, mcN_i, mcN_l, mcN_z, mcN_q, mcI_i, mcI_z, mcL_l, mcQ_q, hg_hp, hp_hp, List.getD_cons_zero, List.getD_cons_succ, List.set_cons_zero, List.set_cons_succ, List.length_cons, List.length_nil, Nat.reduceAdd, Nat.reduceLT, Nat.reduceEqDiff, Nat.lt_add_one, decide_true, decide_false, Bool.and_true, Bool.true_and, Bool.and_false, Bool.false_and, Bool.false_eq_true, if_true, if_false, ↓reduceIte, Option.bind_some, Option.bind_none, kont_v, kont_n, h46', lgo L, (lt5 L).1, l, k1, k2, n1, p1, Bool.not_true, Bool.not_false]
      | false =>
        rw [q2] at k2
        rw [if_neg ff] at k2
        simp only [s81_0, s81_1, s81_4, s81_7, s81_8, s81_9, s81_12, s81_13, s81_14, s81_17, s81_20, s81_21, s81_22, s81_25, s81_26, s81_27, s81_29, s81_30, s81_34, s81_35, s81_38, s81_41, s81_44, s81_47, s81_48, s81_50, s81_51, s81_54, s81_57, s81_58, s81_60, s81_61, s81_64, s81_67, s81_69, s81_70, s81_72, s81_73, s81_74, s81_76, s81_79, s81_82, s81_84, okF, okA, mcC_o, mcF_o, mcT_i, mcT_l, mcT_z, mcT_q, mcN_i, mcN_l, mcN_z, mcN_q, mcI_i, mcI_z, mcL_l, mcQ_q, hg_hp, hp_hp, List.getD_cons_zero, List.getD_cons_succ, List.set_cons_zero, List.set_cons_succ, List.length_cons, List.length_nil, Nat.reduceAdd, Nat.reduceLT, Nat.reduceEqDiff, Nat.lt_add_one, decide_true, decide_false, Bool.and_true, Bool.true_and, Bool.and_false, Bool.false_and, Bool.false_eq_true, if_true, if_false, ↓reduceIte, Option.bind_some, Option.bind_none, kont_v, kont_n, h46', lgo L, (lt5 L).1, l, k1, k2, n1, p1, Bool.not_false, sh, nI_or]
theorem c_wk (L : LG h 1 D) (R : REL D S) (h46 : ∃ m : Int32, hg h 46 = oB 8 [.ref 1, .ref 47, .ref 48, .ref 49, .ref 50, .int m]) {b : Nat} (hb : b < D.1 2) : (ev X 81 0 [.ref 46, .int (nI b), .float 0, .float 0, .float 0, .float 0] [] (h)) = some (some (.int (nI (wkm (may D b) (D.1 5)))), (h)) := by
  obtain ⟨x, y, hx, hy, ex, ey⟩ := R.ends hb
  have b2 := (LBD L).2.2.1
  have lp := c_wk_lp (X := X) L h46 hx hy ex ey (D.1 5) 0 (by omega)
  rw [show wkm (may D b) 0 = 0 from rfl, nI_0] at lp
  have g0 := (lt2 L).get' (X := X) (r := b) (q := 0) rfl (q' := 0) rfl (by omega) (by decide)
  have g1 := (lt2 L).get' (X := X) (r := b) (q := 1) rfl (q' := 1) rfl (by omega) (by decide)
  rw [ex] at g0
  rw [ey] at g1
  obtain ⟨m, h46'⟩ := h46
  simp only [s81_0, s81_1, s81_4, s81_7, s81_8, s81_9, s81_12, s81_13, s81_14, s81_17, s81_20, s81_21, s81_22, s81_25, s81_26, s81_27, s81_29, s81_30, s81_34, s81_35, s81_38, s81_41, s81_44, s81_47, s81_48, s81_50, s81_51, s81_54, s81_57, s81_58, s81_60, s81_61, s81_64, s81_67, s81_69, s81_70, s81_72, s81_73, s81_74, s81_76, s81_79, s81_82, s81_84, okF, okA, mcC_o, mcF_o, mcT_i, mcT_l, mcT_z, mcT_q, mcN_i, mcN_l, mcN_z, mcN_q, mcI_i, mcI_z, mcL_l, mcQ_q, hg_hp, hp_hp, List.getD_cons_zero, List.getD_cons_succ, List.set_cons_zero, List.set_cons_succ, List.length_cons, List.length_nil, Nat.reduceAdd, Nat.reduceLT, Nat.reduceEqDiff, Nat.lt_add_one, decide_true, decide_false, Bool.and_true, Bool.true_and, Bool.and_false, Bool.false_and, Bool.false_eq_true, if_true, if_false, ↓reduceIte, Option.bind_some, Option.bind_none, kont_v, kont_n, h46', lgo L, (lt2 L).1, g0, g1, lp]
/-- the free ones of a bout, as a number -/
def wkn (D : LD) (b : Nat) : Int32 := nI (wkm (may D b) (D.1 5))
theorem c_ga_lp (L : LG B 1 D) (R : REL D S) {m : Nat} (hm : m < 2 ^ 30) (h8 : pcn 30 m ≤ 8) (hr : ∀ b, bit m b = 1 → b < D.1 2) {a0 b0 c e : Nat → Int32} : ∀ (d b : Nat), b + d = 30 → ev X 80 7 [.ref 46, .int (nI m), .int (nI b)] [] (RFH B (nI (pcn b m)) (gat nI m a0 b) (gat (wkn D) m b0 b) c e) = some (none, (RFH B (nI (pcn 30 m)) (gat nI m a0 30) (gat (wkn D) m b0 30) c e))
  | 0, b, q => by
    have q : b = 30 := by omega
    have l : (29 : Int32) < nI 30 := by decide
    subst q
    rw [s80_7]
    simp only [s80_0, s80_1, s80_2, s80_5, s80_6, s80_8, s80_10, s80_13, s80_14, s80_17, s80_19, s80_22, s80_23, s80_24, s80_25, s80_26, s80_27, s80_28, s80_31, s80_32, s80_35, s80_36, s80_39, s80_40, s80_41, s80_42, s80_45, s80_46, s80_49, s80_50, s80_51, s80_54, s80_55, s80_56, s80_57, s80_60, s80_61, s80_62, s80_65, s80_68, s80_71, okF, okA, mcC_o, mcF_o, mcT_i, mcT_l, mcT_z, mcT_q, mcN_i, mcN_l, mcN_z, mcN_q, mcI_i, mcI_z, mcL_l, mcQ_q, hg_hp, hp_hp, List.getD_cons_zero, List.getD_cons_succ, List.set_cons_zero, List.set_cons_succ, List.length_cons, List.length_nil, Nat.reduceAdd, Nat.reduceLT, Nat.reduceEqDiff, Nat.lt_add_one, decide_true, decide_false, Bool.and_true, Bool.true_and, Bool.and_false, Bool.false_and, Bool.false_eq_true, if_true, if_false, ↓reduceIte, Option.bind_some, Option.bind_none, kont_v, kont_n, l]
  | d + 1, b, q => by
    have l : ¬ (29 : Int32) < nI b := nI_nlt (a := 29) (b := b) (by omega) (by decide)
    by_cases full : pcn b m = 8
    · have ep : pcn 30 m = pcn b m := by
        have := pcn_mo (m := m) (show b ≤ 30 by omega)
        omega
      have e1 : gat nI m a0 30 = gat nI m a0 b := by
        have := gat_rest (v := nI) (a := a0) (m := m) (b := b) (d + 1) (by rw [q]; exact ep)
        rw [q] at this; exact this
      have e2 : gat (wkn D) m b0 30 = gat (wkn D) m b0 b := by
        have := gat_rest (v := wkn D) (a := b0) (m := m) (b := b) (d + 1) (by rw [q]; exact ep)
        rw [q] at this; exact this
      have l8 : ¬ nI 8 < (8 : Int32) := by decide
      rw [e1, e2, ep, full, s80_7]
      simp only [s80_0, s80_1, s80_2, s80_5, s80_6, s80_8, s80_10, s80_13, s80_14, s80_17, s80_19, s80_22, s80_23, s80_24, s80_25, s80_26, s80_27, s80_28, s80_31, s80_32, s80_35, s80_36, s80_39, s80_40, s80_41, s80_42, s80_45, s80_46, s80_49, s80_50, s80_51, s80_54, s80_55, s80_56, s80_57, s80_60, s80_61, s80_62, s80_65, s80_68, s80_71, okF, okA, mcC_o, mcF_o, mcT_i, mcT_l, mcT_z, mcT_q, mcN_i, mcN_l, mcN_z, mcN_q, mcI_i, mcI_z, mcL_l, mcQ_q, hg_hp, hp_hp, List.getD_cons_zero, List.getD_cons_succ, List.set_cons_zero, List.set_cons_succ, List.length_cons, List.length_nil, Nat.reduceAdd, Nat.reduceLT, Nat.reduceEqDiff, Nat.lt_add_one, decide_true, decide_false, Bool.and_true, Bool.true_and, Bool.and_false, Bool.false_and, Bool.false_eq_true, if_true, if_false, ↓reduceIte, Option.bind_some, Option.bind_none, kont_v, kont_n, l, RFH_46, l8]
    · have hle := pcn_mo (m := m) (show b ≤ 30 by omega)
      have l8 : nI (pcn b m) < (8 : Int32) := nI_lt (b := 8) (by omega) (by decide)
      have p1 : nI b + 1 = nI (b + 1) := nI_add b 1
      have ih := c_ga_lp L R hm h8 hr (a0 := a0) (b0 := b0) (c := c) (e := e) d (b + 1) (by omega)
      have bt := nI_bit2 (m := m) (k := b) (Nat.lt_trans hm (by decide)) (by omega)
      by_cases q1 : bit m b = 1
      · rw [q1] at bt
        have one : (nI 1 = (1 : Int32)) = True := eq_true rfl
        have w := c_wk (X := X) (h := RFH B (nI (pcn b m)) (upd (gat nI m a0 b) (pcn b m) (nI b)) (gat (wkn D) m b0 b) c e) (RFH_lg L) R ⟨_, RFH_46⟩ (hr b q1)
        have r1 : inR (nI (pcn b m)) 8 = true := inR_n (by omega) (by decide)
        have c1 : (nI (pcn b m)).toNatClampNeg = pcn b m := nI_clamp (by omega)
        have p2 : nI (pcn b m) + 1 = nI (pcn b m + 1) := nI_add _ 1
        rw [pcn_s, gat, gat, if_pos q1, if_pos q1, q1] at ih
        rw [← ih, s80_7]
        simp only [s80_0, s80_1, s80_2, s80_5, s80_6, s80_8, s80_10, s80_13, s80_14, s80_17, s80_19, s80_22, s80_23, s80_24, s80_25, s80_26, s80_27, s80_28, s80_31, s80_32, s80_35, s80_36, s80_39, s80_40, s80_41, s80_42, s80_45, s80_46, s80_49, s80_50, s80_51, s80_54, s80_55, s80_56, s80_57, s80_60, s80_61, s80_62, s80_65, s80_68, s80_71, okF, okA, mcC_o, mcF_o, mcT_i, mcT_l, mcT_z, mcT_q, mcN_i, mcN_l, mcN_z, mcN_q, mcI_i, mcI_z, mcL_l, mcQ_q, hg_hp, hp_hp, List.getD_cons_zero, List.getD_cons_succ, List.set_cons_zero, List.set_cons_succ, List.length_cons, List.length_nil, Nat.reduceAdd, Nat.reduceLT, Nat.reduceEqDiff, Nat.lt_add_one, decide_true, decide_false, Bool.and_true, Bool.true_and, Bool.and_false, Bool.false_and, Bool.false_eq_true, if_true, if_false, ↓reduceIte, Option.bind_some, Option.bind_none, kont_v, kont_n, l, RFH_46, RFH_47, RFH_48, RFHp_46, RFHp_47, RFHp_48, l8, bt, one, r1, c1, w, p1, p2]
        rfl
      · have q0 : bit m b = 0 := by have := bit_01 m b; omega
        rw [q0] at bt
        have one : (nI 0 = (1 : Int32)) = False := eq_false (by decide)
        rw [pcn_s, gat, gat, if_neg q1, if_neg q1, q0, show pcn b m + 0 = pcn b m from rfl] at ih
        rw [← ih, s80_7]
        simp only [s80_0, s80_1, s80_2, s80_5, s80_6, s80_8, s80_10, s80_13, s80_14, s80_17, s80_19, s80_22, s80_23, s80_24, s80_25, s80_26, s80_27, s80_28, s80_31, s80_32, s80_35, s80_36, s80_39, s80_40, s80_41, s80_42, s80_45, s80_46, s80_49, s80_50, s80_51, s80_54, s80_55, s80_56, s80_57, s80_60, s80_61, s80_62, s80_65, s80_68, s80_71, okF, okA, mcC_o, mcF_o, mcT_i, mcT_l, mcT_z, mcT_q, mcN_i, mcN_l, mcN_z, mcN_q, mcI_i, mcI_z, mcL_l, mcQ_q, hg_hp, hp_hp, List.getD_cons_zero, List.getD_cons_succ, List.set_cons_zero, List.set_cons_succ, List.length_cons, List.length_nil, Nat.reduceAdd, Nat.reduceLT, Nat.reduceEqDiff, Nat.lt_add_one, decide_true, decide_false, Bool.and_true, Bool.true_and, Bool.and_false, Bool.false_and, Bool.false_eq_true, if_true, if_false, ↓reduceIte, Option.bind_some, Option.bind_none, kont_v, kont_n, l, RFH_46, l8, bt, one, p1]
theorem c_gather (L : LG B 1 D) (R : REL D S) {m : Nat} (hm : m < 2 ^ 30) (h8 : pcn 30 m ≤ 8) (hr : ∀ b, bit m b = 1 → b < D.1 2) {x : Int32} {a0 b0 c e : Nat → Int32} : (ev X 80 0 [.ref 46, .int (nI m), .float 0] [] (RFH B x a0 b0 c e)) = some (none, (RFH B (nI (pcn 30 m)) (gat nI m a0 30) (gat (wkn D) m b0 30) c e)) := by
  have lp := c_ga_lp (X := X) L R hm h8 hr (a0 := a0) (b0 := b0) (c := c) (e := e) 30 0 (by omega)
  rw [show pcn 0 m = 0 from rfl, show gat nI m a0 0 = a0 from rfl, show gat (wkn D) m b0 0 = b0 from rfl, nI_0] at lp
  simp only [s80_0, s80_1, s80_2, s80_5, s80_6, s80_8, s80_10, s80_13, s80_14, s80_17, s80_19, s80_22, s80_23, s80_24, s80_25, s80_26, s80_27, s80_28, s80_31, s80_32, s80_35, s80_36, s80_39, s80_40, s80_41, s80_42, s80_45, s80_46, s80_49, s80_50, s80_51, s80_54, s80_55, s80_56, s80_57, s80_60, s80_61, s80_62, s80_65, s80_68, s80_71, okF, okA, mcC_o, mcF_o, mcT_i, mcT_l, mcT_z, mcT_q, mcN_i, mcN_l, mcN_z, mcN_q, mcI_i, mcI_z, mcL_l, mcQ_q, hg_hp, hp_hp, List.getD_cons_zero, List.getD_cons_succ, List.set_cons_zero, List.set_cons_succ, List.length_cons, List.length_nil, Nat.reduceAdd, Nat.reduceLT, Nat.reduceEqDiff, Nat.lt_add_one, decide_true, decide_false, Bool.and_true, Bool.true_and, Bool.and_false, Bool.false_and, Bool.false_eq_true, if_true, if_false, ↓reduceIte, Option.bind_some, Option.bind_none, kont_v, kont_n, RFH_46, RFHp_46, lp]
end HOU

-- ASSIGN: the class's referees of an hour
def enc (a : WY) : Int32 := match a with
  | none => -1
  | some x => nI x.1
theorem enc_n : enc none = -1 := rfl
theorem enc_s (x : Nat × (Nat → Nat)) : enc (some x) = nI x.1 := rfl
def rb (R n : Nat) (fr hs : Nat → Nat) : Nat → Nat → WY
  | 0, _ => some (0, fun _ => 0)
  | m + 1, u => fol (fun r => if bit u r = 0 ∧ bit (fr (n - (m + 1))) r = 1 then (rb R n fr hs m (u ||| 2 ^ r)).map (fun x => (hs r + x.1, fu x.2 (n - (m + 1)) r)) else none) R 0
/-- what lies behind a referee who serves next -/
def rF (R n : Nat) (fr hs : Nat → Nat) (m u r : Nat) : WY := if bit u r = 0 ∧ bit (fr (n - (m + 1))) r = 1 then (rb R n fr hs m (u ||| 2 ^ r)).map (fun x => (hs r + x.1, fu x.2 (n - (m + 1)) r)) else none
theorem rb_s {R n : Nat} {fr hs : Nat → Nat} {m u : Nat} : rb R n fr hs (m + 1) u = fol (rF R n fr hs m u) R 0 := rfl
theorem rF_some {R n : Nat} {fr hs : Nat → Nat} {m u r : Nat} {z : Nat × (Nat → Nat)} (h : rF R n fr hs m u r = some z) : bit u r = 0 ∧ bit (fr (n - (m + 1))) r = 1 ∧ ∃ x, rb R n fr hs m (u ||| 2 ^ r) = some x ∧ z = (hs r + x.1, fu x.2 (n - (m + 1)) r) := by
  unfold rF at h
  split at h
  · rename_i hc
    cases e : rb R n fr hs m (u ||| 2 ^ r) with
    | none => rw [e] at h; cases h
    | some x =>
      rw [e] at h
      exact ⟨hc.1, hc.2, x, rfl, (Option.some.inj h).symm⟩
  · cases h
theorem rb_le {R n : Nat} {fr hs : Nat → Nat} {T : Nat} (hT : ∀ r, r < R → hs r ≤ T) : ∀ (m u : Nat) (x : Nat × (Nat → Nat)), rb R n fr hs m u = some x → x.1 ≤ m * T
  | 0, u, x, h => by
    have h := Option.some.inj h
    subst h
    omega
  | m + 1, u, x, h => by
    rw [rb_s] at h
    obtain ⟨r, -, r2, r3, -⟩ := fol_some _ _ h
    obtain ⟨-, -, z, e, rfl⟩ := rF_some r3
    have := rb_le hT m _ z e
    have := hT r (by omega)
    rw [Nat.succ_mul]
    show hs r + z.1 ≤ _
    omega
theorem rF_le {R n : Nat} {fr hs : Nat → Nat} (hT : ∀ r, r < R → hs r ≤ 1000) {m u r : Nat} (hm : m ≤ 8) (hr : r < R) {x : Nat × (Nat → Nat)} (h : rF R n fr hs m u r = some x) : x.1 < 1000000 := by
  obtain ⟨-, -, z, e, rfl⟩ := rF_some h
  have := rb_le hT m _ z e
  have : m * 1000 ≤ 8 * 1000 := Nat.mul_le_mul_right _ hm
  have := hT r hr
  show hs r + z.1 < _
  omega
theorem lor8 : ∀ u, u < 256 → ∀ r, r < 8 → (bit u r = 1 → (u ||| 2 ^ r) = u) ∧ (bit u r = 0 → u < (u ||| 2 ^ r) ∧ (u ||| 2 ^ r) < 256 ∧ pcn 32 (u ||| 2 ^ r) = pcn 32 u + 1) := by decide +kernel
theorem and_bit (f r : Nat) : (f &&& 2 ^ r) = if bit f r = 1 then 2 ^ r else 0 := by
  apply Nat.eq_of_testBit_eq
  intro i
  rw [Nat.testBit_and, Nat.testBit_two_pow]
  by_cases q : bit f r = 1
  · rw [if_pos q, Nat.testBit_two_pow]
    by_cases e : r = i
    · subst e; rw [(bit_tb f r).mp q]; rfl
    · rw [decide_eq_false e, Bool.and_false]
  · rw [if_neg q, Nat.zero_testBit]
    by_cases e : r = i
    · subst e
      cases z : f.testBit r with
      | false => rfl
      | true => exact absurd ((bit_tb f r).mpr z) q
    · rw [decide_eq_false e, Bool.and_false]
/-- what lies behind a set of referees that serve already -/
def lv (R n : Nat) (fr hs : Nat → Nat) (u : Nat) : WY := if pcn 32 u ≤ n then rb R n fr hs (n - pcn 32 u) u else none
section ASS
variable {X : MX} {t : Nat} {h B : MH} {D : LD}
theorem c_sumWith (L : LG B 1 D) {n' : Int32} {k u r f hr : Nat} {a b c e : Nat → Int32} {G : WY} (hk : k < 8) (hu : u < 256) (hr5 : r < D.1 5) (eb : b k = nI f) (hf : f < 256) (eh : D.2.1 5 (r * 3 + 2) = nI hr) (ee : bit u r = 0 → bit f r = 1 → e (u ||| 2 ^ r) = enc G) (eG : ∀ x, G = some x → x.1 < 100000) : (ev X 84 0 [.ref 46, .int (nI k), .int (nI u), .int (nI r), .float 0] [] (RFH B n' a b c e)) = some (some (.int (enc (if bit u r = 0 ∧ bit f r = 1 then G.map (fun x => (hr + x.1, fu x.2 k r)) else none))), (RFH B n' a b c e)) := by
  have r8 : r < 8 := by have := (LBD L).2.2.2.2.1; omega
  have p2 : 2 ^ r < 256 := Nat.pow_lt_pow_right (by decide) r8
  obtain ⟨w1, w0⟩ := lor8 u hu r r8
  have sh := nI_shl (r := r) (by omega)
  have lg := RFH_lg (m := n') (a := a) (b := b) (c := c) (e := e) L
  have rk : inR (nI k) 8 = true := inR_n hk (by decide)
  have ck : (nI k).toNatClampNeg = k := nI_clamp (by omega)
  have l0 : mcT (hg (RFH B n' a b c e) 50) ≤ 3 := by rw [RFH_50]; show (0 : Nat) ≤ 3; decide
  rcases bit_01 u r with q | q
  · obtain ⟨v1, v2, v3⟩ := w0 q
    have ne : (nI (u ||| 2 ^ r) = nI u) = False := eq_false (fun z => by have := (nI_eq (by omega) (by omega)).mp z; omega)
    have ab := and_bit f r
    have g := (lt5 lg).get' (X := X) (r := r) (q := 2) rfl (q' := 2) rfl (by omega) (by decide)
    rw [eh] at g
    rcases bit_01 f r with q2 | q2
    · rw [if_neg (by omega)] at ab
      have z0 : (nI 0 = (0 : Int32)) = True := eq_true rfl
      rw [if_neg (fun z => by omega), enc_n]
      simp only [s84_0, s84_1, s84_2, s84_3, s84_4, s84_5, s84_7, s84_9, s84_10, s84_13, s84_14, s84_17, s84_18, s84_19, s84_20, s84_21, s84_22, s84_23, s84_26, s84_28, s84_29, s84_32, s84_33, s84_36, s84_37, s84_40, s84_42, s84_43, s84_44, s84_47, s84_48, s84_49, s84_50, s84_53, s84_56, s84_57, s84_58, s84_61, s84_62, s84_65, s84_67, s84_68, s84_69, okF, okA, mcC_o, mcF_o, mcT_i, mcT_l, mcT_z, mcT_q, mcN_i, mcN_l, mcN_z, mcN_q, mcI_i, mcI_z, mcL_l, mcQ_q, hg_hp, hp_hp, List.getD_cons_zero, List.getD_cons_succ, List.set_cons_zero, List.set_cons_succ, List.length_cons, List.length_nil, Nat.reduceAdd, Nat.reduceLT, Nat.reduceEqDiff, Nat.lt_add_one, decide_true, decide_false, Bool.and_true, Bool.true_and, Bool.and_false, Bool.false_and, Bool.false_eq_true, if_true, if_false, ↓reduceIte, Option.bind_some, Option.bind_none, kont_v, kont_n, RFH_46, RFH_48, RFH_50, sh, nI_or, nI_and, ne, rk, ck, eb, ab, z0]
    · rw [if_pos q2] at ab
      have z0 : (nI (2 ^ r) = (0 : Int32)) = False := eq_false (fun z => by
        have := (nI_eq (a := 2 ^ r) (b := 0) (by omega) (by omega)).mp z
        have := Nat.two_pow_pos r
        omega)
      have l : nI (u ||| 2 ^ r) < Int32.ofNat 256 := nI_lt (b := 256) v2 (by decide)
      have rw' : inR (nI (u ||| 2 ^ r)) 256 = true := inR_n v2 (by decide)
      have cw : (nI (u ||| 2 ^ r)).toNatClampNeg = (u ||| 2 ^ r) := nI_clamp (by omega)
      have ew := ee q q2
      rw [if_pos ⟨q, q2⟩]
      cases eg : G with
      | none =>
        rw [eg, enc_n] at ew
        show _ = some (some (Value.int (-1)), RFH B n' a b c e)
        simp only [s84_0, s84_1, s84_2, s84_3, s84_4, s84_5, s84_7, s84_9, s84_10, s84_13, s84_14, s84_17, s84_18, s84_19, s84_20, s84_21, s84_22, s84_23, s84_26, s84_28, s84_29, s84_32, s84_33, s84_36, s84_37, s84_40, s84_42, s84_43, s84_44, s84_47, s84_48, s84_49, s84_50, s84_53, s84_56, s84_57, s84_58, s84_61, s84_62, s84_65, s84_67, s84_68, s84_69, okF, okA, mcC_o, mcF_o, mcT_i, mcT_l, mcT_z, mcT_q, mcN_i, mcN_l, mcN_z, mcN_q, mcI_i, mcI_z, mcL_l, mcQ_q, hg_hp, hp_hp, List.getD_cons_zero, List.getD_cons_succ, List.set_cons_zero, List.set_cons_succ, List.length_cons, List.length_nil, Nat.reduceAdd, Nat.reduceLT, Nat.reduceEqDiff, Nat.lt_add_one, decide_true, decide_false, Bool.and_true, Bool.true_and, Bool.and_false, Bool.false_and, Bool.false_eq_true, if_true, if_false, ↓reduceIte, Option.bind_some, Option.bind_none, kont_v, kont_n, RFH_46, RFH_48, RFH_50, sh, nI_or, nI_and, ne, rk, ck, eb, ab, z0, l, Nat.zero_le, rw', cw, ew]
      | some x =>
        rw [eg, enc_s] at ew
        have nm : (nI x.1 = (-1 : Int32)) = False := eq_false (nI_m1 (by have := eG x eg; omega))
        show _ = some (some (Value.int (nI (hr + x.1))), RFH B n' a b c e)
        simp only [s84_0, s84_1, s84_2, s84_3, s84_4, s84_5, s84_7, s84_9, s84_10, s84_13, s84_14, s84_17, s84_18, s84_19, s84_20, s84_21, s84_22, s84_23, s84_26, s84_28, s84_29, s84_32, s84_33, s84_36, s84_37, s84_40, s84_42, s84_43, s84_44, s84_47, s84_48, s84_49, s84_50, s84_53, s84_56, s84_57, s84_58, s84_61, s84_62, s84_65, s84_67, s84_68, s84_69, okF, okA, mcC_o, mcF_o, mcT_i, mcT_l, mcT_z, mcT_q, mcN_i, mcN_l, mcN_z, mcN_q, mcI_i, mcI_z, mcL_l, mcQ_q, hg_hp, hp_hp, List.getD_cons_zero, List.getD_cons_succ, List.set_cons_zero, List.set_cons_succ, List.length_cons, List.length_nil, Nat.reduceAdd, Nat.reduceLT, Nat.reduceEqDiff, Nat.lt_add_one, decide_true, decide_false, Bool.and_true, Bool.true_and, Bool.and_false, Bool.false_and, Bool.false_eq_true, if_true, if_false, ↓reduceIte, Option.bind_some, Option.bind_none, kont_v, kont_n, RFH_46, RFH_48, RFH_50, sh, nI_or, nI_and, ne, rk, ck, eb, ab, z0, l, Nat.zero_le, rw', cw, ew, nm, lgo lg, (lt5 lg).1, g, nI_add]
  · have eq := w1 q
    rw [if_neg (fun z => by omega), enc_n]
    simp only [s84_0, s84_1, s84_2, s84_3, s84_4, s84_5, s84_7, s84_9, s84_10, s84_13, s84_14, s84_17, s84_18, s84_19, s84_20, s84_21, s84_22, s84_23, s84_26, s84_28, s84_29, s84_32, s84_33, s84_36, s84_37, s84_40, s84_42, s84_43, s84_44, s84_47, s84_48, s84_49, s84_50, s84_53, s84_56, s84_57, s84_58, s84_61, s84_62, s84_65, s84_67, s84_68, s84_69, okF, okA, mcC_o, mcF_o, mcT_i, mcT_l, mcT_z, mcT_q, mcN_i, mcN_l, mcN_z, mcN_q, mcI_i, mcI_z, mcL_l, mcQ_q, hg_hp, hp_hp, List.getD_cons_zero, List.getD_cons_succ, List.set_cons_zero, List.set_cons_succ, List.length_cons, List.length_nil, Nat.reduceAdd, Nat.reduceLT, Nat.reduceEqDiff, Nat.lt_add_one, decide_true, decide_false, Bool.and_true, Bool.true_and, Bool.and_false, Bool.false_and, Bool.false_eq_true, if_true, if_false, ↓reduceIte, Option.bind_some, Option.bind_none, kont_v, kont_n, sh, nI_or, eq]
theorem c_lb_lp (L : LG h 1 D) {F : Nat → WY} {u k : Nat} {n' : Int32} (h46 : hg h 46 = oB 8 [.ref 1, .ref 47, .ref 48, .ref 49, .ref 50, .int n']) (hF : ∀ r, r < D.1 5 → (ev X 84 0 [.ref 46, .int (nI k), .int (nI u), .int (nI r), .float 0] [] (h)) = some (some (.int (enc (F r))), (h))) (bF : ∀ r x, r < D.1 5 → F r = some x → x.1 < 1000000) : ∀ (d r : Nat) (acc : WY) (a5 : Value), r + d = D.1 5 → (∀ x, acc = some x → x.1 < 1000000) → ev X 83 32 [.ref 46, .int (nI u), .int (nI k), .int (enc acc), .int (nI r), a5] [] h = some (some (.int (enc (cmb acc (fol F d r)))), (h))
  | 0, r, acc, a5, e, _ => by
    have e : r = D.1 5 := by omega
    have b5 := (LBD L).2.2.2.2.1
    have l := nI_nlt (Nat.le_refl (D.1 5)) (by omega)
    subst e
    rw [fol, cmb_nr, s83_32]
    simp only [s83_0, s83_1, s83_4, s83_5, s83_6, s83_7, s83_10, s83_13, s83_14, s83_15, s83_18, s83_21, s83_22, s83_25, s83_26, s83_27, s83_28, s83_29, s83_30, s83_34, s83_35, s83_38, s83_41, s83_44, s83_47, s83_48, s83_49, s83_50, s83_52, s83_55, s83_57, s83_59, s83_60, s83_63, s83_64, s83_65, s83_68, s83_70, s83_71, s83_74, s83_76, s83_77, s83_80, s83_83, s83_84, okF, okA, mcC_o, mcF_o, mcT_i, mcT_l, mcT_z, mcT_q, mcN_i, mcN_l, mcN_z, mcN_q, mcI_i, mcI_z, mcL_l, mcQ_q, hg_hp, hp_hp, List.getD_cons_zero, List.getD_cons_succ, List.set_cons_zero, List.set_cons_succ, List.length_cons, List.length_nil, Nat.reduceAdd, Nat.reduceLT, Nat.reduceEqDiff, Nat.lt_add_one, decide_true, decide_false, Bool.and_true, Bool.true_and, Bool.and_false, Bool.false_and, Bool.false_eq_true, if_true, if_false, ↓reduceIte, Option.bind_some, Option.bind_none, kont_v, kont_n, h46, lgo L, (lt5 L).1, l]
  | d + 1, r, acc, a5, e, bA => by
    have b5 := (LBD L).2.2.2.2.1
    have l := nI_lt (show r < D.1 5 by omega) (by omega)
    have p1 : nI r + 1 = nI (r + 1) := nI_add r 1
    have s := hF r (by omega)
    rw [fol, ← cmb_assoc, s83_32]
    cases q : F r with
    | none =>
      have ih := c_lb_lp L h46 hF bF d (r + 1) acc (.int (-1)) (by omega) bA
      rw [q, enc_n] at s
      rw [cmb_nr, ← ih]
      simp only [s83_0, s83_1, s83_4, s83_5, s83_6, s83_7, s83_10, s83_13, s83_14, s83_15, s83_18, s83_21, s83_22, s83_25, s83_26, s83_27, s83_28, s83_29, s83_30, s83_34, s83_35, s83_38, s83_41, s83_44, s83_47, s83_48, s83_49, s83_50, s83_52, s83_55, s83_57, s83_59, s83_60, s83_63, s83_64, s83_65, s83_68, s83_70, s83_71, s83_74, s83_76, s83_77, s83_80, s83_83, s83_84, okF, okA, mcC_o, mcF_o, mcT_i, mcT_l, mcT_z, mcT_q, mcN_i, mcN_l, mcN_z, mcN_q, mcI_i, mcI_z, mcL_l, mcQ_q, hg_hp, hp_hp, List.getD_cons_zero, List.getD_cons_succ, List.set_cons_zero, List.set_cons_succ, List.length_cons, List.length_nil, Nat.reduceAdd, Nat.reduceLT, Nat.reduceEqDiff, Nat.lt_add_one, decide_true, decide_false, Bool.and_true, Bool.true_and, Bool.and_false, Bool.false_and, Bool.false_eq_true, if_true, if_false, ↓reduceIte, Option.bind_some, Option.bind_none, kont_v, kont_n, h46, lgo L, (lt5 L).1, l, s, p1]
    | some x =>
      have bx := bF r x (by omega) q
      have ih := fun acc' bA' => c_lb_lp L h46 hF bF d (r + 1) acc' (.int (nI x.1)) (by omega) bA'
      rw [q, enc_s] at s
      have nm : (nI x.1 = (-1 : Int32)) = False := eq_false (nI_m1 (by omega))
      cases qa : acc with
      | none =>
        have ih := ih (some x) (fun y hy => by cases hy; exact bx)
        rw [enc_s] at ih
        rw [cmb_nl, enc_n, ← ih]
        simp only [s83_0, s83_1, s83_4, s83_5, s83_6, s83_7, s83_10, s83_13, s83_14, s83_15, s83_18, s83_21, s83_22, s83_25, s83_26, s83_27, s83_28, s83_29, s83_30, s83_34, s83_35, s83_38, s83_41, s83_44, s83_47, s83_48, s83_49, s83_50, s83_52, s83_55, s83_57, s83_59, s83_60, s83_63, s83_64, s83_65, s83_68, s83_70, s83_71, s83_74, s83_76, s83_77, s83_80, s83_83, s83_84, okF, okA, mcC_o, mcF_o, mcT_i, mcT_l, mcT_z, mcT_q, mcN_i, mcN_l, mcN_z, mcN_q, mcI_i, mcI_z, mcL_l, mcQ_q, hg_hp, hp_hp, List.getD_cons_zero, List.getD_cons_succ, List.set_cons_zero, List.set_cons_succ, List.length_cons, List.length_nil, Nat.reduceAdd, Nat.reduceLT, Nat.reduceEqDiff, Nat.lt_add_one, decide_true, decide_false, Bool.and_true, Bool.true_and, Bool.and_false, Bool.false_and, Bool.false_eq_true, if_true, if_false, ↓reduceIte, Option.bind_some, Option.bind_none, kont_v, kont_n, h46, lgo L, (lt5 L).1, l, s, p1, nm]
      | some y =>
        have bY := bA y qa
        have nm2 : (nI y.1 = (-1 : Int32)) = False := eq_false (nI_m1 (by omega))
        rw [cmb_ss, enc_s]
        by_cases lt : x.1 < y.1
        · have ih := ih (some x) (fun y hy => by cases hy; exact bx)
          rw [enc_s] at ih
          have l2 := nI_lt lt (by omega)
          rw [if_pos lt, ← ih]
          simp only [s83_0, s83_1, s83_4, s83_5, s83_6, s83_7, s83_10, s83_13, s83_14, s83_15, s83_18, s83_21, s83_22, s83_25, s83_26, s83_27, s83_28, s83_29, s83_30, s83_34, s83_35, s83_38, s83_41, s83_44, s83_47, s83_48, s83_49, s83_50, s83_52, s83_55, s83_57, s83_59, s83_60, s83_63, s83_64, s83_65, s83_68, s83_70, s83_71, s83_74, s83_76, s83_77, s83_80, s83_83, s83_84, okF, okA, mcC_o, mcF_o, mcT_i, mcT_l, mcT_z, mcT_q, mcN_i, mcN_l, mcN_z, mcN_q, mcI_i, mcI_z, mcL_l, mcQ_q, hg_hp, hp_hp, List.getD_cons_zero, List.getD_cons_succ, List.set_cons_zero, List.set_cons_succ, List.length_cons, List.length_nil, Nat.reduceAdd, Nat.reduceLT, Nat.reduceEqDiff, Nat.lt_add_one, decide_true, decide_false, Bool.and_true, Bool.true_and, Bool.and_false, Bool.false_and, Bool.false_eq_true, if_true, if_false, ↓reduceIte, Option.bind_some, Option.bind_none, kont_v, kont_n, h46, lgo L, (lt5 L).1, l, s, p1, nm, nm2, l2]
        · have ih := ih (some y) (fun z hz => by cases hz; exact bY)
          rw [enc_s] at ih
          have l2 := nI_nlt (a := x.1) (b := y.1) (by omega) (by omega)
          rw [if_neg lt, ← ih]
          simp only [s83_0, s83_1, s83_4, s83_5, s83_6, s83_7, s83_10, s83_13, s83_14, s83_15, s83_18, s83_21, s83_22, s83_25, s83_26, s83_27, s83_28, s83_29, s83_30, s83_34, s83_35, s83_38, s83_41, s83_44, s83_47, s83_48, s83_49, s83_50, s83_52, s83_55, s83_57, s83_59, s83_60, s83_63, s83_64, s83_65, s83_68, s83_70, s83_71, s83_74, s83_76, s83_77, s83_80, s83_83, s83_84, okF, okA, mcC_o, mcF_o, mcT_i, mcT_l, mcT_z, mcT_q, mcN_i, mcN_l, mcN_z, mcN_q, mcI_i, mcI_z, mcL_l, mcQ_q, hg_hp, hp_hp, List.getD_cons_zero, List.getD_cons_succ, List.set_cons_zero, List.set_cons_succ, List.length_cons, List.length_nil, Nat.reduceAdd, Nat.reduceLT, Nat.reduceEqDiff, Nat.lt_add_one, decide_true, decide_false, Bool.and_true, Bool.true_and, Bool.and_false, Bool.false_and, Bool.false_eq_true, if_true, if_false, ↓reduceIte, Option.bind_some, Option.bind_none, kont_v, kont_n, h46, lgo L, (lt5 L).1, l, s, p1, nm, nm2, l2]
/-- what the row of least sums and that of the free ones hold -/
def DPK (D : LD) (R n : Nat) (fr hs : Nat → Nat) (b e : Nat → Int32) (j : Nat) : Prop := R = D.1 5 ∧ n ≤ 8 ∧ (∀ k, k < n → b k = nI (fr k) ∧ fr k < 256) ∧ (∀ r, r < R → D.2.1 5 (r * 3 + 2) = nI (hs r) ∧ hs r ≤ 1000) ∧ ∀ u, j ≤ u → u < 2 ^ R → e u = enc (lv R n fr hs u)
theorem c_sw {R n : Nat} {fr hs : Nat → Nat} {a b c e : Nat → Int32} {u : Nat} (L : LG B 1 D) (K : DPK D R n fr hs b e (u + 1)) (hu : u < 2 ^ R) (hk : pcn 32 u < n) : ∀ r, r < D.1 5 → (ev X 84 0 [.ref 46, .int (nI (pcn 32 u)), .int (nI u), .int (nI r), .float 0] [] (RFH B (nI n) a b c e)) = some (some (.int (enc (rF R n fr hs (n - pcn 32 u - 1) u r))), (RFH B (nI n) a b c e)) := by
  intro r hr
  obtain ⟨k1, k2, k3, k4, k5⟩ := K
  have b5 := (LBD L).2.2.2.2.1
  have hR : 2 ^ R ≤ 256 := Nat.pow_le_pow_right (n := 2) (by decide) (show R ≤ 8 by omega)
  have ek : n - (n - pcn 32 u - 1 + 1) = pcn 32 u := by omega
  unfold rF
  rw [ek]
  obtain ⟨f1, f2⟩ := k3 _ hk
  obtain ⟨g1, g2⟩ := k4 r (by omega)
  refine c_sumWith L (by omega) (by omega) hr f1 f2 g1 (fun q1 q2 => ?_) (fun x hx => ?_)
  · obtain ⟨v1, v2, v3⟩ := (lor8 u (by omega) r (by omega)).2 q1
    have lt : (u ||| 2 ^ r) < 2 ^ R := Nat.or_lt_two_pow hu (Nat.pow_lt_pow_right (by decide) (by omega))
    rw [k5 _ (by omega) lt]
    unfold lv
    rw [v3, if_pos (by omega), show n - (pcn 32 u + 1) = n - pcn 32 u - 1 by omega]
  · have := rb_le (T := 1000) (fun r hr => (k4 r hr).2) _ _ x hx
    have : (n - pcn 32 u - 1) * 1000 ≤ 8 * 1000 := Nat.mul_le_mul_right _ (by omega)
    omega
theorem c_lb {R n : Nat} {fr hs : Nat → Nat} {a b c e : Nat → Int32} {u : Nat} (L : LG B 1 D) (K : DPK D R n fr hs b e (u + 1)) (hu : u < 2 ^ R) : (ev X 83 0 [.ref 46, .int (nI u), .float 0, .float 0, .float 0, .float 0] [] (RFH B (nI n) a b c e)) = some (some (.int (enc (lv R n fr hs u))), (RFH B (nI n) a b c e)) := by
  have k1 := K.1
  subst k1
  have K' := K
  obtain ⟨-, k2, k3, k4, k5⟩ := K
  have b5 := (LBD L).2.2.2.2.1
  have hR : 2 ^ D.1 5 ≤ 256 := Nat.pow_le_pow_right (n := 2) (by decide) (show D.1 5 ≤ 8 by omega)
  have bc := c_bitCount (X := X) (h := RFH B (nI n) a b c e) (m := u) (by omega)
  have pl := pcn_le 32 u
  unfold lv
  by_cases hk : pcn 32 u < n
  · have lt := nI_lt hk (by omega)
    have lp := c_lb_lp (X := X) (h := RFH B (nI n) a b c e) (RFH_lg L) RFH_46 (c_sw (a := a) (c := c) L K' hu hk) (fun r x hr hx => rF_le (fun r hr => (k4 r hr).2) (by omega) hr hx) (D.1 5) 0 none (.float 0) (by omega) (fun x hx => by cases hx)
    have er : rb (D.1 5) n fr hs (n - pcn 32 u) u = fol (rF (D.1 5) n fr hs (n - pcn 32 u - 1) u) (D.1 5) 0 := by
      conv => lhs; rw [show n - pcn 32 u = (n - pcn 32 u - 1) + 1 by omega]
      rfl
    rw [if_pos (by omega), er]
    rw [enc_n, nI_0, cmb_nl] at lp
    simp only [s83_0, s83_1, s83_4, s83_5, s83_6, s83_7, s83_10, s83_13, s83_14, s83_15, s83_18, s83_21, s83_22, s83_25, s83_26, s83_27, s83_28, s83_29, s83_30, s83_34, s83_35, s83_38, s83_41, s83_44, s83_47, s83_48, s83_49, s83_50, s83_52, s83_55, s83_57, s83_59, s83_60, s83_63, s83_64, s83_65, s83_68, s83_70, s83_71, s83_74, s83_76, s83_77, s83_80, s83_83, s83_84, okF, okA, mcC_o, mcF_o, mcT_i, mcT_l, mcT_z, mcT_q, mcN_i, mcN_l, mcN_z, mcN_q, mcI_i, mcI_z, mcL_l, mcQ_q, hg_hp, hp_hp, List.getD_cons_zero, List.getD_cons_succ, List.set_cons_zero, List.set_cons_succ, List.length_cons, List.length_nil, Nat.reduceAdd, Nat.reduceLT, Nat.reduceEqDiff, Nat.lt_add_one, decide_true, decide_false, Bool.and_true, Bool.true_and, Bool.and_false, Bool.false_and, Bool.false_eq_true, if_true, if_false, ↓reduceIte, Option.bind_some, Option.bind_none, kont_v, kont_n, RFH_46, bc, lt, lp]
  · have nl := nI_nlt (a := pcn 32 u) (b := n) (by omega) (by omega)
    by_cases en : pcn 32 u = n
    · have eq : (nI (pcn 32 u) = nI n) = True := eq_true (by rw [en])
      rw [if_pos (by omega), show n - pcn 32 u = 0 by omega]
      show _ = some (some (Value.int 0), RFH B (nI n) a b c e)
      simp only [s83_0, s83_1, s83_4, s83_5, s83_6, s83_7, s83_10, s83_13, s83_14, s83_15, s83_18, s83_21, s83_22, s83_25, s83_26, s83_27, s83_28, s83_29, s83_30, s83_34, s83_35, s83_38, s83_41, s83_44, s83_47, s83_48, s83_49, s83_50, s83_52, s83_55, s83_57, s83_59, s83_60, s83_63, s83_64, s83_65, s83_68, s83_70, s83_71, s83_74, s83_76, s83_77, s83_80, s83_83, s83_84, okF, okA, mcC_o, mcF_o, mcT_i, mcT_l, mcT_z, mcT_q, mcN_i, mcN_l, mcN_z, mcN_q, mcI_i, mcI_z, mcL_l, mcQ_q, hg_hp, hp_hp, List.getD_cons_zero, List.getD_cons_succ, List.set_cons_zero, List.set_cons_succ, List.length_cons, List.length_nil, Nat.reduceAdd, Nat.reduceLT, Nat.reduceEqDiff, Nat.lt_add_one, decide_true, decide_false, Bool.and_true, Bool.true_and, Bool.and_false, Bool.false_and, Bool.false_eq_true, if_true, if_false, ↓reduceIte, Option.bind_some, Option.bind_none, kont_v, kont_n, RFH_46, bc, nl, eq]
    · have eq : (nI (pcn 32 u) = nI n) = False := eq_false (fun z => en ((nI_eq (by omega) (by omega)).mp z))
      rw [if_neg (by omega), enc_n]
      simp only [s83_0, s83_1, s83_4, s83_5, s83_6, s83_7, s83_10, s83_13, s83_14, s83_15, s83_18, s83_21, s83_22, s83_25, s83_26, s83_27, s83_28, s83_29, s83_30, s83_34, s83_35, s83_38, s83_41, s83_44, s83_47, s83_48, s83_49, s83_50, s83_52, s83_55, s83_57, s83_59, s83_60, s83_63, s83_64, s83_65, s83_68, s83_70, s83_71, s83_74, s83_76, s83_77, s83_80, s83_83, s83_84, okF, okA, mcC_o, mcF_o, mcT_i, mcT_l, mcT_z, mcT_q, mcN_i, mcN_l, mcN_z, mcN_q, mcI_i, mcI_z, mcL_l, mcQ_q, hg_hp, hp_hp, List.getD_cons_zero, List.getD_cons_succ, List.set_cons_zero, List.set_cons_succ, List.length_cons, List.length_nil, Nat.reduceAdd, Nat.reduceLT, Nat.reduceEqDiff, Nat.lt_add_one, decide_true, decide_false, Bool.and_true, Bool.true_and, Bool.and_false, Bool.false_and, Bool.false_eq_true, if_true, if_false, ↓reduceIte, Option.bind_some, Option.bind_none, kont_v, kont_n, RFH_46, bc, nl, eq]
end ASS

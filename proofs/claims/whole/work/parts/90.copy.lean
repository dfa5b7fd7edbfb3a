-- IMAGES: one table into another
section CPY
variable {X : MX} {h : MH}
theorem tb_copy {tt c C W R t2 c2 R2 : Nat} {f f2 : Nat → Int32} (T : TAB h tt c C W R f) (T2 : TAB h t2 c2 C W R2 f2) (hR : R2 ≤ C) (h1 : c ≠ c2) (h2 : c ≠ t2) (hk : okC (iA (C * W) f2) (iA (C * W) f) 0 0 (Int32.ofNat (C * W)) = true) : (ev X 106 0 [.ref tt, .ref t2] [] (h)) = some (none, hp (hp h c (iA (C * W) (va_cpy f2 f 0 0 (Int32.ofNat (C * W)).toNatClampNeg))) tt (oB 10 [.int (nI C), .int (nI W), .ref c, .int (nI R2)])) := by
  have e1 : mcT (hg h c) ≤ 3 := by rw [T.2.1]; show (0 : Nat) ≤ 3; omega
  have e2 : mcT (hg h c2) ≤ 3 := by rw [T2.2.1]; show (0 : Nat) ≤ 3; omega
  have c0 : (0 : Int32).toNatClampNeg = 0 := rfl
  have n1 : ¬ tt = c := T.2.2.2.2.2
  have n2 : ¬ t2 = c := fun z => h2 z.symm
  have l : ¬ nI C < nI R2 := nI_nlt (a := C) (b := R2) hR T.2.2.1
  have l0 : ¬ Int32.ofNat (C * W) < Int32.ofNat (C * W) := by rw [Int32.lt_iff_toInt_lt]; omega
  simp (disch := omega) only [s106_0, s106_1, s106_4, s106_5, s106_6, s106_9, s106_10, s106_11, s106_14, s106_15, s106_16, s106_19, s106_20, s106_23, s106_26, s106_27, s106_28, s106_31, s106_32, s106_35, s106_38, s106_41, okF, okA, mcC_o, mcF_o, mcT_i, mcT_l, mcT_z, mcT_q, mcN_i, mcN_l, mcN_z, mcN_q, mcI_i, mcI_z, mcL_l, mcQ_q, hg_hp, hp_hp, List.getD_cons_zero, List.getD_cons_succ, List.set_cons_zero, List.set_cons_succ, List.length_cons, List.length_nil, Nat.reduceAdd, Nat.reduceLT, Nat.reduceEqDiff, Nat.lt_add_one, decide_true, decide_false, Bool.and_true, Bool.true_and, Bool.and_false, Bool.false_and, Bool.false_eq_true, if_true, if_false, ↓reduceIte, Option.bind_some, Option.bind_none, kont_v, kont_n, T.1, T2.1, T.2.1, T2.2.1, e1, e2, c0, n1, n2, l, l0, hk]
end CPY

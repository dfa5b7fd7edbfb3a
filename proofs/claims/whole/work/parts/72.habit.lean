-- HABITS: binomials
def ch : Nat → Nat → Nat
  | _, 0 => 1
  | 0, _ + 1 => 0
  | n + 1, k + 1 => ch n k + ch n (k + 1)
theorem ch_0 (n : Nat) : ch n 0 = 1 := by cases n <;> rfl
theorem ch_hi : ∀ (n k : Nat), n < k → ch n k = 0
  | 0, 0, h => absurd h (by omega)
  | 0, k + 1, _ => rfl
  | n + 1, 0, h => absurd h (by omega)
  | n + 1, k + 1, h => by
    show ch n k + ch n (k + 1) = 0
    rw [ch_hi n k (by omega), ch_hi n (k + 1) (by omega)]
theorem ch_nn : ∀ n, ch n n = 1
  | 0 => rfl
  | n + 1 => by
    show ch n n + ch n (n + 1) = 1
    rw [ch_nn n, ch_hi n (n + 1) (by omega)]
theorem ch_mul : ∀ (n k : Nat), ch n (k + 1) * (k + 1) = ch n k * (n - k)
  | 0, k => by
    show 0 * (k + 1) = ch 0 k * (0 - k)
    rw [Nat.zero_sub, Nat.mul_zero, Nat.zero_mul]
  | n + 1, 0 => by
    have h := ch_mul n 0
    rw [ch_0, Nat.one_mul, Nat.sub_zero, Nat.mul_one] at h
    show (ch n 0 + ch n 1) * 1 = ch (n + 1) 0 * (n + 1 - 0)
    rw [ch_0, ch_0, h]
    omega
  | n + 1, k + 1 => by
    have h1 := ch_mul n k
    have h2 := ch_mul n (k + 1)
    show (ch n (k + 1) + ch n (k + 1 + 1)) * (k + 1 + 1) = (ch n k + ch n (k + 1)) * (n + 1 - (k + 1))
    rw [Nat.add_mul, h2, show n + 1 - (k + 1) = n - k by omega, Nat.add_mul, ← h1, show k + 1 + 1 = (k + 1) + 1 by omega, Nat.mul_add (ch n (k + 1)) (k + 1) 1, Nat.mul_one]
    by_cases hk : n ≤ k
    · rw [ch_hi n (k + 1) (by omega)]; omega
    · have e : n - k = n - (k + 1) + 1 := by omega
      rw [e, Nat.mul_add (ch n (k + 1)) (n - (k + 1)) 1, Nat.mul_one]
      omega
def nxg : List Nat → List Nat
  | [] => []
  | a :: l => (a + l.headD 0) :: nxg l
def prl : Nat → List Nat
  | 0 => [1]
  | n + 1 => 1 :: nxg (prl n)
theorem nxg_get : ∀ (l : List Nat) (k : Nat), (nxg l).getD k 0 = l.getD k 0 + (if l.length ≤ k then 0 else l.getD (k + 1) 0)
  | [], k => rfl
  | a :: l, 0 => by
    show a + l.headD 0 = a + (if l.length + 1 ≤ 0 then 0 else l.getD 0 0)
    rw [if_neg (by omega)]
    cases l <;> rfl
  | a :: l, k + 1 => by
    show (nxg l).getD k 0 = l.getD k 0 + (if l.length + 1 ≤ k + 1 then 0 else l.getD (k + 1) 0)
    rw [nxg_get l k]
    by_cases h : l.length ≤ k
    · rw [if_pos h, if_pos (by omega)]
    · rw [if_neg h, if_neg (by omega)]
theorem prl_get : ∀ (n k : Nat), (prl n).getD k 0 = ch n k
  | 0, 0 => rfl
  | 0, k + 1 => rfl
  | n + 1, 0 => rfl
  | n + 1, k + 1 => by
    show (nxg (prl n)).getD k 0 = ch n k + ch n (k + 1)
    rw [nxg_get, prl_get n k, prl_get n (k + 1)]
    by_cases h : (prl n).length ≤ k
    · rw [if_pos h]
      have : (prl n).getD (k + 1) 0 = 0 := by
        rw [List.getD_eq_getElem?_getD, List.getElem?_eq_none (by omega)]; rfl
      rw [prl_get] at this
      rw [this]
    · rw [if_neg h]
theorem ch_mono : ∀ (n k : Nat), ch n k ≤ ch (n + 1) k
  | n, 0 => by rw [ch_0, ch_0]; exact Nat.le_refl 1
  | n, k + 1 => by
    show ch n (k + 1) ≤ ch n k + ch n (k + 1)
    omega
theorem ch_mono' {n m k : Nat} (h : n ≤ m) : ch n k ≤ ch m k := by
  induction h with
  | refl => exact Nat.le_refl _
  | step _ ih => exact Nat.le_trans ih (ch_mono _ k)
theorem prl60 : (List.range 61).all (fun k => decide ((prl 60).getD k 0 * k < 2 ^ 63)) = true := by decide +kernel
theorem ch_small {n k : Nat} (hn : n ≤ 60) (hk : k ≤ n) : ch n k * k < 2 ^ 63 := by
  have h := List.all_eq_true.mp prl60 k (List.mem_range.mpr (by omega))
  rw [decide_eq_true_eq, prl_get] at h
  exact Nat.lt_of_le_of_lt (Nat.mul_le_mul_right k (ch_mono' hn)) h
theorem lN_toI {n : Nat} (h : n < 2 ^ 63) : (lN n).toInt = (n : Int) := by
  exact Int64.toInt_ofNat_of_lt h
theorem lN_div {a d : Nat} (ha : a * d < 2 ^ 63) (hd : 0 < d) (hd2 : d < 2 ^ 31) (ha2 : a < 2 ^ 63) : lN (a * d) / lN d = lN a := by
  apply Int64.toInt_inj.mp
  rw [Int64.toInt_div, lN_toI ha, lN_toI (by omega), lN_toI ha2]
  have : ((a * d : Nat) : Int).tdiv (d : Int) = (a : Int) := by
    rw [← Int.ofNat_tdiv, Nat.mul_div_cancel _ hd]
  rw [this]
  exact Int.bmod_eq_of_le (by omega) (by omega)
def Sg (n m : Nat) : Nat → Nat
  | 0 => 0
  | d + 1 => Sg n m d + ch n (m + d)
def XL (n : Nat) : Int64 := (1 : Int64) <<< ((nI n).toInt64 &&& 63) / 20
/-- the chance is no more than 1 by 20 -/
def RAR (n m : Nat) : Prop := ¬ 0 < lg_cmp (lN (Sg n m (n + 1 - m))) (XL n)
section HAB
variable {X : MX} {t : Nat} {h : MH} {D : LD} {S IM KP : Nat → Int32}
theorem Sg_front (n m : Nat) : ∀ d, Sg n m (d + 1) = ch n m + Sg n (m + 1) d
  | 0 => by show 0 + ch n (m + 0) = ch n m + 0; rw [Nat.add_zero, Nat.add_zero, Nat.zero_add]
  | d + 1 => by
    show Sg n m (d + 1) + ch n (m + (d + 1)) = ch n m + (Sg n (m + 1) d + ch n (m + 1 + d))
    rw [Sg_front n m d, show m + 1 + d = m + (d + 1) by omega, Nat.add_assoc]
theorem c_rare_lp {n m : Nat} (hn : n ≤ 60) (hm : m ≤ n) : ∀ (c s : Nat) (W : Int64), c ≤ n + 1 → (c ≠ 0 → W = lN (ch n (c - 1))) → ev X 91 20 [.int (nI m), .int (nI n), .long W, .float 0, .long (lN s), .float 0, .int (kv c)] [] h = some (some (.int (if 0 < lg_cmp (lN (s + Sg n m (c - m))) (XL n) then 0 else 1)), (h))
  | 0, s, W, hc, hW => by
    have l : kv 0 < nI m := by rw [Int32.lt_iff_toInt_lt, nI_toInt (by omega)]; show (-1 : Int32).toInt < _; rw [show (-1 : Int32).toInt = -1 by decide]; omega
    have h20 : ¬ (20 : Int64) = 0 := by decide
    rw [s91_20, show 0 - m = 0 by omega]
    rw [show Sg n m 0 = 0 from rfl, Nat.add_zero]
    unfold XL
    by_cases k : 0 < lg_cmp (lN s) ((1 : Int64) <<< ((nI n).toInt64 &&& 63) / 20)
    · simp only [s91_0, s91_1, s91_2, s91_4, s91_7, s91_10, s91_11, s91_12, s91_13, s91_14, s91_15, s91_17, s91_18, s91_22, s91_23, s91_26, s91_28, s91_31, s91_33, s91_34, s91_35, s91_37, s91_38, s91_40, s91_41, s91_42, s91_43, s91_45, s91_46, s91_47, s91_48, s91_49, s91_50, s91_51, s91_54, s91_57, s91_59, s91_60, s91_61, s91_62, s91_65, s91_66, s91_67, s91_70, s91_71, s91_74, s91_75, okF, okA, mcC_o, mcF_o, mcT_i, mcT_l, mcT_z, mcT_q, mcN_i, mcN_l, mcN_z, mcN_q, mcI_i, mcI_z, mcL_l, mcQ_q, hg_hp, hp_hp, List.getD_cons_zero, List.getD_cons_succ, List.set_cons_zero, List.set_cons_succ, List.length_cons, List.length_nil, Nat.reduceAdd, Nat.reduceLT, Nat.reduceEqDiff, Nat.lt_add_one, decide_true, decide_false, Bool.and_true, Bool.true_and, Bool.and_false, Bool.false_and, Bool.false_eq_true, if_true, if_false, ↓reduceIte, Option.bind_some, Option.bind_none, kont_v, kont_n, l, h20, k, b01]
    · simp only [s91_0, s91_1, s91_2, s91_4, s91_7, s91_10, s91_11, s91_12, s91_13, s91_14, s91_15, s91_17, s91_18, s91_22, s91_23, s91_26, s91_28, s91_31, s91_33, s91_34, s91_35, s91_37, s91_38, s91_40, s91_41, s91_42, s91_43, s91_45, s91_46, s91_47, s91_48, s91_49, s91_50, s91_51, s91_54, s91_57, s91_59, s91_60, s91_61, s91_62, s91_65, s91_66, s91_67, s91_70, s91_71, s91_74, s91_75, okF, okA, mcC_o, mcF_o, mcT_i, mcT_l, mcT_z, mcT_q, mcN_i, mcN_l, mcN_z, mcN_q, mcI_i, mcI_z, mcL_l, mcQ_q, hg_hp, hp_hp, List.getD_cons_zero, List.getD_cons_succ, List.set_cons_zero, List.set_cons_succ, List.length_cons, List.length_nil, Nat.reduceAdd, Nat.reduceLT, Nat.reduceEqDiff, Nat.lt_add_one, decide_true, decide_false, Bool.and_true, Bool.true_and, Bool.and_false, Bool.false_and, Bool.false_eq_true, if_true, if_false, ↓reduceIte, Option.bind_some, Option.bind_none, kont_v, kont_n, l, h20, k, b11]
  | c + 1, s, W, hc, hW => by
    have h20 : ¬ (20 : Int64) = 0 := by decide
    have ekv : kv (c + 1) = nI c := rfl
    have eW : W = lN (ch n c) := hW (by omega)
    by_cases hcm : c < m
    · have l := nI_lt hcm (by omega)
      rw [s91_20, ekv, show c + 1 - m = 0 by omega]
      rw [show Sg n m 0 = 0 from rfl, Nat.add_zero]
      unfold XL
      by_cases k : 0 < lg_cmp (lN s) ((1 : Int64) <<< ((nI n).toInt64 &&& 63) / 20)
      · simp only [s91_0, s91_1, s91_2, s91_4, s91_7, s91_10, s91_11, s91_12, s91_13, s91_14, s91_15, s91_17, s91_18, s91_22, s91_23, s91_26, s91_28, s91_31, s91_33, s91_34, s91_35, s91_37, s91_38, s91_40, s91_41, s91_42, s91_43, s91_45, s91_46, s91_47, s91_48, s91_49, s91_50, s91_51, s91_54, s91_57, s91_59, s91_60, s91_61, s91_62, s91_65, s91_66, s91_67, s91_70, s91_71, s91_74, s91_75, okF, okA, mcC_o, mcF_o, mcT_i, mcT_l, mcT_z, mcT_q, mcN_i, mcN_l, mcN_z, mcN_q, mcI_i, mcI_z, mcL_l, mcQ_q, hg_hp, hp_hp, List.getD_cons_zero, List.getD_cons_succ, List.set_cons_zero, List.set_cons_succ, List.length_cons, List.length_nil, Nat.reduceAdd, Nat.reduceLT, Nat.reduceEqDiff, Nat.lt_add_one, decide_true, decide_false, Bool.and_true, Bool.true_and, Bool.and_false, Bool.false_and, Bool.false_eq_true, if_true, if_false, ↓reduceIte, Option.bind_some, Option.bind_none, kont_v, kont_n, l, h20, k, b01]
      · simp only [s91_0, s91_1, s91_2, s91_4, s91_7, s91_10, s91_11, s91_12, s91_13, s91_14, s91_15, s91_17, s91_18, s91_22, s91_23, s91_26, s91_28, s91_31, s91_33, s91_34, s91_35, s91_37, s91_38, s91_40, s91_41, s91_42, s91_43, s91_45, s91_46, s91_47, s91_48, s91_49, s91_50, s91_51, s91_54, s91_57, s91_59, s91_60, s91_61, s91_62, s91_65, s91_66, s91_67, s91_70, s91_71, s91_74, s91_75, okF, okA, mcC_o, mcF_o, mcT_i, mcT_l, mcT_z, mcT_q, mcN_i, mcN_l, mcN_z, mcN_q, mcI_i, mcI_z, mcL_l, mcQ_q, hg_hp, hp_hp, List.getD_cons_zero, List.getD_cons_succ, List.set_cons_zero, List.set_cons_succ, List.length_cons, List.length_nil, Nat.reduceAdd, Nat.reduceLT, Nat.reduceEqDiff, Nat.lt_add_one, decide_true, decide_false, Bool.and_true, Bool.true_and, Bool.and_false, Bool.false_and, Bool.false_eq_true, if_true, if_false, ↓reduceIte, Option.bind_some, Option.bind_none, kont_v, kont_n, l, h20, k, b11]
    · have l := nI_nlt (show m ≤ c by omega) (by omega)
      have l0 : ¬ nI c < 0 := nI_pos (by omega)
      have ek : nI c + -1 = kv c := by
        cases c with
        | zero => rfl
        | succ d => exact pk_m1 d
      have dn : ¬ lN (n - c + 1) = 0 := by
        intro z
        have := lN_toI (n := n - c + 1) (by omega)
        rw [z] at this
        have z0 : (0 : Int64).toInt = 0 := by decide
        rw [z0] at this
        omega
      have sb : nI n - nI c = nI (n - c) := nI_sub (by omega)
      have i1 := nI_l (n := c) (by omega)
      have i2 := nI_l (n := n - c + 1) (by omega)
      have ih := c_rare_lp hn hm c (s + ch n c) (lN (ch n c * c) / lN (n - c + 1)) (by omega) (fun hc0 => by
        have e := ch_mul n (c - 1)
        rw [show c - 1 + 1 = c by omega] at e
        have b := ch_small hn (show c ≤ n by omega)
        rw [e, show n - (c - 1) = n - c + 1 by omega] at *
        refine lN_div b (by omega) (by omega) ?_
        have : ch n (c - 1) ≤ ch n (c - 1) * (n - c + 1) := Nat.le_mul_of_pos_right _ (by omega)
        omega)
      have es : s + ch n c + Sg n m (c - m) = s + Sg n m (c + 1 - m) := by
        rw [show c + 1 - m = (c - m) + 1 by omega]
        show _ = s + (Sg n m (c - m) + ch n (m + (c - m)))
        rw [show m + (c - m) = c by omega]
        omega
      rw [es] at ih
      rw [← ih, s91_20, ekv, eW]
      simp only [s91_0, s91_1, s91_2, s91_4, s91_7, s91_10, s91_11, s91_12, s91_13, s91_14, s91_15, s91_17, s91_18, s91_22, s91_23, s91_26, s91_28, s91_31, s91_33, s91_34, s91_35, s91_37, s91_38, s91_40, s91_41, s91_42, s91_43, s91_45, s91_46, s91_47, s91_48, s91_49, s91_50, s91_51, s91_54, s91_57, s91_59, s91_60, s91_61, s91_62, s91_65, s91_66, s91_67, s91_70, s91_71, s91_74, s91_75, okF, okA, mcC_o, mcF_o, mcT_i, mcT_l, mcT_z, mcT_q, mcN_i, mcN_l, mcN_z, mcN_q, mcI_i, mcI_z, mcL_l, mcQ_q, hg_hp, hp_hp, List.getD_cons_zero, List.getD_cons_succ, List.set_cons_zero, List.set_cons_succ, List.length_cons, List.length_nil, Nat.reduceAdd, Nat.reduceLT, Nat.reduceEqDiff, Nat.lt_add_one, decide_true, decide_false, Bool.and_true, Bool.true_and, Bool.and_false, Bool.false_and, Bool.false_eq_true, if_true, if_false, ↓reduceIte, Option.bind_some, Option.bind_none, kont_v, kont_n, l, l0, lN_add, i1, lN_mul, sb, nI_1, i2, dn, ek]
theorem c_isRare {n m : Nat} (hn : n ≤ 60) (hm : m ≤ n) : (ev X 91 0 [.int (nI m), .int (nI n), .float 0, .float 0, .float 0, .float 0, .float 0] [] (h)) = some (some (.int (if 0 < lg_cmp (lN (Sg n m (n + 1 - m))) (XL n) then 0 else 1)), (h)) := by
  have w : wi (nI n) 0 60 = 1 := by
    have := wi_nn (a := n) (b := 0) (c := 60) (by omega) (by omega) (by omega)
    rw [if_pos (by omega)] at this
    exact this
  have lp := c_rare_lp (X := X) (h := h) hn hm (n + 1) 0 1 (Nat.le_refl _) (fun _ => by rw [Nat.add_sub_cancel, ch_nn]; rfl)
  rw [Nat.zero_add] at lp
  simp only [s91_0, s91_1, s91_2, s91_4, s91_7, s91_10, s91_11, s91_12, s91_13, s91_14, s91_15, s91_17, s91_18, s91_22, s91_23, s91_26, s91_28, s91_31, s91_33, s91_34, s91_35, s91_37, s91_38, s91_40, s91_41, s91_42, s91_43, s91_45, s91_46, s91_47, s91_48, s91_49, s91_50, s91_51, s91_54, s91_57, s91_59, s91_60, s91_61, s91_62, s91_65, s91_66, s91_67, s91_70, s91_71, s91_74, s91_75, okF, okA, mcC_o, mcF_o, mcT_i, mcT_l, mcT_z, mcT_q, mcN_i, mcN_l, mcN_z, mcN_q, mcI_i, mcI_z, mcL_l, mcQ_q, hg_hp, hp_hp, List.getD_cons_zero, List.getD_cons_succ, List.set_cons_zero, List.set_cons_succ, List.length_cons, List.length_nil, Nat.reduceAdd, Nat.reduceLT, Nat.reduceEqDiff, Nat.lt_add_one, decide_true, decide_false, Bool.and_true, Bool.true_and, Bool.and_false, Bool.false_and, Bool.false_eq_true, if_true, if_false, ↓reduceIte, Option.bind_some, Option.bind_none, kont_v, kont_n, c_within, w, one0]
  exact lp
/-- the habit, out of both counts -/
noncomputable def hab (q p : Nat) : Int32 := if q = p then 0 else @ite _ (RAR (q + p) (if q < p then p else q)) (Classical.propDecidable _) (if p < q then 1 else -1) 0
theorem c_habitFrom {q p : Nat} (hqp : q + p ≤ 60) : (ev X 90 0 [.int (nI q), .int (nI p)] [] (h)) = some (some (.int (hab q p)), (h)) := by
  unfold hab RAR
  by_cases e : q = p
  · subst e
    rw [if_pos rfl]
    simp only [s90_0, s90_1, s90_2, s90_5, s90_6, s90_7, s90_10, s90_11, s90_12, s90_13, s90_16, s90_19, s90_20, s90_21, s90_22, s90_23, s90_26, s90_27, s90_30, s90_31, okF, okA, mcC_o, mcF_o, mcT_i, mcT_l, mcT_z, mcT_q, mcN_i, mcN_l, mcN_z, mcN_q, mcI_i, mcI_z, mcL_l, mcQ_q, hg_hp, hp_hp, List.getD_cons_zero, List.getD_cons_succ, List.set_cons_zero, List.set_cons_succ, List.length_cons, List.length_nil, Nat.reduceAdd, Nat.reduceLT, Nat.reduceEqDiff, Nat.lt_add_one, decide_true, decide_false, Bool.and_true, Bool.true_and, Bool.and_false, Bool.false_and, Bool.false_eq_true, if_true, if_false, ↓reduceIte, Option.bind_some, Option.bind_none, kont_v, kont_n, eq_self]
  have ne : ¬ nI q = nI p := fun z => e ((nI_eq (by omega) (by omega)).mp z)
  rw [if_neg e]
  by_cases k : q < p
  · have l := nI_lt k (by omega)
    have l2 := nI_nlt (show q ≤ p by omega) (by omega)
    have er := c_isRare (X := X) (h := h) (n := q + p) (m := p) hqp (by omega)
    simp only [if_pos k, if_neg (show ¬ p < q by omega)]
    by_cases r : 0 < lg_cmp (lN (Sg (q + p) p (q + p + 1 - p))) (XL (q + p))
    · rw [if_pos r] at er
      rw [if_neg (fun z => z r)]
      simp only [s90_0, s90_1, s90_2, s90_5, s90_6, s90_7, s90_10, s90_11, s90_12, s90_13, s90_16, s90_19, s90_20, s90_21, s90_22, s90_23, s90_26, s90_27, s90_30, s90_31, okF, okA, mcC_o, mcF_o, mcT_i, mcT_l, mcT_z, mcT_q, mcN_i, mcN_l, mcN_z, mcN_q, mcI_i, mcI_z, mcL_l, mcQ_q, hg_hp, hp_hp, List.getD_cons_zero, List.getD_cons_succ, List.set_cons_zero, List.set_cons_succ, List.length_cons, List.length_nil, Nat.reduceAdd, Nat.reduceLT, Nat.reduceEqDiff, Nat.lt_add_one, decide_true, decide_false, Bool.and_true, Bool.true_and, Bool.and_false, Bool.false_and, Bool.false_eq_true, if_true, if_false, ↓reduceIte, Option.bind_some, Option.bind_none, kont_v, kont_n, ne, l, l2, nI_add, er]
    · rw [if_neg r] at er
      rw [if_pos r]
      simp only [s90_0, s90_1, s90_2, s90_5, s90_6, s90_7, s90_10, s90_11, s90_12, s90_13, s90_16, s90_19, s90_20, s90_21, s90_22, s90_23, s90_26, s90_27, s90_30, s90_31, okF, okA, mcC_o, mcF_o, mcT_i, mcT_l, mcT_z, mcT_q, mcN_i, mcN_l, mcN_z, mcN_q, mcI_i, mcI_z, mcL_l, mcQ_q, hg_hp, hp_hp, List.getD_cons_zero, List.getD_cons_succ, List.set_cons_zero, List.set_cons_succ, List.length_cons, List.length_nil, Nat.reduceAdd, Nat.reduceLT, Nat.reduceEqDiff, Nat.lt_add_one, decide_true, decide_false, Bool.and_true, Bool.true_and, Bool.and_false, Bool.false_and, Bool.false_eq_true, if_true, if_false, ↓reduceIte, Option.bind_some, Option.bind_none, kont_v, kont_n, ne, l, l2, nI_add, er, one0]
  · have l := nI_nlt (show p ≤ q by omega) (by omega)
    have l2 := nI_lt (show p < q by omega) (by omega)
    have er := c_isRare (X := X) (h := h) (n := q + p) (m := q) hqp (by omega)
    simp only [if_neg k, if_pos (show p < q by omega)]
    by_cases r : 0 < lg_cmp (lN (Sg (q + p) q (q + p + 1 - q))) (XL (q + p))
    · rw [if_pos r] at er
      rw [if_neg (fun z => z r)]
      simp only [s90_0, s90_1, s90_2, s90_5, s90_6, s90_7, s90_10, s90_11, s90_12, s90_13, s90_16, s90_19, s90_20, s90_21, s90_22, s90_23, s90_26, s90_27, s90_30, s90_31, okF, okA, mcC_o, mcF_o, mcT_i, mcT_l, mcT_z, mcT_q, mcN_i, mcN_l, mcN_z, mcN_q, mcI_i, mcI_z, mcL_l, mcQ_q, hg_hp, hp_hp, List.getD_cons_zero, List.getD_cons_succ, List.set_cons_zero, List.set_cons_succ, List.length_cons, List.length_nil, Nat.reduceAdd, Nat.reduceLT, Nat.reduceEqDiff, Nat.lt_add_one, decide_true, decide_false, Bool.and_true, Bool.true_and, Bool.and_false, Bool.false_and, Bool.false_eq_true, if_true, if_false, ↓reduceIte, Option.bind_some, Option.bind_none, kont_v, kont_n, ne, l, l2, nI_add, er]
    · rw [if_neg r] at er
      rw [if_pos r]
      simp only [s90_0, s90_1, s90_2, s90_5, s90_6, s90_7, s90_10, s90_11, s90_12, s90_13, s90_16, s90_19, s90_20, s90_21, s90_22, s90_23, s90_26, s90_27, s90_30, s90_31, okF, okA, mcC_o, mcF_o, mcT_i, mcT_l, mcT_z, mcT_q, mcN_i, mcN_l, mcN_z, mcN_q, mcI_i, mcI_z, mcL_l, mcQ_q, hg_hp, hp_hp, List.getD_cons_zero, List.getD_cons_succ, List.set_cons_zero, List.set_cons_succ, List.length_cons, List.length_nil, Nat.reduceAdd, Nat.reduceLT, Nat.reduceEqDiff, Nat.lt_add_one, decide_true, decide_false, Bool.and_true, Bool.true_and, Bool.and_false, Bool.false_and, Bool.false_eq_true, if_true, if_false, ↓reduceIte, Option.bind_some, Option.bind_none, kont_v, kont_n, ne, l, l2, nI_add, er, one0]
end HAB

-- FORMULA 2: a letter's place, one sign read
section STR
variable {X : MX} {j pc : Nat} {loc st : List Value} {h : MH} {B : ByteArray}
theorem q_str {i n k c0 : Nat} {qj qk : MT} {As r l2 : List Value} (hb : mt_b (mq j) = B) (hd : decode B pc = .ok (.invokevirtual i, 3)) (hc0 : mt_c (mq j) = c0) (hct : ct c0 i = some (k, 0)) (ej : mq j = qj) (ek : mq k = qk) (hn : mt_n qk = n) (hkk : mt_k qk = 1) (hm : mayQ qj qk = true) (hcc : mt_c qk = 15) (hdr : st.drop n = .retAddr 4 :: r) (hl : lite r = true) (hA : (st.take n).reverse = As) (he : entK qk (.retAddr 4 :: As) = true) (h2 : entQ qk (.retAddr 4 :: As) = l2) : ev X j pc loc st h = (ev X k 0 l2 [] h).bind (kont X j (pc + 3) loc r) := by
  subst ej
  subst ek
  have hcall : callOf j (.invokevirtual i) 3 st h = some (k, .retAddr 4 :: As, r) := by
    show (ct (mt_c (mq j)) i).bind _ = _
    rw [hc0, hct]
    show (match st.drop (mt_n (mq k)) with
      | b :: r => if mt_k (mq k) = 1 ∧ 0 = 0 ∧ mayc j k = true ∧ recvOk h k b = true ∧ lite r = true then some (k, b :: (st.take (mt_n (mq k))).reverse, r) else none
      | [] => none) = _
    rw [hn, hdr]
    show (if mt_k (mq k) = 1 ∧ 0 = 0 ∧ mayc j k = true ∧ recvOk h k (.retAddr 4) = true ∧ lite r = true then some (k, .retAddr 4 :: (st.take n).reverse, r) else none) = _
    have rc : recvOk h k (.retAddr 4) = true := decide_eq_true hcc
    have hm' : mayc j k = true := hm
    rw [hA, hkk, hm', hl, rc]
    rfl
  exact r_call hb hd (by show ¬ 5 = 6; decide) hcall he h2
end STR
theorem s33_78 {X : MX} {a0 a1 a2 a3 : Value} {h : MH} {p0 : Int32} : ev X 33 78 [a0, a1, a2, a3] ([.int p0, .retAddr 4]) h = (ev X 243 0 [.retAddr 4, .int p0] [] h).bind (kont X 33 81 [a0, a1, a2, a3] []) := q_str mb_33 (show decode prog_4_method_9_code 78 = .ok (.invokevirtual 113, 3) by decide +kernel) mc_33 ctc_2_113 me_33 me_243 rfl rfl (by decide +kernel) rfl rfl rfl rfl rfl rfl
theorem s242_6 {X : MX} {a0 : Value} {h : MH} {r0 : Value} : ev X 242 6 [a0] ([.retAddr 4, r0]) h = (ev X 245 0 [.retAddr 4] [] h).bind (kont X 242 9 [a0] [r0]) := q_str mb_242 (show decode prog_18_method_54_code 6 = .ok (.invokevirtual 335, 3) by decide +kernel) mc_242 ctc_15_335 me_242 me_245 rfl rfl (by decide +kernel) rfl rfl rfl rfl rfl rfl
theorem s243_3 {X : MX} {a0 a1 : Value} {h : MH} {p0 p1 : Int32} : ev X 243 3 [a0, a1] ([.int p1, .int p0, .retAddr 4]) h = (ev X 244 0 [.retAddr 4, .int p0, .int p1] [] h).bind (kont X 243 6 [a0, a1] []) := q_str mb_243 (show decode prog_18_method_79_code 3 = .ok (.invokevirtual 633, 3) by decide +kernel) mc_243 ctc_15_633 me_243 me_244 rfl rfl (by decide +kernel) rfl rfl rfl rfl rfl rfl
theorem s244_1 {X : MX} {a0 a1 a2 : Value} {h : MH} : ev X 244 1 [a0, a1, a2] ([.retAddr 4]) h = (ev X 246 0 [.retAddr 4] [] h).bind (kont X 244 4 [a0, a1, a2] []) := q_str mb_244 (show decode prog_18_method_80_code 1 = .ok (.invokevirtual 492, 3) by decide +kernel) mc_244 ctc_15_492 me_244 me_246 rfl rfl (by decide +kernel) rfl rfl rfl rfl rfl rfl
theorem s244_14 {X : MX} {a0 a1 a2 : Value} {h : MH} {r0 r1 : Int32} : ev X 244 14 [a0, a1, a2] ([.retAddr 4, .int r0, .int r1, .retAddr 5]) h = (ev X 242 0 [.retAddr 4] [] h).bind (kont X 244 17 [a0, a1, a2] [.int r0, .int r1, .retAddr 5]) := q_str mb_244 (show decode prog_18_method_80_code 14 = .ok (.invokevirtual 505, 3) by decide +kernel) mc_244 ctc_15_505 me_244 me_242 rfl rfl (by decide +kernel) rfl rfl rfl rfl rfl rfl
theorem s242_4 {st : List Value} {X : MX} {a0 : Value} {h : MH} : ev X 242 4 [a0] (.retAddr 5 :: st) h = ev X 242 5 [a0] (.int 7 :: st) h := r_sim (q := (5, [a0], .int 7 :: st, h)) mb_242 (show decode prog_18_method_54_code 4 = .ok (.arraylength, 1) by decide +kernel) (by decide) rfl rfl
theorem s248_17 {st : List Value} {X : MX} {a0 a1 a2 a3 : Value} {h : MH} : ev X 248 17 [a0, a1, a2, a3] (.retAddr 5 :: st) h = ev X 248 18 [a0, a1, a2, a3] (.int 7 :: st) h := r_sim (q := (18, [a0, a1, a2, a3], .int 7 :: st, h)) mb_248 (show decode prog_19_method_22_code 17 = .ok (.arraylength, 1) by decide +kernel) (by decide) rfl rfl
theorem s249_16 {st : List Value} {X : MX} {a0 a1 a2 a3 a4 a5 : Value} {h : MH} {i : Int32} : ev X 249 16 [a0, a1, a2, a3, a4, a5] (.int i :: .retAddr 5 :: st) h = if inR i 7 then ev X 249 17 [a0, a1, a2, a3, a4, a5] (.int (roB i.toNatClampNeg) :: st) h else none := r_map (c := inR i 7) (q := (17, [a0, a1, a2, a3, a4, a5], .int (roB i.toNatClampNeg) :: st, h)) mb_249 (show decode prog_19_method_23_code 16 = .ok (.baload, 1) by decide +kernel) (by show ¬ 4 = 6; decide) rfl rfl
theorem s245_14 {X : MX} {a0 : Value} {h : MH} : ev X 245 14 [a0] [.int 0] h = some (some (.int 0), h) := r_bret mb_245 mr_245 (show decode prog_18_method_152_code 14 = .ok (.ireturn, 1) by decide +kernel) (by decide)
def ltr (c : Nat) : Nat := if c = 119 then 0 else if c = 100 then 1 else if c = 103 then 2 else if c = 98 then 3 else if c = 115 then 4 else if c = 121 then 5 else if c = 114 then 6 else 7
theorem i2b_ok : ∀ c, c < 128 → (nI c).toInt8.toInt32 = nI c := by decide +kernel
theorem i2c_ok : ∀ c, c < 128 → ((nI c).toUInt32 % 65536).toInt32 = nI c := by decide +kernel
theorem roB_v : roB 0 = 119 ∧ roB 1 = 100 ∧ roB 2 = 103 ∧ roB 3 = 98 ∧ roB 4 = 115 ∧ roB 5 = 121 ∧ roB 6 = 114 := ⟨rfl, rfl, rfl, rfl, rfl, rfl, rfl⟩
theorem roB_n : ∀ i, i < 7 → ∀ c, c < 128 → (roB i = nI c ↔ ltr c = i) := by decide +kernel
theorem ltr_le (c : Nat) : ltr c ≤ 7 := by
  unfold ltr
  split
  · omega
  · split
    · omega
    · split
      · omega
      · split
        · omega
        · split
          · omega
          · split
            · omega
            · split <;> omega
section STR2
variable {X : MX} {h : MH}
theorem c_ioc {c : Nat} (hc : c < 128) : ∀ (d i : Nat), i + d = 7 → i ≤ ltr c → ev X 249 7 [.retAddr 5, .int (nI c), .int 0, .int 7, .int (nI c), .int (nI i)] [] h = some (some (.int (if ltr c < 7 then nI (ltr c) else -1)), (h)) := by
  intro d
  induction d with
  | zero =>
    intro i e hi
    have e : i = 7 := by omega
    have l : ¬ nI 7 < (7 : Int32) := by decide
    subst e
    rw [if_neg (by omega), s249_7]
    simp only [s249_0, s249_1, s249_2, s249_4, s249_5, s249_9, s249_10, s249_13, s249_14, s249_16, s249_17, s249_19, s249_22, s249_24, s249_25, s249_28, s249_31, s249_32, okF, okA, mcC_o, mcF_o, mcT_i, mcT_l, mcT_z, mcT_q, mcN_i, mcN_l, mcN_z, mcN_q, mcI_i, mcI_z, mcL_l, mcQ_q, hg_hp, hp_hp, List.getD_cons_zero, List.getD_cons_succ, List.set_cons_zero, List.set_cons_succ, List.length_cons, List.length_nil, Nat.reduceAdd, Nat.reduceLT, Nat.reduceEqDiff, Nat.lt_add_one, decide_true, decide_false, Bool.and_true, Bool.true_and, Bool.and_false, Bool.false_and, Bool.false_eq_true, if_true, if_false, ↓reduceIte, Option.bind_some, Option.bind_none, kont_v, kont_n, l]
  | succ d ih =>
    intro i e hi
    have l : nI i < (7 : Int32) := nI_lt (b := 7) (by omega) (by decide)
    have p1 : nI i + 1 = nI (i + 1) := nI_add i 1
    have r1 : inR (nI i) 7 = true := inR_n (by omega) (by decide)
    have c1 : (nI i).toNatClampNeg = i := nI_clamp (by omega)
    have rb := roB_n i (by omega) c hc
    by_cases q : ltr c = i
    · have e1 := eq_true (rb.mpr q)
      rw [q, if_pos (by omega), s249_7]
      simp only [s249_0, s249_1, s249_2, s249_4, s249_5, s249_9, s249_10, s249_13, s249_14, s249_16, s249_17, s249_19, s249_22, s249_24, s249_25, s249_28, s249_31, s249_32, okF, okA, mcC_o, mcF_o, mcT_i, mcT_l, mcT_z, mcT_q, mcN_i, mcN_l, mcN_z, mcN_q, mcI_i, mcI_z, mcL_l, mcQ_q, hg_hp, hp_hp, List.getD_cons_zero, List.getD_cons_succ, List.set_cons_zero, List.set_cons_succ, List.length_cons, List.length_nil, Nat.reduceAdd, Nat.reduceLT, Nat.reduceEqDiff, Nat.lt_add_one, decide_true, decide_false, Bool.and_true, Bool.true_and, Bool.and_false, Bool.false_and, Bool.false_eq_true, if_true, if_false, ↓reduceIte, Option.bind_some, Option.bind_none, kont_v, kont_n, l, r1, c1, e1]
    · have e1 := eq_false (fun z => q (rb.mp z))
      rw [← ih (i + 1) (by omega) (by omega), s249_7]
      simp only [s249_0, s249_1, s249_2, s249_4, s249_5, s249_9, s249_10, s249_13, s249_14, s249_16, s249_17, s249_19, s249_22, s249_24, s249_25, s249_28, s249_31, s249_32, okF, okA, mcC_o, mcF_o, mcT_i, mcT_l, mcT_z, mcT_q, mcN_i, mcN_l, mcN_z, mcN_q, mcI_i, mcI_z, mcL_l, mcQ_q, hg_hp, hp_hp, List.getD_cons_zero, List.getD_cons_succ, List.set_cons_zero, List.set_cons_succ, List.length_cons, List.length_nil, Nat.reduceAdd, Nat.reduceLT, Nat.reduceEqDiff, Nat.lt_add_one, decide_true, decide_false, Bool.and_true, Bool.true_and, Bool.and_false, Bool.false_and, Bool.false_eq_true, if_true, if_false, ↓reduceIte, Option.bind_some, Option.bind_none, kont_v, kont_n, l, r1, c1, e1, p1]
theorem c_indexOf {c : Nat} (hc : c < 128) : (ev X 243 0 [.retAddr 4, .int (nI c)] [] (h)) = some (some (.int (if ltr c < 7 then nI (ltr c) else -1)), (h)) := by
  have lp := c_ioc (X := X) (h := h) hc 7 0 (by omega) (Nat.zero_le _)
  rw [nI_0] at lp
  have ce : (ev X 247 0 [.int (nI c)] [] (h)) = some (some (.int (1)), (h)) := by
    have l0 : ¬ nI c < 0 := nI_pos (by omega)
    have l1 : ¬ (255 : Int32) < nI c := nI_nlt (a := 255) (by omega) (by decide)
    have b1 : ((1 : Int32) &&& 1 = 1) = True := eq_true (by decide)
    simp only [s247_0, s247_1, s247_4, s247_5, s247_8, s247_11, s247_12, s247_15, s247_16, okF, okA, mcC_o, mcF_o, mcT_i, mcT_l, mcT_z, mcT_q, mcN_i, mcN_l, mcN_z, mcN_q, mcI_i, mcI_z, mcL_l, mcQ_q, hg_hp, hp_hp, List.getD_cons_zero, List.getD_cons_succ, List.set_cons_zero, List.set_cons_succ, List.length_cons, List.length_nil, Nat.reduceAdd, Nat.reduceLT, Nat.reduceEqDiff, Nat.lt_add_one, decide_true, decide_false, Bool.and_true, Bool.true_and, Bool.and_false, Bool.false_and, Bool.false_eq_true, if_true, if_false, ↓reduceIte, Option.bind_some, Option.bind_none, kont_v, kont_n, l0, l1, b1]
  have one0 : ¬ (1 : Int32) = 0 := by decide
  have b1 : ((1 : Int32) &&& 1 = 1) = True := eq_true (by decide)
  have b0 : ((0 : Int32) = 0) = True := eq_true rfl
  have m1 : (if (0 : Int32) < 0 then (0 : Int32) else 0) = 0 := by decide
  have m2 : (if (7 : Int32) < 7 then (7 : Int32) else 7) = 7 := by decide
  have l07 : (0 : Int32) < 7 := by decide
  have sh : (7 : Int32) >>> ((0 : Int32) &&& 31) = 7 := by decide
  have i2b := i2b_ok c hc
  simp only [s243_0, s243_1, s243_2, s243_3, s243_6, s244_0, s244_1, s244_4, s244_7, s244_8, s244_11, s244_12, s244_13, s244_14, s244_17, s244_20, s244_23, s244_24, s244_27, s244_28, s244_29, s244_36, s242_0, s242_1, s242_4, s242_5, s242_6, s242_9, s242_10, s245_0, s245_3, s245_6, s245_7, s245_10, s245_13, s245_14, s246_0, s246_3, s246_6, s246_7, s246_10, s246_13, s246_14, s246_17, s246_18, s248_0, s248_1, s248_4, s248_7, s248_8, s248_9, s248_10, s248_11, s248_14, s248_15, s248_16, s248_17, s248_18, s248_21, s248_22, s248_23, s248_24, s248_27, s248_28, s248_29, s248_30, s248_31, s248_32, s248_33, s248_36, s249_0, s249_1, s249_2, s249_4, s249_5, s249_9, s249_10, s249_13, s249_14, s249_16, s249_17, s249_19, s249_22, s249_24, s249_25, s249_28, s249_31, s249_32, okF, okA, mcC_o, mcF_o, mcT_i, mcT_l, mcT_z, mcT_q, mcN_i, mcN_l, mcN_z, mcN_q, mcI_i, mcI_z, mcL_l, mcQ_q, hg_hp, hp_hp, List.getD_cons_zero, List.getD_cons_succ, List.set_cons_zero, List.set_cons_succ, List.length_cons, List.length_nil, Nat.reduceAdd, Nat.reduceLT, Nat.reduceEqDiff, Nat.lt_add_one, decide_true, decide_false, Bool.and_true, Bool.true_and, Bool.and_false, Bool.false_and, Bool.false_eq_true, if_true, if_false, ↓reduceIte, Option.bind_some, Option.bind_none, kont_v, kont_n, ce, one0, b1, m1, m2, l07, sh, i2b, lp]
end STR2
section RAT
variable {X : MX} {B : MH} {vl : Int64} {sg lt : Nat → Int32} {x : LVS} {n i d : Nat} {q : Nat → Nat}
theorem ra_sp (hn : n ≤ 50) (hq : ∀ i, i < n → sg i = nI (q i) ∧ q i < 128) (hi : i < n) {w : Int32} (hw : w = 0 ∨ w = 1) (c : q i = 32) : (ev X 27 0 [.ref 23, .int (nI i), .float 0] [] (FMH B (nI n) (nI d) (-1) w vl sg lt x)) = some (some (.int (nI (i + 1))), (FMH B (nI n) (nI d) (-1) w vl sg lt x)) := by
  have sa := c_signAt (X := X) (B := B) (ft := -1) (wt := w) (vl := vl) (lt := lt) (x := x) (dp := nI d) hn (show i < 1000 by omega) (fun i hi => (hq i hi).1)
  have se : sgn n q i = 32 := by unfold sgn; rw [if_pos hi, c]
  rw [se] at sa
  have di := c_isDigit (X := X) (h := FMH B (nI n) (nI d) (-1) w vl sg lt x) (show 32 < 1000 by omega)
  rw [if_neg (by decide)] at di
  have p1 : nI i + 1 = nI (i + 1) := nI_add i 1
  have one0 : ¬ (1 : Int32) = 0 := by decide
  have e32 : (nI 32 = (32 : Int32)) = True := eq_true rfl
  rcases hw with rfl | rfl
  · simp only [s27_0, s27_1, s27_2, s27_5, s27_6, s27_7, s27_10, s27_13, s27_14, s27_17, s27_20, s27_21, s27_22, s27_25, s27_26, s27_27, s27_29, s27_32, s27_33, s27_36, s27_39, s27_40, s27_41, s27_42, s27_45, s27_48, s27_51, s27_52, s27_53, s27_56, s27_59, s27_60, s27_61, s27_62, s27_65, s27_66, s27_67, s27_68, okF, okA, mcC_o, mcF_o, mcT_i, mcT_l, mcT_z, mcT_q, mcN_i, mcN_l, mcN_z, mcN_q, mcI_i, mcI_z, mcL_l, mcQ_q, hg_hp, hp_hp, List.getD_cons_zero, List.getD_cons_succ, List.set_cons_zero, List.set_cons_succ, List.length_cons, List.length_nil, Nat.reduceAdd, Nat.reduceLT, Nat.reduceEqDiff, Nat.lt_add_one, decide_true, decide_false, Bool.and_true, Bool.true_and, Bool.and_false, Bool.false_and, Bool.false_eq_true, if_true, if_false, ↓reduceIte, Option.bind_some, Option.bind_none, kont_v, kont_n, FM_23, FM_24, FM_25, FM_26, FM_27, FM_28, FM_29, FM_30, FMp_23, FMp_24, FMp_25, FMp_26, FMp_27, FMp_28, FMp_29, FMp_30, FOO_len, FOO_0, FOO_1, FOO_2, FOO_3, FOO_4, FOO_5, FOO_6, FOO_7, FOO_8, FOO_9, FOO_10, FOO_11, FOO_12, FOOs_8, FOOs_9, FOOs_10, FOOs_11, FOOs_12, true_or, or_true, sa, di, p1, e32]
  · simp only [s27_0, s27_1, s27_2, s27_5, s27_6, s27_7, s27_10, s27_13, s27_14, s27_17, s27_20, s27_21, s27_22, s27_25, s27_26, s27_27, s27_29, s27_32, s27_33, s27_36, s27_39, s27_40, s27_41, s27_42, s27_45, s27_48, s27_51, s27_52, s27_53, s27_56, s27_59, s27_60, s27_61, s27_62, s27_65, s27_66, s27_67, s27_68, okF, okA, mcC_o, mcF_o, mcT_i, mcT_l, mcT_z, mcT_q, mcN_i, mcN_l, mcN_z, mcN_q, mcI_i, mcI_z, mcL_l, mcQ_q, hg_hp, hp_hp, List.getD_cons_zero, List.getD_cons_succ, List.set_cons_zero, List.set_cons_succ, List.length_cons, List.length_nil, Nat.reduceAdd, Nat.reduceLT, Nat.reduceEqDiff, Nat.lt_add_one, decide_true, decide_false, Bool.and_true, Bool.true_and, Bool.and_false, Bool.false_and, Bool.false_eq_true, if_true, if_false, ↓reduceIte, Option.bind_some, Option.bind_none, kont_v, kont_n, FM_23, FM_24, FM_25, FM_26, FM_27, FM_28, FM_29, FM_30, FMp_23, FMp_24, FMp_25, FMp_26, FMp_27, FMp_28, FMp_29, FMp_30, FOO_len, FOO_0, FOO_1, FOO_2, FOO_3, FOO_4, FOO_5, FOO_6, FOO_7, FOO_8, FOO_9, FOO_10, FOO_11, FOO_12, FOOs_8, FOOs_9, FOOs_10, FOOs_11, FOOs_12, true_or, or_true, sa, di, p1, e32, one0]
theorem ra_dig (hn : n ≤ 50) (hq : ∀ i, i < n → sg i = nI (q i) ∧ q i < 128) (hi : i < n) (hd : d < 9) (c : dgb (q i) = true) : (ev X 27 0 [.ref 23, .int (nI i), .float 0] [] (FMH B (nI n) (nI d) (-1) 1 vl sg lt x)) = some (some (.int (nI (i + dct n q 6 i))), (FMH B (nI n) (nI d) (if dgb (sgn n q (i + dct n q 6 i)) = true then 10 * nI i + 2 else -1) 0 vl sg lt (cuU x d (dvl n q 6 i 0).toInt64))) := by
  have sa := c_signAt (X := X) (B := B) (ft := -1) (wt := 1) (vl := vl) (lt := lt) (x := x) (dp := nI d) hn (show i < 1000 by omega) (fun i hi => (hq i hi).1)
  have se : sgn n q i = q i := by unfold sgn; rw [if_pos hi]
  rw [se] at sa
  have di := c_isDigit (X := X) (h := FMH B (nI n) (nI d) (-1) 1 vl sg lt x) (show q i < 1000 by have := (hq i hi).2; omega)
  rw [if_pos c] at di
  have rd := c_readDigits (X := X) (B := B) (ft := -1) (wt := 1) (vl := vl) (lt := lt) (x := x) hn hq (show i < 100 by omega) hd
  have one0 : ¬ (1 : Int32) = 0 := by decide
  simp only [s27_0, s27_1, s27_2, s27_5, s27_6, s27_7, s27_10, s27_13, s27_14, s27_17, s27_20, s27_21, s27_22, s27_25, s27_26, s27_27, s27_29, s27_32, s27_33, s27_36, s27_39, s27_40, s27_41, s27_42, s27_45, s27_48, s27_51, s27_52, s27_53, s27_56, s27_59, s27_60, s27_61, s27_62, s27_65, s27_66, s27_67, s27_68, okF, okA, mcC_o, mcF_o, mcT_i, mcT_l, mcT_z, mcT_q, mcN_i, mcN_l, mcN_z, mcN_q, mcI_i, mcI_z, mcL_l, mcQ_q, hg_hp, hp_hp, List.getD_cons_zero, List.getD_cons_succ, List.set_cons_zero, List.set_cons_succ, List.length_cons, List.length_nil, Nat.reduceAdd, Nat.reduceLT, Nat.reduceEqDiff, Nat.lt_add_one, decide_true, decide_false, Bool.and_true, Bool.true_and, Bool.and_false, Bool.false_and, Bool.false_eq_true, if_true, if_false, ↓reduceIte, Option.bind_some, Option.bind_none, kont_v, kont_n, FM_23, FM_24, FM_25, FM_26, FM_27, FM_28, FM_29, FM_30, FMp_23, FMp_24, FMp_25, FMp_26, FMp_27, FMp_28, FMp_29, FMp_30, FOO_len, FOO_0, FOO_1, FOO_2, FOO_3, FOO_4, FOO_5, FOO_6, FOO_7, FOO_8, FOO_9, FOO_10, FOO_11, FOO_12, FOOs_8, FOOs_9, FOOs_10, FOOs_11, FOOs_12, true_or, or_true, sa, di, one0, rd]
/-- what is no digit: by readUnit -/
theorem ra_unit (hn : n ≤ 50) (hq : ∀ i, i < n → sg i = nI (q i) ∧ q i < 128) (hi : i < n) (c : ¬ dgb (q i) = true) (c2 : ¬ q i = 32) {v : Int32} {H : MH} (hv : v = 1 ∨ (v = 0 ∧ H = FMH B (nI n) (nI d) (-1) 1 vl sg lt x)) (ru : (ev X 33 0 [.ref 23, .int (nI (q i)), .int (nI i), .float 0] [] (FMH B (nI n) (nI d) (-1) 1 vl sg lt x)) = some (some (.int (v)), (H))) : (ev X 27 0 [.ref 23, .int (nI i), .float 0] [] (FMH B (nI n) (nI d) (-1) 1 vl sg lt x)) = some (some (.int (nI (i + 1))), (if v = 0 then FMH B (nI n) (nI d) (10 * nI i + 1) 1 vl sg lt x else H)) := by
  have q128 := (hq i hi).2
  have sa := c_signAt (X := X) (B := B) (ft := -1) (wt := 1) (vl := vl) (lt := lt) (x := x) (dp := nI d) hn (show i < 1000 by omega) (fun i hi => (hq i hi).1)
  have se : sgn n q i = q i := by unfold sgn; rw [if_pos hi]
  rw [se] at sa
  have di := c_isDigit (X := X) (h := FMH B (nI n) (nI d) (-1) 1 vl sg lt x) (show q i < 1000 by omega)
  rw [if_neg c] at di
  have p1 : nI i + 1 = nI (i + 1) := nI_add i 1
  have one0 : ¬ (1 : Int32) = 0 := by decide
  have e32 : (nI (q i) = (32 : Int32)) = False := eq_false (fun z => c2 ((nI_eq (b := 32) (by omega) (by omega)).mp z))
  rcases hv with rfl | ⟨rfl, rfl⟩
  · rw [if_neg one0]
    simp only [s27_0, s27_1, s27_2, s27_5, s27_6, s27_7, s27_10, s27_13, s27_14, s27_17, s27_20, s27_21, s27_22, s27_25, s27_26, s27_27, s27_29, s27_32, s27_33, s27_36, s27_39, s27_40, s27_41, s27_42, s27_45, s27_48, s27_51, s27_52, s27_53, s27_56, s27_59, s27_60, s27_61, s27_62, s27_65, s27_66, s27_67, s27_68, okF, okA, mcC_o, mcF_o, mcT_i, mcT_l, mcT_z, mcT_q, mcN_i, mcN_l, mcN_z, mcN_q, mcI_i, mcI_z, mcL_l, mcQ_q, hg_hp, hp_hp, List.getD_cons_zero, List.getD_cons_succ, List.set_cons_zero, List.set_cons_succ, List.length_cons, List.length_nil, Nat.reduceAdd, Nat.reduceLT, Nat.reduceEqDiff, Nat.lt_add_one, decide_true, decide_false, Bool.and_true, Bool.true_and, Bool.and_false, Bool.false_and, Bool.false_eq_true, if_true, if_false, ↓reduceIte, Option.bind_some, Option.bind_none, kont_v, kont_n, FM_23, FM_24, FM_25, FM_26, FM_27, FM_28, FM_29, FM_30, FMp_23, FMp_24, FMp_25, FMp_26, FMp_27, FMp_28, FMp_29, FMp_30, FOO_len, FOO_0, FOO_1, FOO_2, FOO_3, FOO_4, FOO_5, FOO_6, FOO_7, FOO_8, FOO_9, FOO_10, FOO_11, FOO_12, FOOs_8, FOOs_9, FOOs_10, FOOs_11, FOOs_12, true_or, or_true, sa, di, p1, e32, one0, ru]
  · rw [if_pos rfl]
    simp only [s27_0, s27_1, s27_2, s27_5, s27_6, s27_7, s27_10, s27_13, s27_14, s27_17, s27_20, s27_21, s27_22, s27_25, s27_26, s27_27, s27_29, s27_32, s27_33, s27_36, s27_39, s27_40, s27_41, s27_42, s27_45, s27_48, s27_51, s27_52, s27_53, s27_56, s27_59, s27_60, s27_61, s27_62, s27_65, s27_66, s27_67, s27_68, okF, okA, mcC_o, mcF_o, mcT_i, mcT_l, mcT_z, mcT_q, mcN_i, mcN_l, mcN_z, mcN_q, mcI_i, mcI_z, mcL_l, mcQ_q, hg_hp, hp_hp, List.getD_cons_zero, List.getD_cons_succ, List.set_cons_zero, List.set_cons_succ, List.length_cons, List.length_nil, Nat.reduceAdd, Nat.reduceLT, Nat.reduceEqDiff, Nat.lt_add_one, decide_true, decide_false, Bool.and_true, Bool.true_and, Bool.and_false, Bool.false_and, Bool.false_eq_true, if_true, if_false, ↓reduceIte, Option.bind_some, Option.bind_none, kont_v, kont_n, FM_23, FM_24, FM_25, FM_26, FM_27, FM_28, FM_29, FM_30, FMp_23, FMp_24, FMp_25, FMp_26, FMp_27, FMp_28, FMp_29, FMp_30, FOO_len, FOO_0, FOO_1, FOO_2, FOO_3, FOO_4, FOO_5, FOO_6, FOO_7, FOO_8, FOO_9, FOO_10, FOO_11, FOO_12, FOOs_8, FOOs_9, FOOs_10, FOOs_11, FOOs_12, true_or, or_true, sa, di, p1, e32, one0, ru, c_tellFault]
theorem ra_joint (hn : n ≤ 50) (hq : ∀ i, i < n → sg i = nI (q i) ∧ q i < 128) (hi : i < n) (c2 : ¬ q i = 32) {v : Int32} {H : MH} (hv : v = 1 ∨ (v = 0 ∧ H = FMH B (nI n) (nI d) (-1) 0 vl sg lt x)) (ru : (ev X 34 0 [.ref 23, .int (nI (q i)), .float 0, .float 0] [] (FMH B (nI n) (nI d) (-1) 0 vl sg lt x)) = some (some (.int (v)), (H))) : (ev X 27 0 [.ref 23, .int (nI i), .float 0] [] (FMH B (nI n) (nI d) (-1) 0 vl sg lt x)) = some (some (.int (nI (i + 1))), (if v = 0 then FMH B (nI n) (nI d) (10 * nI i + 1) 0 vl sg lt x else H)) := by
  have q128 := (hq i hi).2
  have sa := c_signAt (X := X) (B := B) (ft := -1) (wt := 0) (vl := vl) (lt := lt) (x := x) (dp := nI d) hn (show i < 1000 by omega) (fun i hi => (hq i hi).1)
  have se : sgn n q i = q i := by unfold sgn; rw [if_pos hi]
  rw [se] at sa
  have p1 : nI i + 1 = nI (i + 1) := nI_add i 1
  have one0 : ¬ (1 : Int32) = 0 := by decide
  have e32 : (nI (q i) = (32 : Int32)) = False := eq_false (fun z => c2 ((nI_eq (b := 32) (by omega) (by omega)).mp z))
  rcases hv with rfl | ⟨rfl, rfl⟩
  · rw [if_neg one0]
    simp only [s27_0, s27_1, s27_2, s27_5, s27_6, s27_7, s27_10, s27_13, s27_14, s27_17, s27_20, s27_21, s27_22, s27_25, s27_26, s27_27, s27_29, s27_32, s27_33, s27_36, s27_39, s27_40, s27_41, s27_42, s27_45, s27_48, s27_51, s27_52, s27_53, s27_56, s27_59, s27_60, s27_61, s27_62, s27_65, s27_66, s27_67, s27_68, okF, okA, mcC_o, mcF_o, mcT_i, mcT_l, mcT_z, mcT_q, mcN_i, mcN_l, mcN_z, mcN_q, mcI_i, mcI_z, mcL_l, mcQ_q, hg_hp, hp_hp, List.getD_cons_zero, List.getD_cons_succ, List.set_cons_zero, List.set_cons_succ, List.length_cons, List.length_nil, Nat.reduceAdd, Nat.reduceLT, Nat.reduceEqDiff, Nat.lt_add_one, decide_true, decide_false, Bool.and_true, Bool.true_and, Bool.and_false, Bool.false_and, Bool.false_eq_true, if_true, if_false, ↓reduceIte, Option.bind_some, Option.bind_none, kont_v, kont_n, FM_23, FM_24, FM_25, FM_26, FM_27, FM_28, FM_29, FM_30, FMp_23, FMp_24, FMp_25, FMp_26, FMp_27, FMp_28, FMp_29, FMp_30, FOO_len, FOO_0, FOO_1, FOO_2, FOO_3, FOO_4, FOO_5, FOO_6, FOO_7, FOO_8, FOO_9, FOO_10, FOO_11, FOO_12, FOOs_8, FOOs_9, FOOs_10, FOOs_11, FOOs_12, true_or, or_true, sa, p1, e32, one0, ru]
  · rw [if_pos rfl]
    simp only [s27_0, s27_1, s27_2, s27_5, s27_6, s27_7, s27_10, s27_13, s27_14, s27_17, s27_20, s27_21, s27_22, s27_25, s27_26, s27_27, s27_29, s27_32, s27_33, s27_36, s27_39, s27_40, s27_41, s27_42, s27_45, s27_48, s27_51, s27_52, s27_53, s27_56, s27_59, s27_60, s27_61, s27_62, s27_65, s27_66, s27_67, s27_68, okF, okA, mcC_o, mcF_o, mcT_i, mcT_l, mcT_z, mcT_q, mcN_i, mcN_l, mcN_z, mcN_q, mcI_i, mcI_z, mcL_l, mcQ_q, hg_hp, hp_hp, List.getD_cons_zero, List.getD_cons_succ, List.set_cons_zero, List.set_cons_succ, List.length_cons, List.length_nil, Nat.reduceAdd, Nat.reduceLT, Nat.reduceEqDiff, Nat.lt_add_one, decide_true, decide_false, Bool.and_true, Bool.true_and, Bool.and_false, Bool.false_and, Bool.false_eq_true, if_true, if_false, ↓reduceIte, Option.bind_some, Option.bind_none, kont_v, kont_n, FM_23, FM_24, FM_25, FM_26, FM_27, FM_28, FM_29, FM_30, FMp_23, FMp_24, FMp_25, FMp_26, FMp_27, FMp_28, FMp_29, FMp_30, FOO_len, FOO_0, FOO_1, FOO_2, FOO_3, FOO_4, FOO_5, FOO_6, FOO_7, FOO_8, FOO_9, FOO_10, FOO_11, FOO_12, FOOs_8, FOOs_9, FOOs_10, FOOs_11, FOOs_12, true_or, or_true, sa, p1, e32, one0, ru, c_tellFault]
/-- a minus ahead of a unit -/
def ngL (x : LVS) (d : Nat) : LVS := (x.1, x.2.1, x.2.2.1, upd x.2.2.2.1 d (if x.2.2.2.1 d = 0 then 1 else 0), x.2.2.2.2)
theorem ru_neg (hd : d < 9) {ft : Int32} {a : Int32} : (ev X 33 0 [.ref 23, .int 45, .int a, .float 0] [] (FMH B (nI n) (nI d) ft 1 vl sg lt x)) = some (some (.int (1)), (FMH B (nI n) (nI d) ft 1 vl sg lt (ngL x d))) := by
  obtain ⟨s, p, b, g, j⟩ := x
  have r1 : inR (nI d) 9 = true := inR_n hd (by decide)
  have c1 : (nI d).toNatClampNeg = d := nI_clamp (by omega)
  have e45 : ((45 : Int32) = 45) = True := eq_true rfl
  have b1 : ((1 : Int32) &&& 1 = 1) = True := eq_true (by decide)
  unfold ngL
  dsimp only
  by_cases g0 : g d = 0
  · have g0' := eq_true g0
    rw [if_pos g0]
    simp only [s33_0, s33_1, s33_3, s33_6, s33_7, s33_10, s33_11, s33_14, s33_15, s33_18, s33_19, s33_22, s33_23, s33_26, s33_27, s33_30, s33_31, s33_32, s33_33, s33_34, s33_35, s33_37, s33_40, s33_41, s33_44, s33_46, s33_49, s33_50, s33_51, s33_52, s33_55, s33_58, s33_59, s33_60, s33_63, s33_64, s33_65, s33_68, s33_69, s33_72, s33_73, s33_74, s33_76, s33_77, s33_78, s33_81, s33_82, s33_83, s33_84, s33_85, s33_88, s33_89, s33_90, s33_91, s33_94, s33_97, s33_98, s33_99, s33_100, s33_101, s33_104, s33_105, s33_106, s33_107, s33_110, s33_111, okF, okA, mcC_o, mcF_o, mcT_i, mcT_l, mcT_z, mcT_q, mcN_i, mcN_l, mcN_z, mcN_q, mcI_i, mcI_z, mcL_l, mcQ_q, hg_hp, hp_hp, List.getD_cons_zero, List.getD_cons_succ, List.set_cons_zero, List.set_cons_succ, List.length_cons, List.length_nil, Nat.reduceAdd, Nat.reduceLT, Nat.reduceEqDiff, Nat.lt_add_one, decide_true, decide_false, Bool.and_true, Bool.true_and, Bool.and_false, Bool.false_and, Bool.false_eq_true, if_true, if_false, ↓reduceIte, Option.bind_some, Option.bind_none, kont_v, kont_n, FM_23, FM_24, FM_25, FM_26, FM_27, FM_28, FM_29, FM_30, FMp_23, FMp_24, FMp_25, FMp_26, FMp_27, FMp_28, FMp_29, FMp_30, FOO_len, FOO_0, FOO_1, FOO_2, FOO_3, FOO_4, FOO_5, FOO_6, FOO_7, FOO_8, FOO_9, FOO_10, FOO_11, FOO_12, FOOs_8, FOOs_9, FOOs_10, FOOs_11, FOOs_12, true_or, or_true, e45, r1, c1, g0', vnar1, b1]
  · have g0' := eq_false g0
    rw [if_neg g0]
    simp only [s33_0, s33_1, s33_3, s33_6, s33_7, s33_10, s33_11, s33_14, s33_15, s33_18, s33_19, s33_22, s33_23, s33_26, s33_27, s33_30, s33_31, s33_32, s33_33, s33_34, s33_35, s33_37, s33_40, s33_41, s33_44, s33_46, s33_49, s33_50, s33_51, s33_52, s33_55, s33_58, s33_59, s33_60, s33_63, s33_64, s33_65, s33_68, s33_69, s33_72, s33_73, s33_74, s33_76, s33_77, s33_78, s33_81, s33_82, s33_83, s33_84, s33_85, s33_88, s33_89, s33_90, s33_91, s33_94, s33_97, s33_98, s33_99, s33_100, s33_101, s33_104, s33_105, s33_106, s33_107, s33_110, s33_111, okF, okA, mcC_o, mcF_o, mcT_i, mcT_l, mcT_z, mcT_q, mcN_i, mcN_l, mcN_z, mcN_q, mcI_i, mcI_z, mcL_l, mcQ_q, hg_hp, hp_hp, List.getD_cons_zero, List.getD_cons_succ, List.set_cons_zero, List.set_cons_succ, List.length_cons, List.length_nil, Nat.reduceAdd, Nat.reduceLT, Nat.reduceEqDiff, Nat.lt_add_one, decide_true, decide_false, Bool.and_true, Bool.true_and, Bool.and_false, Bool.false_and, Bool.false_eq_true, if_true, if_false, ↓reduceIte, Option.bind_some, Option.bind_none, kont_v, kont_n, FM_23, FM_24, FM_25, FM_26, FM_27, FM_28, FM_29, FM_30, FMp_23, FMp_24, FMp_25, FMp_26, FMp_27, FMp_28, FMp_29, FMp_30, FOO_len, FOO_0, FOO_1, FOO_2, FOO_3, FOO_4, FOO_5, FOO_6, FOO_7, FOO_8, FOO_9, FOO_10, FOO_11, FOO_12, FOOs_8, FOOs_9, FOOs_10, FOOs_11, FOOs_12, true_or, or_true, e45, r1, c1, g0', vnar0, b1]
theorem ru_open (hd : d < 8) {ft : Int32} {a : Int32} : (ev X 33 0 [.ref 23, .int 40, .int a, .float 0] [] (FMH B (nI n) (nI d) ft 1 vl sg lt x)) = some (some (.int (1)), (FMH B (nI n) (nI (d + 1)) ft 1 vl sg lt (olL x (d + 1)))) := by
  have e45 : ((40 : Int32) = 45) = False := eq_false (by decide)
  have e40 : ((40 : Int32) = 40) = True := eq_true rfl
  have b1 : ((1 : Int32) &&& 1 = 1) = True := eq_true (by decide)
  have l : nI d < (8 : Int32) := nI_lt (b := 8) hd (by decide)
  have p1 : nI d + 1 = nI (d + 1) := nI_add d 1
  have ol := c_openLevel (X := X) (B := B) (len := nI n) (ft := ft) (wt := 1) (vl := vl) (sg := sg) (lt := lt) (x := x) (d := d + 1) (by omega)
  simp only [s33_0, s33_1, s33_3, s33_6, s33_7, s33_10, s33_11, s33_14, s33_15, s33_18, s33_19, s33_22, s33_23, s33_26, s33_27, s33_30, s33_31, s33_32, s33_33, s33_34, s33_35, s33_37, s33_40, s33_41, s33_44, s33_46, s33_49, s33_50, s33_51, s33_52, s33_55, s33_58, s33_59, s33_60, s33_63, s33_64, s33_65, s33_68, s33_69, s33_72, s33_73, s33_74, s33_76, s33_77, s33_78, s33_81, s33_82, s33_83, s33_84, s33_85, s33_88, s33_89, s33_90, s33_91, s33_94, s33_97, s33_98, s33_99, s33_100, s33_101, s33_104, s33_105, s33_106, s33_107, s33_110, s33_111, okF, okA, mcC_o, mcF_o, mcT_i, mcT_l, mcT_z, mcT_q, mcN_i, mcN_l, mcN_z, mcN_q, mcI_i, mcI_z, mcL_l, mcQ_q, hg_hp, hp_hp, List.getD_cons_zero, List.getD_cons_succ, List.set_cons_zero, List.set_cons_succ, List.length_cons, List.length_nil, Nat.reduceAdd, Nat.reduceLT, Nat.reduceEqDiff, Nat.lt_add_one, decide_true, decide_false, Bool.and_true, Bool.true_and, Bool.and_false, Bool.false_and, Bool.false_eq_true, if_true, if_false, ↓reduceIte, Option.bind_some, Option.bind_none, kont_v, kont_n, FM_23, FM_24, FM_25, FM_26, FM_27, FM_28, FM_29, FM_30, FMp_23, FMp_24, FMp_25, FMp_26, FMp_27, FMp_28, FMp_29, FMp_30, FOO_len, FOO_0, FOO_1, FOO_2, FOO_3, FOO_4, FOO_5, FOO_6, FOO_7, FOO_8, FOO_9, FOO_10, FOO_11, FOO_12, FOOs_8, FOOs_9, FOOs_10, FOOs_11, FOOs_12, true_or, or_true, e45, e40, l, p1, ol, b1]
theorem ru_deep {ft : Int32} : (ev X 33 0 [.ref 23, .int 40, .int (nI i), .float 0] [] (FMH B (nI n) (nI 8) ft 1 vl sg lt x)) = some (some (.int (1)), (FMH B (nI n) (nI 8) (10 * nI i + 3) 1 vl sg lt x)) := by
  have e45 : ((40 : Int32) = 45) = False := eq_false (by decide)
  have e40 : ((40 : Int32) = 40) = True := eq_true rfl
  have b1 : ((1 : Int32) &&& 1 = 1) = True := eq_true (by decide)
  have l : ¬ nI 8 < (8 : Int32) := by decide
  simp only [s33_0, s33_1, s33_3, s33_6, s33_7, s33_10, s33_11, s33_14, s33_15, s33_18, s33_19, s33_22, s33_23, s33_26, s33_27, s33_30, s33_31, s33_32, s33_33, s33_34, s33_35, s33_37, s33_40, s33_41, s33_44, s33_46, s33_49, s33_50, s33_51, s33_52, s33_55, s33_58, s33_59, s33_60, s33_63, s33_64, s33_65, s33_68, s33_69, s33_72, s33_73, s33_74, s33_76, s33_77, s33_78, s33_81, s33_82, s33_83, s33_84, s33_85, s33_88, s33_89, s33_90, s33_91, s33_94, s33_97, s33_98, s33_99, s33_100, s33_101, s33_104, s33_105, s33_106, s33_107, s33_110, s33_111, okF, okA, mcC_o, mcF_o, mcT_i, mcT_l, mcT_z, mcT_q, mcN_i, mcN_l, mcN_z, mcN_q, mcI_i, mcI_z, mcL_l, mcQ_q, hg_hp, hp_hp, List.getD_cons_zero, List.getD_cons_succ, List.set_cons_zero, List.set_cons_succ, List.length_cons, List.length_nil, Nat.reduceAdd, Nat.reduceLT, Nat.reduceEqDiff, Nat.lt_add_one, decide_true, decide_false, Bool.and_true, Bool.true_and, Bool.and_false, Bool.false_and, Bool.false_eq_true, if_true, if_false, ↓reduceIte, Option.bind_some, Option.bind_none, kont_v, kont_n, FM_23, FM_24, FM_25, FM_26, FM_27, FM_28, FM_29, FM_30, FMp_23, FMp_24, FMp_25, FMp_26, FMp_27, FMp_28, FMp_29, FMp_30, FOO_len, FOO_0, FOO_1, FOO_2, FOO_3, FOO_4, FOO_5, FOO_6, FOO_7, FOO_8, FOO_9, FOO_10, FOO_11, FOO_12, FOOs_8, FOOs_9, FOOs_10, FOOs_11, FOOs_12, true_or, or_true, e45, e40, l, c_tellFault, b1]
theorem ru_let (hd : d < 9) {ft a : Int32} {c : Nat} (hc : c < 128) (h1 : ¬ c = 45) (h2 : ¬ c = 40) (h3 : ltr c < 7) : (ev X 33 0 [.ref 23, .int (nI c), .int a, .float 0] [] (FMH B (nI n) (nI d) ft 1 vl sg lt x)) = some (some (.int (1)), (FMH B (nI n) (nI d) ft 0 vl sg lt (cuU x d (lt (ltr c)).toInt64))) := by
  have e45 : (nI c = (45 : Int32)) = False := eq_false (fun z => h1 ((nI_eq (b := 45) (by omega) (by omega)).mp z))
  have e40 : (nI c = (40 : Int32)) = False := eq_false (fun z => h2 ((nI_eq (b := 40) (by omega) (by omega)).mp z))
  have b1 : ((1 : Int32) &&& 1 = 1) = True := eq_true (by decide)
  have ic := i2c_ok c hc
  have io := c_indexOf (X := X) (h := FMH B (nI n) (nI d) ft 1 vl sg lt x) hc
  rw [if_pos h3] at io
  have al : Int32.ofNat 7 - 1 = (6 : Int32) := by decide
  have w : wi (nI (ltr c)) 0 6 = 1 := by
    have := wi_nn (a := ltr c) (b := 0) (c := 6) (by omega) (by omega) (by omega)
    rw [if_pos (by omega)] at this
    exact this
  have one0 : ¬ (1 : Int32) = 0 := by decide
  have r1 : inR (nI (ltr c)) 7 = true := inR_n h3 (by decide)
  have c1 : (nI (ltr c)).toNatClampNeg = ltr c := nI_clamp (by omega)
  have cu := c_closeUnit (X := X) (B := B) (len := nI n) (ft := ft) (wt := 1) (vl := vl) (sg := sg) (lt := lt) (x := x) hd (v := (lt (ltr c)).toInt64)
  simp only [s33_0, s33_1, s33_3, s33_6, s33_7, s33_10, s33_11, s33_14, s33_15, s33_18, s33_19, s33_22, s33_23, s33_26, s33_27, s33_30, s33_31, s33_32, s33_33, s33_34, s33_35, s33_37, s33_40, s33_41, s33_44, s33_46, s33_49, s33_50, s33_51, s33_52, s33_55, s33_58, s33_59, s33_60, s33_63, s33_64, s33_65, s33_68, s33_69, s33_72, s33_73, s33_74, s33_76, s33_77, s33_78, s33_81, s33_82, s33_83, s33_84, s33_85, s33_88, s33_89, s33_90, s33_91, s33_94, s33_97, s33_98, s33_99, s33_100, s33_101, s33_104, s33_105, s33_106, s33_107, s33_110, s33_111, okF, okA, mcC_o, mcF_o, mcT_i, mcT_l, mcT_z, mcT_q, mcN_i, mcN_l, mcN_z, mcN_q, mcI_i, mcI_z, mcL_l, mcQ_q, hg_hp, hp_hp, List.getD_cons_zero, List.getD_cons_succ, List.set_cons_zero, List.set_cons_succ, List.length_cons, List.length_nil, Nat.reduceAdd, Nat.reduceLT, Nat.reduceEqDiff, Nat.lt_add_one, decide_true, decide_false, Bool.and_true, Bool.true_and, Bool.and_false, Bool.false_and, Bool.false_eq_true, if_true, if_false, ↓reduceIte, Option.bind_some, Option.bind_none, kont_v, kont_n, FM_23, FM_24, FM_25, FM_26, FM_27, FM_28, FM_29, FM_30, FMp_23, FMp_24, FMp_25, FMp_26, FMp_27, FMp_28, FMp_29, FMp_30, FOO_len, FOO_0, FOO_1, FOO_2, FOO_3, FOO_4, FOO_5, FOO_6, FOO_7, FOO_8, FOO_9, FOO_10, FOO_11, FOO_12, FOOs_8, FOOs_9, FOOs_10, FOOs_11, FOOs_12, true_or, or_true, Nat.zero_le, e45, e40, ic, io, al, c_within, w, one0, r1, c1, cu, b1]
theorem ru_bad {dp ft a : Int32} {c : Nat} (hc : c < 128) (h1 : ¬ c = 45) (h2 : ¬ c = 40) (h3 : ¬ ltr c < 7) : (ev X 33 0 [.ref 23, .int (nI c), .int a, .float 0] [] (FMH B (nI n) dp ft 1 vl sg lt x)) = some (some (.int (0)), (FMH B (nI n) dp ft 1 vl sg lt x)) := by
  have e45 : (nI c = (45 : Int32)) = False := eq_false (fun z => h1 ((nI_eq (b := 45) (by omega) (by omega)).mp z))
  have e40 : (nI c = (40 : Int32)) = False := eq_false (fun z => h2 ((nI_eq (b := 40) (by omega) (by omega)).mp z))
  have b0 : ((0 : Int32) &&& 1 = 0) = True := eq_true (by decide)
  have ic := i2c_ok c hc
  have io := c_indexOf (X := X) (h := FMH B (nI n) dp ft 1 vl sg lt x) hc
  rw [if_neg h3] at io
  have al : Int32.ofNat 7 - 1 = (6 : Int32) := by decide
  have w : wi (-1) 0 6 = 0 := by decide
  simp only [s33_0, s33_1, s33_3, s33_6, s33_7, s33_10, s33_11, s33_14, s33_15, s33_18, s33_19, s33_22, s33_23, s33_26, s33_27, s33_30, s33_31, s33_32, s33_33, s33_34, s33_35, s33_37, s33_40, s33_41, s33_44, s33_46, s33_49, s33_50, s33_51, s33_52, s33_55, s33_58, s33_59, s33_60, s33_63, s33_64, s33_65, s33_68, s33_69, s33_72, s33_73, s33_74, s33_76, s33_77, s33_78, s33_81, s33_82, s33_83, s33_84, s33_85, s33_88, s33_89, s33_90, s33_91, s33_94, s33_97, s33_98, s33_99, s33_100, s33_101, s33_104, s33_105, s33_106, s33_107, s33_110, s33_111, okF, okA, mcC_o, mcF_o, mcT_i, mcT_l, mcT_z, mcT_q, mcN_i, mcN_l, mcN_z, mcN_q, mcI_i, mcI_z, mcL_l, mcQ_q, hg_hp, hp_hp, List.getD_cons_zero, List.getD_cons_succ, List.set_cons_zero, List.set_cons_succ, List.length_cons, List.length_nil, Nat.reduceAdd, Nat.reduceLT, Nat.reduceEqDiff, Nat.lt_add_one, decide_true, decide_false, Bool.and_true, Bool.true_and, Bool.and_false, Bool.false_and, Bool.false_eq_true, if_true, if_false, ↓reduceIte, Option.bind_some, Option.bind_none, kont_v, kont_n, FM_23, FM_24, FM_25, FM_26, FM_27, FM_28, FM_29, FM_30, FMp_23, FMp_24, FMp_25, FMp_26, FMp_27, FMp_28, FMp_29, FMp_30, FOO_len, FOO_0, FOO_1, FOO_2, FOO_3, FOO_4, FOO_5, FOO_6, FOO_7, FOO_8, FOO_9, FOO_10, FOO_11, FOO_12, FOOs_8, FOOs_9, FOOs_10, FOOs_11, FOOs_12, true_or, or_true, Nat.zero_le, e45, e40, ic, io, al, c_within, w, b0]
theorem rj_close (hd : d + 1 < 9) {ft : Int32} : (ev X 34 0 [.ref 23, .int 41, .float 0, .float 0] [] (FMH B (nI n) (nI (d + 1)) ft 0 vl sg lt x)) = some (some (.int (1)), (FMH B (nI n) (nI d) ft 0 vl sg lt (cuU (ctT x (d + 1)) d ((ctT x (d + 1)).1 (d + 1))))) := by
  have e41 : ((41 : Int32) = 41) = True := eq_true rfl
  have b1 : ((1 : Int32) &&& 1 = 1) = True := eq_true (by decide)
  have l : (0 : Int32) < nI (d + 1) := nI_lt (a := 0) (by omega) (by omega)
  have p1 : nI (d + 1) - 1 = nI d := nI_pred d
  have ct := c_closeTerm (X := X) (B := B) (len := nI n) (ft := ft) (wt := 0) (vl := vl) (sg := sg) (lt := lt) (x := x) (d := d + 1) hd
  have cu := c_closeUnit (X := X) (B := B) (len := nI n) (ft := ft) (wt := 0) (vl := vl) (sg := sg) (lt := lt) (x := ctT x (d + 1)) (d := d) (by omega) (v := (ctT x (d + 1)).1 (d + 1))
  have r1 : inR (nI (d + 1)) 9 = true := inR_n hd (by decide)
  have c1 : (nI (d + 1)).toNatClampNeg = d + 1 := nI_clamp (by omega)
  generalize ctT x (d + 1) = y at ct cu ⊢
  obtain ⟨s, p, b, g, j⟩ := y
  dsimp only at cu ⊢
  simp only [s34_0, s34_1, s34_3, s34_6, s34_7, s34_10, s34_13, s34_14, s34_17, s34_18, s34_21, s34_22, s34_25, s34_26, s34_27, s34_28, s34_29, s34_32, s34_33, s34_34, s34_37, s34_38, s34_39, s34_42, s34_43, s34_44, s34_45, s34_47, s34_50, s34_51, s34_53, s34_56, s34_57, s34_60, s34_61, s34_64, s34_65, s34_68, s34_69, s34_71, s34_74, s34_75, s34_78, s34_79, s34_80, s34_81, s34_84, s34_85, s34_88, s34_89, s34_90, s34_91, s34_92, s34_95, s34_96, s34_97, s34_98, s34_100, s34_103, s34_104, s34_106, s34_109, s34_110, s34_113, s34_114, s34_117, s34_118, s34_119, s34_120, s34_121, s34_124, s34_125, s34_126, s34_127, okF, okA, mcC_o, mcF_o, mcT_i, mcT_l, mcT_z, mcT_q, mcN_i, mcN_l, mcN_z, mcN_q, mcI_i, mcI_z, mcL_l, mcQ_q, hg_hp, hp_hp, List.getD_cons_zero, List.getD_cons_succ, List.set_cons_zero, List.set_cons_succ, List.length_cons, List.length_nil, Nat.reduceAdd, Nat.reduceLT, Nat.reduceEqDiff, Nat.lt_add_one, decide_true, decide_false, Bool.and_true, Bool.true_and, Bool.and_false, Bool.false_and, Bool.false_eq_true, if_true, if_false, ↓reduceIte, Option.bind_some, Option.bind_none, kont_v, kont_n, FM_23, FM_24, FM_25, FM_26, FM_27, FM_28, FM_29, FM_30, FMp_23, FMp_24, FMp_25, FMp_26, FMp_27, FMp_28, FMp_29, FMp_30, FOO_len, FOO_0, FOO_1, FOO_2, FOO_3, FOO_4, FOO_5, FOO_6, FOO_7, FOO_8, FOO_9, FOO_10, FOO_11, FOO_12, FOOs_8, FOOs_9, FOOs_10, FOOs_11, FOOs_12, true_or, or_true, e41, l, p1, ct, r1, c1, cu, b1]
/-- plus or minus behind a unit; a joint -/
def adL (x : LVS) (d : Nat) (v : Int32) : LVS := (x.1, x.2.1, upd x.2.2.1 d v, x.2.2.2.1, upd x.2.2.2.2 d 0)
def muL (x : LVS) (d : Nat) (v : Int32) : LVS := (x.1, x.2.1, x.2.2.1, x.2.2.2.1, upd x.2.2.2.2 d v)
theorem rj_add (hd : d < 9) {ft c : Int32} (hc : c = 43 ∨ c = 45) : (ev X 34 0 [.ref 23, .int c, .float 0, .float 0] [] (FMH B (nI n) (nI d) ft 0 vl sg lt x)) = some (some (.int (1)), (FMH B (nI n) (nI d) ft 1 vl sg lt (adL (ctT x d) d (if c = 45 then 1 else 0)))) := by
  have b1 : ((1 : Int32) &&& 1 = 1) = True := eq_true (by decide)
  have ct := c_closeTerm (X := X) (B := B) (len := nI n) (ft := ft) (wt := 0) (vl := vl) (sg := sg) (lt := lt) (x := x) (d := d) hd
  have r1 : inR (nI d) 9 = true := inR_n hd (by decide)
  have c1 : (nI d).toNatClampNeg = d := nI_clamp (by omega)
  generalize ctT x d = y at ct ⊢
  obtain ⟨s, p, b, g, j⟩ := y
  unfold adL
  dsimp only
  rcases hc with rfl | rfl
  · have e1 : ((43 : Int32) = 41) = False := eq_false (by decide)
    have e2 : ((43 : Int32) = 43) = True := eq_true rfl
    have e3 : ((43 : Int32) = 45) = False := eq_false (by decide)
    simp only [s34_0, s34_1, s34_3, s34_6, s34_7, s34_10, s34_13, s34_14, s34_17, s34_18, s34_21, s34_22, s34_25, s34_26, s34_27, s34_28, s34_29, s34_32, s34_33, s34_34, s34_37, s34_38, s34_39, s34_42, s34_43, s34_44, s34_45, s34_47, s34_50, s34_51, s34_53, s34_56, s34_57, s34_60, s34_61, s34_64, s34_65, s34_68, s34_69, s34_71, s34_74, s34_75, s34_78, s34_79, s34_80, s34_81, s34_84, s34_85, s34_88, s34_89, s34_90, s34_91, s34_92, s34_95, s34_96, s34_97, s34_98, s34_100, s34_103, s34_104, s34_106, s34_109, s34_110, s34_113, s34_114, s34_117, s34_118, s34_119, s34_120, s34_121, s34_124, s34_125, s34_126, s34_127, okF, okA, mcC_o, mcF_o, mcT_i, mcT_l, mcT_z, mcT_q, mcN_i, mcN_l, mcN_z, mcN_q, mcI_i, mcI_z, mcL_l, mcQ_q, hg_hp, hp_hp, List.getD_cons_zero, List.getD_cons_succ, List.set_cons_zero, List.set_cons_succ, List.length_cons, List.length_nil, Nat.reduceAdd, Nat.reduceLT, Nat.reduceEqDiff, Nat.lt_add_one, decide_true, decide_false, Bool.and_true, Bool.true_and, Bool.and_false, Bool.false_and, Bool.false_eq_true, if_true, if_false, ↓reduceIte, Option.bind_some, Option.bind_none, kont_v, kont_n, FM_23, FM_24, FM_25, FM_26, FM_27, FM_28, FM_29, FM_30, FMp_23, FMp_24, FMp_25, FMp_26, FMp_27, FMp_28, FMp_29, FMp_30, FOO_len, FOO_0, FOO_1, FOO_2, FOO_3, FOO_4, FOO_5, FOO_6, FOO_7, FOO_8, FOO_9, FOO_10, FOO_11, FOO_12, FOOs_8, FOOs_9, FOOs_10, FOOs_11, FOOs_12, true_or, or_true, e1, e2, e3, ct, r1, c1, vnar0, b1]
  · have e1 : ((45 : Int32) = 41) = False := eq_false (by decide)
    have e2 : ((45 : Int32) = 43) = False := eq_false (by decide)
    have e3 : ((45 : Int32) = 45) = True := eq_true rfl
    simp only [s34_0, s34_1, s34_3, s34_6, s34_7, s34_10, s34_13, s34_14, s34_17, s34_18, s34_21, s34_22, s34_25, s34_26, s34_27, s34_28, s34_29, s34_32, s34_33, s34_34, s34_37, s34_38, s34_39, s34_42, s34_43, s34_44, s34_45, s34_47, s34_50, s34_51, s34_53, s34_56, s34_57, s34_60, s34_61, s34_64, s34_65, s34_68, s34_69, s34_71, s34_74, s34_75, s34_78, s34_79, s34_80, s34_81, s34_84, s34_85, s34_88, s34_89, s34_90, s34_91, s34_92, s34_95, s34_96, s34_97, s34_98, s34_100, s34_103, s34_104, s34_106, s34_109, s34_110, s34_113, s34_114, s34_117, s34_118, s34_119, s34_120, s34_121, s34_124, s34_125, s34_126, s34_127, okF, okA, mcC_o, mcF_o, mcT_i, mcT_l, mcT_z, mcT_q, mcN_i, mcN_l, mcN_z, mcN_q, mcI_i, mcI_z, mcL_l, mcQ_q, hg_hp, hp_hp, List.getD_cons_zero, List.getD_cons_succ, List.set_cons_zero, List.set_cons_succ, List.length_cons, List.length_nil, Nat.reduceAdd, Nat.reduceLT, Nat.reduceEqDiff, Nat.lt_add_one, decide_true, decide_false, Bool.and_true, Bool.true_and, Bool.and_false, Bool.false_and, Bool.false_eq_true, if_true, if_false, ↓reduceIte, Option.bind_some, Option.bind_none, kont_v, kont_n, FM_23, FM_24, FM_25, FM_26, FM_27, FM_28, FM_29, FM_30, FMp_23, FMp_24, FMp_25, FMp_26, FMp_27, FMp_28, FMp_29, FMp_30, FOO_len, FOO_0, FOO_1, FOO_2, FOO_3, FOO_4, FOO_5, FOO_6, FOO_7, FOO_8, FOO_9, FOO_10, FOO_11, FOO_12, FOOs_8, FOOs_9, FOOs_10, FOOs_11, FOOs_12, true_or, or_true, e1, e2, e3, ct, r1, c1, vnar1, b1]
theorem rj_mul (hd : d < 9) {ft c : Int32} (hc : c = 42 ∨ c = 47) : (ev X 34 0 [.ref 23, .int c, .float 0, .float 0] [] (FMH B (nI n) (nI d) ft 0 vl sg lt x)) = some (some (.int (1)), (FMH B (nI n) (nI d) ft 1 vl sg lt (muL x d c))) := by
  have b1 : ((1 : Int32) &&& 1 = 1) = True := eq_true (by decide)
  have r1 : inR (nI d) 9 = true := inR_n hd (by decide)
  have c1 : (nI d).toNatClampNeg = d := nI_clamp (by omega)
  obtain ⟨s, p, b, g, j⟩ := x
  unfold muL
  dsimp only
  rcases hc with rfl | rfl
  · have e1 : ((42 : Int32) = 41) = False := eq_false (by decide)
    have e2 : ((42 : Int32) = 43) = False := eq_false (by decide)
    have e3 : ((42 : Int32) = 45) = False := eq_false (by decide)
    have e4 : ((42 : Int32) = 42) = True := eq_true rfl
    simp only [s34_0, s34_1, s34_3, s34_6, s34_7, s34_10, s34_13, s34_14, s34_17, s34_18, s34_21, s34_22, s34_25, s34_26, s34_27, s34_28, s34_29, s34_32, s34_33, s34_34, s34_37, s34_38, s34_39, s34_42, s34_43, s34_44, s34_45, s34_47, s34_50, s34_51, s34_53, s34_56, s34_57, s34_60, s34_61, s34_64, s34_65, s34_68, s34_69, s34_71, s34_74, s34_75, s34_78, s34_79, s34_80, s34_81, s34_84, s34_85, s34_88, s34_89, s34_90, s34_91, s34_92, s34_95, s34_96, s34_97, s34_98, s34_100, s34_103, s34_104, s34_106, s34_109, s34_110, s34_113, s34_114, s34_117, s34_118, s34_119, s34_120, s34_121, s34_124, s34_125, s34_126, s34_127, okF, okA, mcC_o, mcF_o, mcT_i, mcT_l, mcT_z, mcT_q, mcN_i, mcN_l, mcN_z, mcN_q, mcI_i, mcI_z, mcL_l, mcQ_q, hg_hp, hp_hp, List.getD_cons_zero, List.getD_cons_succ, List.set_cons_zero, List.set_cons_succ, List.length_cons, List.length_nil, Nat.reduceAdd, Nat.reduceLT, Nat.reduceEqDiff, Nat.lt_add_one, decide_true, decide_false, Bool.and_true, Bool.true_and, Bool.and_false, Bool.false_and, Bool.false_eq_true, if_true, if_false, ↓reduceIte, Option.bind_some, Option.bind_none, kont_v, kont_n, FM_23, FM_24, FM_25, FM_26, FM_27, FM_28, FM_29, FM_30, FMp_23, FMp_24, FMp_25, FMp_26, FMp_27, FMp_28, FMp_29, FMp_30, FOO_len, FOO_0, FOO_1, FOO_2, FOO_3, FOO_4, FOO_5, FOO_6, FOO_7, FOO_8, FOO_9, FOO_10, FOO_11, FOO_12, FOOs_8, FOOs_9, FOOs_10, FOOs_11, FOOs_12, true_or, or_true, e1, e2, e3, e4, r1, c1, b1]
  · have e1 : ((47 : Int32) = 41) = False := eq_false (by decide)
    have e2 : ((47 : Int32) = 43) = False := eq_false (by decide)
    have e3 : ((47 : Int32) = 45) = False := eq_false (by decide)
    have e4 : ((47 : Int32) = 42) = False := eq_false (by decide)
    have e5 : ((47 : Int32) = 47) = True := eq_true rfl
    simp only [s34_0, s34_1, s34_3, s34_6, s34_7, s34_10, s34_13, s34_14, s34_17, s34_18, s34_21, s34_22, s34_25, s34_26, s34_27, s34_28, s34_29, s34_32, s34_33, s34_34, s34_37, s34_38, s34_39, s34_42, s34_43, s34_44, s34_45, s34_47, s34_50, s34_51, s34_53, s34_56, s34_57, s34_60, s34_61, s34_64, s34_65, s34_68, s34_69, s34_71, s34_74, s34_75, s34_78, s34_79, s34_80, s34_81, s34_84, s34_85, s34_88, s34_89, s34_90, s34_91, s34_92, s34_95, s34_96, s34_97, s34_98, s34_100, s34_103, s34_104, s34_106, s34_109, s34_110, s34_113, s34_114, s34_117, s34_118, s34_119, s34_120, s34_121, s34_124, s34_125, s34_126, s34_127, okF, okA, mcC_o, mcF_o, mcT_i, mcT_l, mcT_z, mcT_q, mcN_i, mcN_l, mcN_z, mcN_q, mcI_i, mcI_z, mcL_l, mcQ_q, hg_hp, hp_hp, List.getD_cons_zero, List.getD_cons_succ, List.set_cons_zero, List.set_cons_succ, List.length_cons, List.length_nil, Nat.reduceAdd, Nat.reduceLT, Nat.reduceEqDiff, Nat.lt_add_one, decide_true, decide_false, Bool.and_true, Bool.true_and, Bool.and_false, Bool.false_and, Bool.false_eq_true, if_true, if_false, ↓reduceIte, Option.bind_some, Option.bind_none, kont_v, kont_n, FM_23, FM_24, FM_25, FM_26, FM_27, FM_28, FM_29, FM_30, FMp_23, FMp_24, FMp_25, FMp_26, FMp_27, FMp_28, FMp_29, FMp_30, FOO_len, FOO_0, FOO_1, FOO_2, FOO_3, FOO_4, FOO_5, FOO_6, FOO_7, FOO_8, FOO_9, FOO_10, FOO_11, FOO_12, FOOs_8, FOOs_9, FOOs_10, FOOs_11, FOOs_12, true_or, or_true, e1, e2, e3, e4, e5, r1, c1, b1]
theorem rj_bad {ft : Int32} {c : Nat} (hc : c < 128) (hd : d < 9) (h1 : ¬ (c = 41 ∧ 0 < d)) (h2 : ¬ c = 43) (h3 : ¬ c = 45) (h4 : ¬ c = 42) (h5 : ¬ c = 47) : (ev X 34 0 [.ref 23, .int (nI c), .float 0, .float 0] [] (FMH B (nI n) (nI d) ft 0 vl sg lt x)) = some (some (.int (0)), (FMH B (nI n) (nI d) ft 0 vl sg lt x)) := by
  have b0 : ((0 : Int32) &&& 1 = 0) = True := eq_true (by decide)
  have ne : ∀ k : Nat, k < 128 → ¬ c = k → (nI c = nI k) = False := fun k hk h => eq_false (fun z => h ((nI_eq (by omega) (by omega)).mp z))
  have e2 : (nI c = (43 : Int32)) = False := ne 43 (by omega) h2
  have e3 : (nI c = (45 : Int32)) = False := ne 45 (by omega) h3
  have e4 : (nI c = (42 : Int32)) = False := ne 42 (by omega) h4
  have e5 : (nI c = (47 : Int32)) = False := ne 47 (by omega) h5
  by_cases q : c = 41
  · have e1 : (nI c = (41 : Int32)) = True := eq_true (by rw [q]; rfl)
    have d0 : d = 0 := by omega
    have l : ¬ (0 : Int32) < nI d := by rw [d0]; decide
    simp only [s34_0, s34_1, s34_3, s34_6, s34_7, s34_10, s34_13, s34_14, s34_17, s34_18, s34_21, s34_22, s34_25, s34_26, s34_27, s34_28, s34_29, s34_32, s34_33, s34_34, s34_37, s34_38, s34_39, s34_42, s34_43, s34_44, s34_45, s34_47, s34_50, s34_51, s34_53, s34_56, s34_57, s34_60, s34_61, s34_64, s34_65, s34_68, s34_69, s34_71, s34_74, s34_75, s34_78, s34_79, s34_80, s34_81, s34_84, s34_85, s34_88, s34_89, s34_90, s34_91, s34_92, s34_95, s34_96, s34_97, s34_98, s34_100, s34_103, s34_104, s34_106, s34_109, s34_110, s34_113, s34_114, s34_117, s34_118, s34_119, s34_120, s34_121, s34_124, s34_125, s34_126, s34_127, okF, okA, mcC_o, mcF_o, mcT_i, mcT_l, mcT_z, mcT_q, mcN_i, mcN_l, mcN_z, mcN_q, mcI_i, mcI_z, mcL_l, mcQ_q, hg_hp, hp_hp, List.getD_cons_zero, List.getD_cons_succ, List.set_cons_zero, List.set_cons_succ, List.length_cons, List.length_nil, Nat.reduceAdd, Nat.reduceLT, Nat.reduceEqDiff, Nat.lt_add_one, decide_true, decide_false, Bool.and_true, Bool.true_and, Bool.and_false, Bool.false_and, Bool.false_eq_true, if_true, if_false, ↓reduceIte, Option.bind_some, Option.bind_none, kont_v, kont_n, FM_23, FM_24, FM_25, FM_26, FM_27, FM_28, FM_29, FM_30, FMp_23, FMp_24, FMp_25, FMp_26, FMp_27, FMp_28, FMp_29, FMp_30, FOO_len, FOO_0, FOO_1, FOO_2, FOO_3, FOO_4, FOO_5, FOO_6, FOO_7, FOO_8, FOO_9, FOO_10, FOO_11, FOO_12, FOOs_8, FOOs_9, FOOs_10, FOOs_11, FOOs_12, true_or, or_true, e1, l, e2, e3, e4, e5, b0]
  · have e1 : (nI c = (41 : Int32)) = False := ne 41 (by omega) q
    simp only [s34_0, s34_1, s34_3, s34_6, s34_7, s34_10, s34_13, s34_14, s34_17, s34_18, s34_21, s34_22, s34_25, s34_26, s34_27, s34_28, s34_29, s34_32, s34_33, s34_34, s34_37, s34_38, s34_39, s34_42, s34_43, s34_44, s34_45, s34_47, s34_50, s34_51, s34_53, s34_56, s34_57, s34_60, s34_61, s34_64, s34_65, s34_68, s34_69, s34_71, s34_74, s34_75, s34_78, s34_79, s34_80, s34_81, s34_84, s34_85, s34_88, s34_89, s34_90, s34_91, s34_92, s34_95, s34_96, s34_97, s34_98, s34_100, s34_103, s34_104, s34_106, s34_109, s34_110, s34_113, s34_114, s34_117, s34_118, s34_119, s34_120, s34_121, s34_124, s34_125, s34_126, s34_127, okF, okA, mcC_o, mcF_o, mcT_i, mcT_l, mcT_z, mcT_q, mcN_i, mcN_l, mcN_z, mcN_q, mcI_i, mcI_z, mcL_l, mcQ_q, hg_hp, hp_hp, List.getD_cons_zero, List.getD_cons_succ, List.set_cons_zero, List.set_cons_succ, List.length_cons, List.length_nil, Nat.reduceAdd, Nat.reduceLT, Nat.reduceEqDiff, Nat.lt_add_one, decide_true, decide_false, Bool.and_true, Bool.true_and, Bool.and_false, Bool.false_and, Bool.false_eq_true, if_true, if_false, ↓reduceIte, Option.bind_some, Option.bind_none, kont_v, kont_n, FM_23, FM_24, FM_25, FM_26, FM_27, FM_28, FM_29, FM_30, FMp_23, FMp_24, FMp_25, FMp_26, FMp_27, FMp_28, FMp_29, FMp_30, FOO_len, FOO_0, FOO_1, FOO_2, FOO_3, FOO_4, FOO_5, FOO_6, FOO_7, FOO_8, FOO_9, FOO_10, FOO_11, FOO_12, FOOs_8, FOOs_9, FOOs_10, FOOs_11, FOOs_12, true_or, or_true, e1, e2, e3, e4, e5, b0]
end RAT

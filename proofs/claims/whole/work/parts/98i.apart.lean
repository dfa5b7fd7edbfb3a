-- APART: the class's ways
def AH (B : MH) (mn pl ls : Int32) (sd ch be cl : Nat → Int32) : MH := hp (hp (hp (hp (hp B 40 (oB 0 [.ref 1, .ref 41, .ref 42, .ref 43, .ref 44, .int mn, .int pl, .int ls])) 41 (iA 12 sd)) 42 (iA 12 ch)) 43 (iA 12 be)) 45 (iA 144 cl)
section AHS
variable {B : MH} {mn pl ls x y z : Int32} {sd ch be cl f : Nat → Int32}
theorem AH_40 : hg (AH B mn pl ls sd ch be cl) 40 = oB 0 [.ref 1, .ref 41, .ref 42, .ref 43, .ref 44, .int mn, .int pl, .int ls] := Eq.trans rfl rfl
theorem AH_41 : hg (AH B mn pl ls sd ch be cl) 41 = iA 12 sd := Eq.trans rfl rfl
theorem AH_42 : hg (AH B mn pl ls sd ch be cl) 42 = iA 12 ch := Eq.trans rfl rfl
theorem AH_43 : hg (AH B mn pl ls sd ch be cl) 43 = iA 12 be := Eq.trans rfl rfl
theorem AH_44 : hg (AH B mn pl ls sd ch be cl) 44 = hg B 44 := Eq.trans rfl rfl
theorem AH_45 : hg (AH B mn pl ls sd ch be cl) 45 = iA 144 cl := Eq.trans rfl rfl
theorem AH_o {k : Nat} (hk : k < 40 ∨ 45 < k) : hg (AH B mn pl ls sd ch be cl) k = hg B k := by
  unfold AH
  rw [hg_hp, if_neg (by omega), hg_hp, if_neg (by omega), hg_hp, if_neg (by omega), hg_hp, if_neg (by omega), hg_hp, if_neg (by omega)]
theorem AHp_40 : hp (AH B mn pl ls sd ch be cl) 40 (oB 0 [.ref 1, .ref 41, .ref 42, .ref 43, .ref 44, .int x, .int y, .int z]) = AH B x y z sd ch be cl := by
  unfold AH
  rw [hp_sw (by decide : (45 : Nat) ≠ 40), hp_sw (by decide : (43 : Nat) ≠ 40), hp_sw (by decide : (42 : Nat) ≠ 40), hp_sw (by decide : (41 : Nat) ≠ 40), hp_hp]
theorem AHp_41 : hp (AH B mn pl ls sd ch be cl) 41 (iA 12 f) = AH B mn pl ls f ch be cl := by
  unfold AH
  rw [hp_sw (by decide : (45 : Nat) ≠ 41), hp_sw (by decide : (43 : Nat) ≠ 41), hp_sw (by decide : (42 : Nat) ≠ 41), hp_hp]
theorem AHp_42 : hp (AH B mn pl ls sd ch be cl) 42 (iA 12 f) = AH B mn pl ls sd f be cl := by
  unfold AH
  rw [hp_sw (by decide : (45 : Nat) ≠ 42), hp_sw (by decide : (43 : Nat) ≠ 42), hp_hp]
theorem AHp_43 : hp (AH B mn pl ls sd ch be cl) 43 (iA 12 f) = AH B mn pl ls sd ch f cl := by
  unfold AH
  rw [hp_sw (by decide : (45 : Nat) ≠ 43), hp_hp]
theorem AHp_45 : hp (AH B mn pl ls sd ch be cl) 45 (iA 144 f) = AH B mn pl ls sd ch be f := by
  unfold AH
  rw [hp_hp]
theorem AH_lg {D : LD} (L : LG B 1 D) : LG (AH B mn pl ls sd ch be cl) 1 D := L.same (fun k h1 h2 => AH_o (by omega))
theorem AH_id {h : MH} (h40 : hg h 40 = oB 0 [.ref 1, .ref 41, .ref 42, .ref 43, .ref 44, .int mn, .int pl, .int ls]) (h41 : hg h 41 = iA 12 sd) (h42 : hg h 42 = iA 12 ch) (h43 : hg h 43 = iA 12 be) (h45 : hg h 45 = iA 144 cl) : AH h mn pl ls sd ch be cl = h := by
  unfold AH
  rw [hp_self h40, hp_self h41, hp_self h42, hp_self h43, hp_self h45]
theorem AH_tab {R : Nat} (h44 : hg B 44 = oB 10 [.int (nI 12), .int (nI 12), .ref 45, .int (nI R)]) : TAB (AH B mn pl ls sd ch be cl) 44 45 12 12 R cl := ⟨AH_44.trans h44, AH_45, by decide, by decide, by decide, by decide⟩
end AHS
def isO0 (c : MC) : Bool := match c with
  | .inr (k, _) => decide (k = 0)
  | .inl _ => false
theorem isO0_o (fs : List Value) : isO0 (oB 0 fs) = true := Eq.trans rfl rfl
theorem isO0_e {c : MC} (h : isO0 c = true) : ∃ fs, c = oB 0 fs := by
  cases c with
  | inl x => cases h
  | inr q =>
    obtain ⟨k, fs⟩ := q
    have : k = 0 := of_decide_eq_true h
    subst this
    exact ⟨fs, rfl⟩
section REC
variable {X : MX} {j pc : Nat} {loc st : List Value} {h : MH} {B : ByteArray}
theorem q_rec {i n k c0 a : Nat} {qj qk : MT} {As r l2 : List Value} (hb : mt_b (mq j) = B) (hd : decode B pc = .ok (.invokevirtual i, 3)) (hc0 : mt_c (mq j) = c0) (hct : ct c0 i = some (k, 0)) (ej : mq j = qj) (ek : mq k = qk) (hn : mt_n qk = n) (hkk : mt_k qk = 1) (hm : mayQ qj qk = true) (hcc : 100 ≤ mt_c qk) (ha : isO0 (hg h a) = true) (hdr : st.drop n = .ref a :: r) (hl : lite r = true) (hA : (st.take n).reverse = As) (he : entK qk (.ref a :: As) = true) (h2 : entQ qk (.ref a :: As) = l2) : ev X j pc loc st h = (ev X k 0 l2 [] h).bind (kont X j (pc + 3) loc r) := by
  subst ej
  subst ek
  obtain ⟨fs, hf⟩ := isO0_e ha
  have hcall : callOf j (.invokevirtual i) 3 st h = some (k, .ref a :: As, r) := by
    show (ct (mt_c (mq j)) i).bind _ = _
    rw [hc0, hct]
    show (match st.drop (mt_n (mq k)) with
      | b :: r => if mt_k (mq k) = 1 ∧ 0 = 0 ∧ mayc j k = true ∧ recvOk h k b = true ∧ lite r = true then some (k, b :: (st.take (mt_n (mq k))).reverse, r) else none
      | [] => none) = _
    rw [hn, hdr]
    show (if mt_k (mq k) = 1 ∧ 0 = 0 ∧ mayc j k = true ∧ recvOk h k (.ref a) = true ∧ lite r = true then some (k, .ref a :: (st.take n).reverse, r) else none) = _
    have rc : recvOk h k (.ref a) = true := by
      have key : ∀ m : MC, m = oB 0 fs → (match m with
        | .inr (ci, _) => (match vwCl[ci]? with
          | some _ => decide (ci = mt_c (mq k) ∨ (ci = 0 ∧ 100 ≤ mt_c (mq k)))
          | none => false)
        | _ => false) = true := fun m hm => by
        subst hm
        exact decide_eq_true (Or.inr ⟨rfl, hcc⟩)
      exact key _ hf
    have hm' : mayc j k = true := hm
    rw [hA, hkk, hm', hl, rc]
    rfl
  exact r_call hb hd (by show ¬ 5 = 6; decide) hcall he h2
end REC
theorem s1_92 {X : MX} {a0 a1 a2 a3 a4 : Value} {h : MH} {p0 p1 : Int32} {a : Nat} (ha : isO0 (hg h a) = true) : ev X 1 92 [a0, a1, a2, a3, a4] ([.int p1, .int p0, .ref a]) h = (ev X 250 0 [.ref a, .int p0, .int p1, .float 0] [] h).bind (kont X 1 95 [a0, a1, a2, a3, a4] []) := q_rec mb_1 (show decode prog_2_method_4_code 92 = .ok (.invokevirtual 64, 3) by decide +kernel) mc_1 (by decide +kernel) me_1 me_250 rfl rfl (by decide +kernel) (by decide) ha rfl rfl rfl rfl rfl
theorem s250_82 {X : MX} {a0 a1 a2 a3 : Value} {h : MH} {p0 p1 : Int32} {a : Nat} (ha : isO0 (hg h a) = true) : ev X 250 82 [a0, a1, a2, a3] ([.int p1, .int p0, .ref a]) h = (ev X 251 0 [.ref a, .int p0, .int p1, .float 0] [] h).bind (kont X 250 85 [a0, a1, a2, a3] []) := q_rec mb_250 (show decode prog_2_method_6_code 82 = .ok (.invokevirtual 64, 3) by decide +kernel) mc_250 (by decide +kernel) me_250 me_251 rfl rfl (by decide +kernel) (by decide) ha rfl rfl rfl rfl rfl
theorem s251_82 {X : MX} {a0 a1 a2 a3 : Value} {h : MH} {p0 p1 : Int32} {a : Nat} (ha : isO0 (hg h a) = true) : ev X 251 82 [a0, a1, a2, a3] ([.int p1, .int p0, .ref a]) h = (ev X 252 0 [.ref a, .int p0, .int p1, .float 0] [] h).bind (kont X 251 85 [a0, a1, a2, a3] []) := q_rec mb_251 (show decode prog_2_method_6_code 82 = .ok (.invokevirtual 64, 3) by decide +kernel) mc_251 (by decide +kernel) me_251 me_252 rfl rfl (by decide +kernel) (by decide) ha rfl rfl rfl rfl rfl
theorem s252_82 {X : MX} {a0 a1 a2 a3 : Value} {h : MH} {p0 p1 : Int32} {a : Nat} (ha : isO0 (hg h a) = true) : ev X 252 82 [a0, a1, a2, a3] ([.int p1, .int p0, .ref a]) h = (ev X 253 0 [.ref a, .int p0, .int p1, .float 0] [] h).bind (kont X 252 85 [a0, a1, a2, a3] []) := q_rec mb_252 (show decode prog_2_method_6_code 82 = .ok (.invokevirtual 64, 3) by decide +kernel) mc_252 (by decide +kernel) me_252 me_253 rfl rfl (by decide +kernel) (by decide) ha rfl rfl rfl rfl rfl
theorem s253_82 {X : MX} {a0 a1 a2 a3 : Value} {h : MH} {p0 p1 : Int32} {a : Nat} (ha : isO0 (hg h a) = true) : ev X 253 82 [a0, a1, a2, a3] ([.int p1, .int p0, .ref a]) h = (ev X 254 0 [.ref a, .int p0, .int p1, .float 0] [] h).bind (kont X 253 85 [a0, a1, a2, a3] []) := q_rec mb_253 (show decode prog_2_method_6_code 82 = .ok (.invokevirtual 64, 3) by decide +kernel) mc_253 (by decide +kernel) me_253 me_254 rfl rfl (by decide +kernel) (by decide) ha rfl rfl rfl rfl rfl
theorem s254_82 {X : MX} {a0 a1 a2 a3 : Value} {h : MH} {p0 p1 : Int32} {a : Nat} (ha : isO0 (hg h a) = true) : ev X 254 82 [a0, a1, a2, a3] ([.int p1, .int p0, .ref a]) h = (ev X 255 0 [.ref a, .int p0, .int p1, .float 0] [] h).bind (kont X 254 85 [a0, a1, a2, a3] []) := q_rec mb_254 (show decode prog_2_method_6_code 82 = .ok (.invokevirtual 64, 3) by decide +kernel) mc_254 (by decide +kernel) me_254 me_255 rfl rfl (by decide +kernel) (by decide) ha rfl rfl rfl rfl rfl
theorem s255_82 {X : MX} {a0 a1 a2 a3 : Value} {h : MH} {p0 p1 : Int32} {a : Nat} (ha : isO0 (hg h a) = true) : ev X 255 82 [a0, a1, a2, a3] ([.int p1, .int p0, .ref a]) h = (ev X 256 0 [.ref a, .int p0, .int p1, .float 0] [] h).bind (kont X 255 85 [a0, a1, a2, a3] []) := q_rec mb_255 (show decode prog_2_method_6_code 82 = .ok (.invokevirtual 64, 3) by decide +kernel) mc_255 (by decide +kernel) me_255 me_256 rfl rfl (by decide +kernel) (by decide) ha rfl rfl rfl rfl rfl
theorem s256_82 {X : MX} {a0 a1 a2 a3 : Value} {h : MH} {p0 p1 : Int32} {a : Nat} (ha : isO0 (hg h a) = true) : ev X 256 82 [a0, a1, a2, a3] ([.int p1, .int p0, .ref a]) h = (ev X 257 0 [.ref a, .int p0, .int p1, .float 0] [] h).bind (kont X 256 85 [a0, a1, a2, a3] []) := q_rec mb_256 (show decode prog_2_method_6_code 82 = .ok (.invokevirtual 64, 3) by decide +kernel) mc_256 (by decide +kernel) me_256 me_257 rfl rfl (by decide +kernel) (by decide) ha rfl rfl rfl rfl rfl
theorem s257_82 {X : MX} {a0 a1 a2 a3 : Value} {h : MH} {p0 p1 : Int32} {a : Nat} (ha : isO0 (hg h a) = true) : ev X 257 82 [a0, a1, a2, a3] ([.int p1, .int p0, .ref a]) h = (ev X 258 0 [.ref a, .int p0, .int p1, .float 0] [] h).bind (kont X 257 85 [a0, a1, a2, a3] []) := q_rec mb_257 (show decode prog_2_method_6_code 82 = .ok (.invokevirtual 64, 3) by decide +kernel) mc_257 (by decide +kernel) me_257 me_258 rfl rfl (by decide +kernel) (by decide) ha rfl rfl rfl rfl rfl
theorem s258_82 {X : MX} {a0 a1 a2 a3 : Value} {h : MH} {p0 p1 : Int32} {a : Nat} (ha : isO0 (hg h a) = true) : ev X 258 82 [a0, a1, a2, a3] ([.int p1, .int p0, .ref a]) h = (ev X 259 0 [.ref a, .int p0, .int p1, .float 0] [] h).bind (kont X 258 85 [a0, a1, a2, a3] []) := q_rec mb_258 (show decode prog_2_method_6_code 82 = .ok (.invokevirtual 64, 3) by decide +kernel) mc_258 (by decide +kernel) me_258 me_259 rfl rfl (by decide +kernel) (by decide) ha rfl rfl rfl rfl rfl
theorem s259_82 {X : MX} {a0 a1 a2 a3 : Value} {h : MH} {p0 p1 : Int32} {a : Nat} (ha : isO0 (hg h a) = true) : ev X 259 82 [a0, a1, a2, a3] ([.int p1, .int p0, .ref a]) h = (ev X 260 0 [.ref a, .int p0, .int p1, .float 0] [] h).bind (kont X 259 85 [a0, a1, a2, a3] []) := q_rec mb_259 (show decode prog_2_method_6_code 82 = .ok (.invokevirtual 64, 3) by decide +kernel) mc_259 (by decide +kernel) me_259 me_260 rfl rfl (by decide +kernel) (by decide) ha rfl rfl rfl rfl rfl
theorem s260_82 {X : MX} {a0 a1 a2 a3 : Value} {h : MH} {p0 p1 : Int32} {a : Nat} (ha : isO0 (hg h a) = true) : ev X 260 82 [a0, a1, a2, a3] ([.int p1, .int p0, .ref a]) h = (ev X 261 0 [.ref a, .int p0, .int p1, .float 0] [] h).bind (kont X 260 85 [a0, a1, a2, a3] []) := q_rec mb_260 (show decode prog_2_method_6_code 82 = .ok (.invokevirtual 64, 3) by decide +kernel) mc_260 (by decide +kernel) me_260 me_261 rfl rfl (by decide +kernel) (by decide) ha rfl rfl rfl rfl rfl
theorem s261_82 {X : MX} {a0 a1 a2 a3 : Value} {h : MH} {p0 p1 : Int32} {a : Nat} (ha : isO0 (hg h a) = true) : ev X 261 82 [a0, a1, a2, a3] ([.int p1, .int p0, .ref a]) h = (ev X 262 0 [.ref a, .int p0, .int p1, .float 0] [] h).bind (kont X 261 85 [a0, a1, a2, a3] []) := q_rec mb_261 (show decode prog_2_method_6_code 82 = .ok (.invokevirtual 64, 3) by decide +kernel) mc_261 (by decide +kernel) me_261 me_262 rfl rfl (by decide +kernel) (by decide) ha rfl rfl rfl rfl rfl
def clN (D : LD) (x y : Nat) : Nat := if D.2.1 1 (x * 3 + 0) = D.2.1 1 (y * 3 + 0) then 3 else if D.2.1 1 (x * 3 + 1) = D.2.1 1 (y * 3 + 1) then 1 else 0
theorem clN_le (D : LD) (x y : Nat) : clN D x y ≤ 3 := by
  unfold clN
  split
  · omega
  · split <;> omega
theorem rem_ok : ∀ P, P < 4 → 1 ≤ P → ∀ k, k < 12 → nI k - (nI k - nI k / nI P * nI P) = nI (k - k % P) := by decide +kernel
section APA
variable {X : MX} {t : Nat} {h B : MH} {D : LD} {S IM KP : Nat → Int32} {mn pl ls : Int32} {sd ch be cl : Nat → Int32}
theorem c_clashOf (L : LG h 1 D) {mn pl ls : Int32} (h40 : hg h 40 = oB 0 [.ref 1, .ref 41, .ref 42, .ref 43, .ref 44, .int mn, .int pl, .int ls]) {x y : Nat} (hx : x < 16) (hy : y < 16) : (ev X 2 0 [.ref 40, .int (nI x), .int (nI y), .float 0] [] (h)) = some (some (.int (nI (clN D x y))), (h)) := by
  have x0 := (lt1 L).get' (X := X) (r := x) (q := 0) rfl (q' := 0) rfl hx (by decide)
  have x1 := (lt1 L).get' (X := X) (r := x) (q := 1) rfl (q' := 1) rfl hx (by decide)
  have y0 := (lt1 L).get' (X := X) (r := y) (q := 0) rfl (q' := 0) rfl hy (by decide)
  have y1 := (lt1 L).get' (X := X) (r := y) (q := 1) rfl (q' := 1) rfl hy (by decide)
  unfold clN
  by_cases e0 : D.2.1 1 (x * 3 + 0) = D.2.1 1 (y * 3 + 0)
  · have e0' := eq_true e0
    rw [if_pos e0]
    show _ = some (some (Value.int 3), h)
    simp only [s2_0, s2_1, s2_4, s2_7, s2_8, s2_9, s2_10, s2_11, s2_14, s2_15, s2_16, s2_17, s2_20, s2_23, s2_24, s2_25, s2_26, s2_27, s2_28, s2_31, s2_32, s2_33, s2_34, s2_37, s2_40, s2_41, s2_44, s2_45, okF, okA, mcC_o, mcF_o, mcT_i, mcT_l, mcT_z, mcT_q, mcN_i, mcN_l, mcN_z, mcN_q, mcI_i, mcI_z, mcL_l, mcQ_q, hg_hp, hp_hp, List.getD_cons_zero, List.getD_cons_succ, List.set_cons_zero, List.set_cons_succ, List.length_cons, List.length_nil, Nat.reduceAdd, Nat.reduceLT, Nat.reduceEqDiff, Nat.lt_add_one, decide_true, decide_false, Bool.and_true, Bool.true_and, Bool.and_false, Bool.false_and, Bool.false_eq_true, if_true, if_false, ↓reduceIte, Option.bind_some, Option.bind_none, kont_v, kont_n, h40, lgo L, (lt1 L).1, x0, x1, y0, y1, e0']
  · have e0' := eq_false e0
    rw [if_neg e0]
    by_cases e1 : D.2.1 1 (x * 3 + 1) = D.2.1 1 (y * 3 + 1)
    · have e1' := eq_true e1
      rw [if_pos e1]
      show _ = some (some (Value.int 1), h)
      simp only [s2_0, s2_1, s2_4, s2_7, s2_8, s2_9, s2_10, s2_11, s2_14, s2_15, s2_16, s2_17, s2_20, s2_23, s2_24, s2_25, s2_26, s2_27, s2_28, s2_31, s2_32, s2_33, s2_34, s2_37, s2_40, s2_41, s2_44, s2_45, okF, okA, mcC_o, mcF_o, mcT_i, mcT_l, mcT_z, mcT_q, mcN_i, mcN_l, mcN_z, mcN_q, mcI_i, mcI_z, mcL_l, mcQ_q, hg_hp, hp_hp, List.getD_cons_zero, List.getD_cons_succ, List.set_cons_zero, List.set_cons_succ, List.length_cons, List.length_nil, Nat.reduceAdd, Nat.reduceLT, Nat.reduceEqDiff, Nat.lt_add_one, decide_true, decide_false, Bool.and_true, Bool.true_and, Bool.and_false, Bool.false_and, Bool.false_eq_true, if_true, if_false, ↓reduceIte, Option.bind_some, Option.bind_none, kont_v, kont_n, h40, lgo L, (lt1 L).1, x0, x1, y0, y1, e0', e1']
    · have e1' := eq_false e1
      rw [if_neg e1]
      show _ = some (some (Value.int 0), h)
      simp only [s2_0, s2_1, s2_4, s2_7, s2_8, s2_9, s2_10, s2_11, s2_14, s2_15, s2_16, s2_17, s2_20, s2_23, s2_24, s2_25, s2_26, s2_27, s2_28, s2_31, s2_32, s2_33, s2_34, s2_37, s2_40, s2_41, s2_44, s2_45, okF, okA, mcC_o, mcF_o, mcT_i, mcT_l, mcT_z, mcT_q, mcN_i, mcN_l, mcN_z, mcN_q, mcI_i, mcI_z, mcL_l, mcQ_q, hg_hp, hp_hp, List.getD_cons_zero, List.getD_cons_succ, List.set_cons_zero, List.set_cons_succ, List.length_cons, List.length_nil, Nat.reduceAdd, Nat.reduceLT, Nat.reduceEqDiff, Nat.lt_add_one, decide_true, decide_false, Bool.and_true, Bool.true_and, Bool.and_false, Bool.false_and, Bool.false_eq_true, if_true, if_false, ↓reduceIte, Option.bind_some, Option.bind_none, kont_v, kont_n, h40, lgo L, (lt1 L).1, x0, x1, y0, y1, e0', e1']
theorem c_op_yes {w : Nat → Nat} {k p : Nat} (hk : k ≤ 12) (hp2 : p < 4) (ww : ∀ j, j < k → ch j = nI (w j) ∧ w j < 2 ^ 31) : ∀ (d j : Nat), j + d = k → (∀ i, i < k → j ≤ i → w i ≠ p) → ev X 3 28 [.ref 40, .int (nI k), .int (nI p), .int (nI j)] [] (AH B mn pl ls sd ch be cl) = some (some (.int (1)), (AH B mn pl ls sd ch be cl)) := by
  intro d
  induction d with
  | zero =>
    intro j e _
    have e : j = k := by omega
    have l := nI_nlt (Nat.le_refl k) (by omega)
    have b1 : ((1 : Int32) &&& 1 = 1) = True := eq_true (by decide)
    rw [e, s3_28]
    simp only [s3_0, s3_1, s3_2, s3_5, s3_8, s3_9, s3_10, s3_13, s3_14, s3_17, s3_18, s3_19, s3_20, s3_21, s3_22, s3_25, s3_26, s3_27, s3_29, s3_30, s3_33, s3_34, s3_37, s3_38, s3_39, s3_40, s3_43, s3_44, s3_45, s3_48, s3_51, s3_52, okF, okA, mcC_o, mcF_o, mcT_i, mcT_l, mcT_z, mcT_q, mcN_i, mcN_l, mcN_z, mcN_q, mcI_i, mcI_z, mcL_l, mcQ_q, hg_hp, hp_hp, List.getD_cons_zero, List.getD_cons_succ, List.set_cons_zero, List.set_cons_succ, List.length_cons, List.length_nil, Nat.reduceAdd, Nat.reduceLT, Nat.reduceEqDiff, Nat.lt_add_one, decide_true, decide_false, Bool.and_true, Bool.true_and, Bool.and_false, Bool.false_and, Bool.false_eq_true, if_true, if_false, ↓reduceIte, Option.bind_some, Option.bind_none, kont_v, kont_n, l, b1]
  | succ d ih =>
    intro j e hn
    have l := nI_lt (show j < k by omega) (by omega)
    have p1 : nI j + 1 = nI (j + 1) := nI_add j 1
    have r2 : inR (nI j) 12 = true := inR_n (by omega) (by decide)
    have c2 : (nI j).toNatClampNeg = j := nI_clamp (by omega)
    obtain ⟨w1, w2⟩ := ww j (by omega)
    have ne : (nI (w j) = nI p) = False := eq_false (fun z => hn j (by omega) (by omega) ((nI_eq w2 (by omega)).mp z))
    rw [← ih (j + 1) (by omega) (fun i h1 h2 => hn i h1 (by omega)), s3_28]
    simp only [s3_0, s3_1, s3_2, s3_5, s3_8, s3_9, s3_10, s3_13, s3_14, s3_17, s3_18, s3_19, s3_20, s3_21, s3_22, s3_25, s3_26, s3_27, s3_29, s3_30, s3_33, s3_34, s3_37, s3_38, s3_39, s3_40, s3_43, s3_44, s3_45, s3_48, s3_51, s3_52, okF, okA, mcC_o, mcF_o, mcT_i, mcT_l, mcT_z, mcT_q, mcN_i, mcN_l, mcN_z, mcN_q, mcI_i, mcI_z, mcL_l, mcQ_q, hg_hp, hp_hp, List.getD_cons_zero, List.getD_cons_succ, List.set_cons_zero, List.set_cons_succ, List.length_cons, List.length_nil, Nat.reduceAdd, Nat.reduceLT, Nat.reduceEqDiff, Nat.lt_add_one, decide_true, decide_false, Bool.and_true, Bool.true_and, Bool.and_false, Bool.false_and, Bool.false_eq_true, if_true, if_false, ↓reduceIte, Option.bind_some, Option.bind_none, kont_v, kont_n, l, p1, AH_40, AH_42, r2, c2, w1, ne]
theorem c_op_no {w : Nat → Nat} {k p : Nat} (hk : k ≤ 12) (hp2 : p < 4) (ww : ∀ j, j < k → ch j = nI (w j) ∧ w j < 2 ^ 31) : ∀ (d j : Nat), j + d = k → (∃ i, i < k ∧ j ≤ i ∧ w i = p) → ev X 3 28 [.ref 40, .int (nI k), .int (nI p), .int (nI j)] [] (AH B mn pl ls sd ch be cl) = some (some (.int (0)), (AH B mn pl ls sd ch be cl)) := by
  intro d
  induction d with
  | zero =>
    rintro j e ⟨i, h1, h2, -⟩
    omega
  | succ d ih =>
    rintro j e ⟨i, h1, h2, h3⟩
    have l := nI_lt (show j < k by omega) (by omega)
    have p1 : nI j + 1 = nI (j + 1) := nI_add j 1
    have r2 : inR (nI j) 12 = true := inR_n (by omega) (by decide)
    have c2 : (nI j).toNatClampNeg = j := nI_clamp (by omega)
    have b0 : ((0 : Int32) &&& 1 = 0) = True := eq_true (by decide)
    obtain ⟨w1, w2⟩ := ww j (by omega)
    by_cases q : w j = p
    · have eq : (nI (w j) = nI p) = True := eq_true (by rw [q])
      rw [s3_28]
      simp only [s3_0, s3_1, s3_2, s3_5, s3_8, s3_9, s3_10, s3_13, s3_14, s3_17, s3_18, s3_19, s3_20, s3_21, s3_22, s3_25, s3_26, s3_27, s3_29, s3_30, s3_33, s3_34, s3_37, s3_38, s3_39, s3_40, s3_43, s3_44, s3_45, s3_48, s3_51, s3_52, okF, okA, mcC_o, mcF_o, mcT_i, mcT_l, mcT_z, mcT_q, mcN_i, mcN_l, mcN_z, mcN_q, mcI_i, mcI_z, mcL_l, mcQ_q, hg_hp, hp_hp, List.getD_cons_zero, List.getD_cons_succ, List.set_cons_zero, List.set_cons_succ, List.length_cons, List.length_nil, Nat.reduceAdd, Nat.reduceLT, Nat.reduceEqDiff, Nat.lt_add_one, decide_true, decide_false, Bool.and_true, Bool.true_and, Bool.and_false, Bool.false_and, Bool.false_eq_true, if_true, if_false, ↓reduceIte, Option.bind_some, Option.bind_none, kont_v, kont_n, l, p1, AH_40, AH_42, r2, c2, w1, eq, b0]
    · have ne : (nI (w j) = nI p) = False := eq_false (fun z => q ((nI_eq w2 (by omega)).mp z))
      have hi : j + 1 ≤ i := by
        by_cases z : i = j
        · rw [z] at h3; exact absurd h3 q
        · omega
      rw [← ih (j + 1) (by omega) ⟨i, h1, hi, h3⟩, s3_28]
      simp only [s3_0, s3_1, s3_2, s3_5, s3_8, s3_9, s3_10, s3_13, s3_14, s3_17, s3_18, s3_19, s3_20, s3_21, s3_22, s3_25, s3_26, s3_27, s3_29, s3_30, s3_33, s3_34, s3_37, s3_38, s3_39, s3_40, s3_43, s3_44, s3_45, s3_48, s3_51, s3_52, okF, okA, mcC_o, mcF_o, mcT_i, mcT_l, mcT_z, mcT_q, mcN_i, mcN_l, mcN_z, mcN_q, mcI_i, mcI_z, mcL_l, mcQ_q, hg_hp, hp_hp, List.getD_cons_zero, List.getD_cons_succ, List.set_cons_zero, List.set_cons_succ, List.length_cons, List.length_nil, Nat.reduceAdd, Nat.reduceLT, Nat.reduceEqDiff, Nat.lt_add_one, decide_true, decide_false, Bool.and_true, Bool.true_and, Bool.and_false, Bool.false_and, Bool.false_eq_true, if_true, if_false, ↓reduceIte, Option.bind_some, Option.bind_none, kont_v, kont_n, l, p1, AH_40, AH_42, r2, c2, w1, ne]
theorem c_isOpen {w : Nat → Nat} {k p P : Nat} (hk : k < 12) (hP1 : 1 ≤ P) (hP : P ≤ 3) (hp2 : p < P) (ww : ∀ j, j < k → ch j = nI (w j) ∧ w j < 2 ^ 31) : (ev X 3 0 [.ref 40, .int (nI k), .int (nI p), .float 0] [] (AH B mn (nI P) ls sd ch be cl)) = some (some (.int (if okr P k w p = true then 1 else 0)), (AH B mn (nI P) ls sd ch be cl)) := by
  have b0 : ((0 : Int32) &&& 1 = 0) = True := eq_true (by decide)
  have b1 : ((1 : Int32) &&& 1 = 1) = True := eq_true (by decide)
  unfold okr
  by_cases l : k < P
  · have l' := nI_lt l (by omega)
    rw [if_pos l]
    by_cases e : p = k
    · have e' : (nI p = nI k) = True := eq_true (by rw [e])
      rw [decide_eq_true e, if_pos rfl]
      simp only [s3_0, s3_1, s3_2, s3_5, s3_8, s3_9, s3_10, s3_13, s3_14, s3_17, s3_18, s3_19, s3_20, s3_21, s3_22, s3_25, s3_26, s3_27, s3_29, s3_30, s3_33, s3_34, s3_37, s3_38, s3_39, s3_40, s3_43, s3_44, s3_45, s3_48, s3_51, s3_52, okF, okA, mcC_o, mcF_o, mcT_i, mcT_l, mcT_z, mcT_q, mcN_i, mcN_l, mcN_z, mcN_q, mcI_i, mcI_z, mcL_l, mcQ_q, hg_hp, hp_hp, List.getD_cons_zero, List.getD_cons_succ, List.set_cons_zero, List.set_cons_succ, List.length_cons, List.length_nil, Nat.reduceAdd, Nat.reduceLT, Nat.reduceEqDiff, Nat.lt_add_one, decide_true, decide_false, Bool.and_true, Bool.true_and, Bool.and_false, Bool.false_and, Bool.false_eq_true, if_true, if_false, ↓reduceIte, Option.bind_some, Option.bind_none, kont_v, kont_n, AH_40, l', e', b1]
    · have e' : (nI p = nI k) = False := eq_false (fun z => e ((nI_eq (by omega) (by omega)).mp z))
      rw [decide_eq_false e, if_neg (by decide)]
      simp only [s3_0, s3_1, s3_2, s3_5, s3_8, s3_9, s3_10, s3_13, s3_14, s3_17, s3_18, s3_19, s3_20, s3_21, s3_22, s3_25, s3_26, s3_27, s3_29, s3_30, s3_33, s3_34, s3_37, s3_38, s3_39, s3_40, s3_43, s3_44, s3_45, s3_48, s3_51, s3_52, okF, okA, mcC_o, mcF_o, mcT_i, mcT_l, mcT_z, mcT_q, mcN_i, mcN_l, mcN_z, mcN_q, mcI_i, mcI_z, mcL_l, mcQ_q, hg_hp, hp_hp, List.getD_cons_zero, List.getD_cons_succ, List.set_cons_zero, List.set_cons_succ, List.length_cons, List.length_nil, Nat.reduceAdd, Nat.reduceLT, Nat.reduceEqDiff, Nat.lt_add_one, decide_true, decide_false, Bool.and_true, Bool.true_and, Bool.and_false, Bool.false_and, Bool.false_eq_true, if_true, if_false, ↓reduceIte, Option.bind_some, Option.bind_none, kont_v, kont_n, AH_40, l', e', b0]
  · have l' := nI_nlt (a := k) (b := P) (by omega) (by omega)
    have ro := rem_ok P (by omega) hP1 k hk
    have z : ¬ nI P = 0 := fun z => by have := (nI_eq (a := P) (b := 0) (by omega) (by omega)).mp z; omega
    rw [if_neg l]
    unfold okf
    by_cases c : ∀ j, j < k → k - k % P ≤ j → w j ≠ p
    · have lp := c_op_yes (X := X) (B := B) (mn := mn) (pl := nI P) (ls := ls) (sd := sd) (be := be) (cl := cl) (by omega) (by omega) ww (k - (k - k % P)) (k - k % P) (by have := Nat.mod_le k P; omega) c
      rw [decide_eq_true c, if_pos rfl]
      simp only [s3_0, s3_1, s3_2, s3_5, s3_8, s3_9, s3_10, s3_13, s3_14, s3_17, s3_18, s3_19, s3_20, s3_21, s3_22, s3_25, s3_26, s3_27, s3_29, s3_30, s3_33, s3_34, s3_37, s3_38, s3_39, s3_40, s3_43, s3_44, s3_45, s3_48, s3_51, s3_52, okF, okA, mcC_o, mcF_o, mcT_i, mcT_l, mcT_z, mcT_q, mcN_i, mcN_l, mcN_z, mcN_q, mcI_i, mcI_z, mcL_l, mcQ_q, hg_hp, hp_hp, List.getD_cons_zero, List.getD_cons_succ, List.set_cons_zero, List.set_cons_succ, List.length_cons, List.length_nil, Nat.reduceAdd, Nat.reduceLT, Nat.reduceEqDiff, Nat.lt_add_one, decide_true, decide_false, Bool.and_true, Bool.true_and, Bool.and_false, Bool.false_and, Bool.false_eq_true, if_true, if_false, ↓reduceIte, Option.bind_some, Option.bind_none, kont_v, kont_n, AH_40, l', z, ro, lp]
    · have c' : ∃ i, i < k ∧ k - k % P ≤ i ∧ w i = p := Classical.byContradiction (fun hn => c (fun j h1 h2 h3 => hn ⟨j, h1, h2, h3⟩))
      have lp := c_op_no (X := X) (B := B) (mn := mn) (pl := nI P) (ls := ls) (sd := sd) (be := be) (cl := cl) (by omega) (by omega) ww (k - (k - k % P)) (k - k % P) (by have := Nat.mod_le k P; omega) c'
      rw [decide_eq_false c, if_neg (by decide)]
      simp only [s3_0, s3_1, s3_2, s3_5, s3_8, s3_9, s3_10, s3_13, s3_14, s3_17, s3_18, s3_19, s3_20, s3_21, s3_22, s3_25, s3_26, s3_27, s3_29, s3_30, s3_33, s3_34, s3_37, s3_38, s3_39, s3_40, s3_43, s3_44, s3_45, s3_48, s3_51, s3_52, okF, okA, mcC_o, mcF_o, mcT_i, mcT_l, mcT_z, mcT_q, mcN_i, mcN_l, mcN_z, mcN_q, mcI_i, mcI_z, mcL_l, mcQ_q, hg_hp, hp_hp, List.getD_cons_zero, List.getD_cons_succ, List.set_cons_zero, List.set_cons_succ, List.length_cons, List.length_nil, Nat.reduceAdd, Nat.reduceLT, Nat.reduceEqDiff, Nat.lt_add_one, decide_true, decide_false, Bool.and_true, Bool.true_and, Bool.and_false, Bool.false_and, Bool.false_eq_true, if_true, if_false, ↓reduceIte, Option.bind_some, Option.bind_none, kont_v, kont_n, AH_40, l', z, ro, lp]
theorem c_co_lp {R : Nat} (h44 : hg B 44 = oB 10 [.int (nI 12), .int (nI 12), .ref 45, .int (nI R)]) {c : Nat → Nat → Nat} {w : Nat → Nat} {k p : Nat} (hk : k < 12) (hp2 : p < 4) (ww : ∀ j, j < k → ch j = nI (w j) ∧ w j < 2 ^ 31) (hc : ∀ j, j < k → cl (k * 12 + j) = nI (c k j)) : ∀ (d j : Nat), j + d = k → ev X 4 5 [.ref 40, .int (nI k), .int (nI p), .int (nI (cof c w k p j)), .int (nI j)] [] (AH B mn pl ls sd ch be cl) = some (some (.int (nI (cof c w k p k))), (AH B mn pl ls sd ch be cl)) := by
  intro d
  induction d with
  | zero =>
    intro j e
    have e : j = k := by omega
    have l := nI_nlt (Nat.le_refl k) (by omega)
    rw [e, s4_5]
    simp only [s4_0, s4_1, s4_2, s4_3, s4_7, s4_8, s4_11, s4_12, s4_15, s4_17, s4_18, s4_19, s4_22, s4_23, s4_24, s4_27, s4_28, s4_30, s4_33, s4_34, s4_35, s4_38, s4_41, s4_42, okF, okA, mcC_o, mcF_o, mcT_i, mcT_l, mcT_z, mcT_q, mcN_i, mcN_l, mcN_z, mcN_q, mcI_i, mcI_z, mcL_l, mcQ_q, hg_hp, hp_hp, List.getD_cons_zero, List.getD_cons_succ, List.set_cons_zero, List.set_cons_succ, List.length_cons, List.length_nil, Nat.reduceAdd, Nat.reduceLT, Nat.reduceEqDiff, Nat.lt_add_one, decide_true, decide_false, Bool.and_true, Bool.true_and, Bool.and_false, Bool.false_and, Bool.false_eq_true, if_true, if_false, ↓reduceIte, Option.bind_some, Option.bind_none, kont_v, kont_n, l]
  | succ d ih =>
    intro j e
    have l := nI_lt (show j < k by omega) (by omega)
    have p1 : nI j + 1 = nI (j + 1) := nI_add j 1
    have r2 : inR (nI j) 12 = true := inR_n (by omega) (by decide)
    have c2 : (nI j).toNatClampNeg = j := nI_clamp (by omega)
    have g := (AH_tab (mn := mn) (pl := pl) (ls := ls) (sd := sd) (ch := ch) (be := be) (cl := cl) h44).get (X := X) (r := k) (q := j) hk (by omega)
    rw [hc j (by omega)] at g
    obtain ⟨w1, w2⟩ := ww j (by omega)
    rw [← ih (j + 1) (by omega), cof, s4_5]
    by_cases q : w j = p
    · have eq : (nI (w j) = nI p) = True := eq_true (by rw [q])
      rw [if_pos q]
      simp only [s4_0, s4_1, s4_2, s4_3, s4_7, s4_8, s4_11, s4_12, s4_15, s4_17, s4_18, s4_19, s4_22, s4_23, s4_24, s4_27, s4_28, s4_30, s4_33, s4_34, s4_35, s4_38, s4_41, s4_42, okF, okA, mcC_o, mcF_o, mcT_i, mcT_l, mcT_z, mcT_q, mcN_i, mcN_l, mcN_z, mcN_q, mcI_i, mcI_z, mcL_l, mcQ_q, hg_hp, hp_hp, List.getD_cons_zero, List.getD_cons_succ, List.set_cons_zero, List.set_cons_succ, List.length_cons, List.length_nil, Nat.reduceAdd, Nat.reduceLT, Nat.reduceEqDiff, Nat.lt_add_one, decide_true, decide_false, Bool.and_true, Bool.true_and, Bool.and_false, Bool.false_and, Bool.false_eq_true, if_true, if_false, ↓reduceIte, Option.bind_some, Option.bind_none, kont_v, kont_n, l, p1, AH_40, AH_42, AH_44, h44, r2, c2, w1, eq, g, nI_add]
    · have ne : (nI (w j) = nI p) = False := eq_false (fun z => q ((nI_eq w2 (by omega)).mp z))
      rw [if_neg q, show cof c w k p j + 0 = cof c w k p j from rfl]
      simp only [s4_0, s4_1, s4_2, s4_3, s4_7, s4_8, s4_11, s4_12, s4_15, s4_17, s4_18, s4_19, s4_22, s4_23, s4_24, s4_27, s4_28, s4_30, s4_33, s4_34, s4_35, s4_38, s4_41, s4_42, okF, okA, mcC_o, mcF_o, mcT_i, mcT_l, mcT_z, mcT_q, mcN_i, mcN_l, mcN_z, mcN_q, mcI_i, mcI_z, mcL_l, mcQ_q, hg_hp, hp_hp, List.getD_cons_zero, List.getD_cons_succ, List.set_cons_zero, List.set_cons_succ, List.length_cons, List.length_nil, Nat.reduceAdd, Nat.reduceLT, Nat.reduceEqDiff, Nat.lt_add_one, decide_true, decide_false, Bool.and_true, Bool.true_and, Bool.and_false, Bool.false_and, Bool.false_eq_true, if_true, if_false, ↓reduceIte, Option.bind_some, Option.bind_none, kont_v, kont_n, l, p1, AH_40, AH_42, r2, c2, w1, ne]
theorem c_costOf {R : Nat} (h44 : hg B 44 = oB 10 [.int (nI 12), .int (nI 12), .ref 45, .int (nI R)]) {c : Nat → Nat → Nat} {w : Nat → Nat} {k p : Nat} (hk : k < 12) (hp2 : p < 4) (ww : ∀ j, j < k → ch j = nI (w j) ∧ w j < 2 ^ 31) (hc : ∀ j, j < k → cl (k * 12 + j) = nI (c k j)) : (ev X 4 0 [.ref 40, .int (nI k), .int (nI p), .float 0, .float 0] [] (AH B mn pl ls sd ch be cl)) = some (some (.int (nI (cof c w k p k))), (AH B mn pl ls sd ch be cl)) := by
  have lp := c_co_lp (X := X) (mn := mn) (pl := pl) (ls := ls) (sd := sd) (be := be) (p := p) h44 hk hp2 ww hc k 0 (by omega)
  rw [show cof c w k p 0 = 0 from rfl, nI_0] at lp
  simp only [s4_0, s4_1, s4_2, s4_3, s4_7, s4_8, s4_11, s4_12, s4_15, s4_17, s4_18, s4_19, s4_22, s4_23, s4_24, s4_27, s4_28, s4_30, s4_33, s4_34, s4_35, s4_38, s4_41, s4_42, okF, okA, mcC_o, mcF_o, mcT_i, mcT_l, mcT_z, mcT_q, mcN_i, mcN_l, mcN_z, mcN_q, mcI_i, mcI_z, mcL_l, mcQ_q, hg_hp, hp_hp, List.getD_cons_zero, List.getD_cons_succ, List.set_cons_zero, List.set_cons_succ, List.length_cons, List.length_nil, Nat.reduceAdd, Nat.reduceLT, Nat.reduceEqDiff, Nat.lt_add_one, decide_true, decide_false, Bool.and_true, Bool.true_and, Bool.and_false, Bool.false_and, Bool.false_eq_true, if_true, if_false, ↓reduceIte, Option.bind_some, Option.bind_none, kont_v, kont_n, lp]
end APA
/-- the least of the class as a way -/
def ACL (n : Nat) (acc : WY) (ls : Int32) (be : Nat → Int32) : Prop := match acc with
  | none => ls = 1000000
  | some y => ls = nI y.1 ∧ y.1 < 1000000 ∧ ∀ i, i < n → be i = nI (y.2 i)
/-- what tryFrom of that depth does -/
def TF (X : MX) (B : MH) (P n : Nat) (c : Nat → Nat → Nat) (sd cl : Nat → Int32) (J k : Nat) : Prop := k ≤ n → ∀ (w : Nat → Nat) (acc : WY) (ch be : Nat → Int32) (ls : Int32), (∀ i, i < k → ch i = nI (w i) ∧ w i < 2 ^ 31) → ACL n acc ls be → ∃ ch' be' ls', ev X J 0 [.ref 40, .int (nI k), .int (nI (pcs c w k)), .float 0] [] (AH B (nI n) (nI P) ls sd ch be cl) = some (none, (AH B (nI n) (nI P) ls' sd ch' be' cl)) ∧ (∀ i, i < k → ch' i = nI (w i)) ∧ ACL n (cmb acc (bst P (okr P) (fun w => pcs c w n) (n - k) k w)) ls' be'
theorem TFL_done {P n : Nat} {c : Nat → Nat → Nat} {k : Nat} {w : Nat → Nat} {m : Nat} (hk : k + (m + 1) = n) : bst P (okr P) (fun w => pcs c w n) (n - k) k w = fol (fun p => if okr P k w p = true then bst P (okr P) (fun w => pcs c w n) (n - (k + 1)) (k + 1) (fu w k p) else none) P 0 := by
  rw [show n - k = m + 1 by omega, show n - (k + 1) = m by omega]
  rfl

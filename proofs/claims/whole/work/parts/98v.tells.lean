-- TELLS
theorem FM_vl {B B' : MH} {a b c d a' b' c' d' : Int32} {v v' : Int64} {s l s' l' : Nat → Int32} {x x' : LVS} (e : FMH B a b c d v s l x = FMH B' a' b' c' d' v' s' l' x') : v = v' := by
  have := congrArg (fun h => (mcF (hg h 23)).getD 12 .null) e
  rw [FM_23, FM_23] at this
  exact Value.long.inj this
theorem ri_inj {c c' : Int32} {H H' : MH} (e : (some (some (Value.int c), H) : Option (Option Value × MH)) = some (some (Value.int c'), H')) : c = c' ∧ H = H' := by
  have := Option.some.inj e
  have h1 := congrArg (fun p => p.1) this
  have h2 := congrArg (fun p => p.2) this
  exact ⟨Value.int.inj (Option.some.inj h1), h2⟩
theorem MO_sp {c : MC} {io wl pl sp wa se bc sv bq io' wl' pl' sp' wa' se' bc' sv' bq' : Int32} (h1 : c = oB 12 (MO io wl pl sp wa se bc sv bq)) (h2 : c = oB 12 (MO io' wl' pl' sp' wa' se' bc' sv' bq')) : sp = sp' := by
  rw [h1] at h2
  have := congrArg (fun c => (mcF c).getD 19 .null) h2
  exact Value.int.inj this
theorem iA_inj {n : Nat} {f g : Nat → Int32} (e : iA n f = iA n g) : f = g := congrArg mcI e
section TLS
variable {X : MX} {t : Nat} {h : MH} {D : LD} {S IM KP : Nat → Int32}
theorem tell_key (L : LG h 1 D) (F : FIX h) (N : RNG t D) (R : REL D S) {x : Nat} (hx : x < 4) {h' : MH} (F' : FIX h') (M' : MD h' S IM KP) : ∃ (code : Int32) (H1 H2 : MH), (ev X 24 0 [.ref 23, .int (nI x), .float 0, .float 0] [] (h)) = some (some (.int (code)), (H1)) ∧ COK h H1 ∧ LG H1 1 D ∧ (ev X 194 0 [.ref 55, .int (nI x), .float 0, .float 0, .float 0, .float 0, .float 0, .float 0, .float 0, .float 0] [] (h')) = some (some (.int (code)), (H2)) ∧ MOK h' H2 ∧ MD H2 S IM KP ∧ (code = -1 → ∀ (B : MH) (q A : Nat → Int32) (mm : Int32) (a : Nat), FIX B → LG B 1 D → hg B 31 = oB 6 [.ref 1, .ref 22, .ref 23, .ref 32, .ref 34, .ref 35, .ref 36, .int mm] → TAB B 32 33 16 6 16 A → (∀ i, i < 96 → A i = q i) → a < 16 → ∃ (vl : Int64) (H5 : MH), (ev X 69 0 [.ref 31, .int (nI x), .int (nI a)] [] (B)) = some (some (.long (vl)), (H5)) ∧ COK B H5 ∧ (∀ k, k < 23 ∨ 30 < k → hg H5 k = hg B k) ∧ ∀ (H3 : MH) (io wl pl sp wa se bc sv bq io2 wl2 pl2 wa2 se2 bc2 sv2 bq2 : Int32) (V0 : Nat → Int64), hg H2 55 = oB 12 (MO io2 wl2 pl2 sp wa2 se2 bc2 sv2 bq2) → hg H3 55 = oB 12 (MO io wl pl sp wa se bc sv bq) → hg H3 72 = hg H2 72 → hg H3 73 = hg H2 73 → hg H3 75 = lA 60 V0 → (∀ V l, (ev X 203 0 [.ref 55, .int (nI a), .int l] [] (hp H3 75 (lA 60 V))) = some (some (.long (nmF q (D.2.1 1) a l)), (hp H3 75 (lA 60 V)))) → ∃ V9, (ev X 202 0 [.ref 55, .int (nI a), .float 0, .float 0, .float 0, .float 0, .float 0, .float 0, .float 0] [] (H3)) = some (some (.long (vl)), (hp H3 75 (lA 60 V9)))) := by
  obtain ⟨len, dp, ft, wt, vl, sg, lt, y, id, -⟩ := FOOex F
  obtain ⟨Z, sp, wa, st, wj, W, id'⟩ := RMex F'
  obtain ⟨code, dp', ft', wt', len', vl', sg', x', sp', wa', st', wj', W', e1, e2, -⟩ := both_read (X := X) (B := h) L N R (h' := h') M'.1 hx (nm := nmL lt) (V0 := fun _ => 0) (len := len) (dp := dp) (ft := ft) (wt := wt) (vl := vl) (sg := sg) (lt := lt) (y := y) (fun l hl => by unfold nmL; rw [nI_clamp (by omega)]) (Z := Z) (sp := sp) (wa := wa) (st := st) (wj := wj) (W := W)
  rw [id] at e1
  rw [id'] at e2
  refine ⟨code, _, _, e1, FM_cok F, FM_lg L, e2, RM_mok F', RM_md M', fun hc B q A mm a FB LB h31 T hA ha => ?_⟩
  obtain ⟨lenB, dpB, ftB, wtB, vlB, sgB, ltB, yB, idB, -⟩ := FOOex FB
  have hnm : ∀ l, l < 7 → nmF q (D.2.1 1) a (nI l) = (ltu q (D.2.1 1) a ltB l).toInt64 := fun l hl => by rw [ltu_lts l hl]; exact nmF_lts l hl
  have run := fun V0 => both_read (X := X) (B := B) LB N R (h' := h') M'.1 hx (nm := nmF q (D.2.1 1) a) (V0 := V0) (len := lenB) (dp := dpB) (ft := ftB) (wt := wtB) (vl := vlB) (sg := sgB) (lt := ltu q (D.2.1 1) a ltB) (y := yB) hnm (Z := Z) (sp := sp) (wa := wa) (st := st) (wj := wj) (W := W)
  obtain ⟨c2, dp2, ft2, wt2, len2, vl2, sg2, x2, sp2, wa2, st2, wj2, W2, f1, -, -⟩ := run (fun _ => 0)
  have te := c_tellsOf (X := X) LB h31 T hA ha f1
  rw [idB] at te
  refine ⟨vl2, _, te, FM_cok FB, fun k hk => FM_o hk, fun H3 io wl pl sp9 wa9 se bc sv bq io2 wl2 pl2 wa8 se2 bc2 sv2 bq2 V0 k2 k3 k72 k73 k75 hn => ?_⟩
  obtain ⟨c3, dp3, ft3, wt3, len3, vl3, sg3, x3, sp3, wa3, st3, wj3, W3, g1, g2, g3⟩ := run V0
  rw [f1] at g1
  obtain ⟨cc, hh⟩ := ri_inj g1
  have vv := FM_vl hh
  rw [id', e2] at g2
  obtain ⟨cc2, hh2⟩ := ri_inj g2
  obtain ⟨ns, n1, n2, n3, n4⟩ := g3 (by rw [← cc2]; exact hc)
  rw [hh2] at k2 k72 k73
  have es := MO_sp k2 RM_55
  rw [RM_72] at k72
  rw [RM_73] at k73
  rw [es, n1] at k3
  have lp := m_te_lp (X := X) (H := H3) (Z9 := []) (nm := nmF q (D.2.1 1) a) (V0 := V0) (a := a) k3 k72 k73 n2 n4 hn ns 0 (.float 0) (.float 0) (.float 0) (.float 0) (.float 0) (by omega)
  rw [n3, ← vv] at lp
  have lp : ev X 202 4 [.ref 55, .int (nI a), .int 0, .int 0, .float 0, .float 0, .float 0, .float 0, .float 0] [] (hp H3 75 (lA 60 V0)) = _ := lp
  rw [hp_self k75] at lp
  refine ⟨(rpn (nmF q (D.2.1 1) a) st3 wj3 V0 ns).2, ?_⟩
  simp only [s202_0, s202_1, s202_2, s202_3, s202_5, s202_6, s202_9, s202_12, s202_13, s202_16, s202_17, s202_18, s202_20, s202_22, s202_25, s202_27, s202_28, s202_31, s202_32, s202_35, s202_36, s202_38, s202_41, s202_42, s202_45, s202_46, s202_47, s202_48, s202_51, s202_52, s202_53, s202_54, s202_57, s202_58, s202_59, s202_62, s202_63, s202_66, s202_69, s202_71, s202_72, s202_75, s202_76, s202_79, s202_80, s202_81, s202_82, s202_83, s202_86, s202_87, s202_88, s202_89, s202_90, s202_91, s202_92, s202_95, s202_98, s202_99, s202_102, s202_103, s202_104, s202_105, s202_106, s202_108, s202_109, s202_112, s202_113, s202_114, s202_116, s202_117, s202_120, s202_121, s202_122, s202_123, s202_125, s202_126, s202_129, s202_131, s202_133, s202_134, s202_137, s202_139, s202_140, s202_143, s202_145, s202_146, s202_147, s202_150, s202_151, s202_154, s202_156, s202_158, s202_159, s202_162, s202_164, s202_165, s202_168, s202_170, s202_172, s202_173, s202_176, s202_178, s202_180, s202_181, s202_182, s202_185, s202_188, s202_189, s202_192, s202_193, s202_194, okF, okA, mcC_o, mcF_o, mcT_i, mcT_l, mcT_z, mcT_q, mcN_i, mcN_l, mcN_z, mcN_q, mcI_i, mcI_z, mcL_l, mcQ_q, hg_hp, hp_hp, List.getD_cons_zero, List.getD_cons_succ, List.set_cons_zero, List.set_cons_succ, List.length_cons, List.length_nil, Nat.reduceAdd, Nat.reduceLT, Nat.reduceEqDiff, Nat.lt_add_one, decide_true, decide_false, Bool.and_true, Bool.true_and, Bool.and_false, Bool.false_and, Bool.false_eq_true, if_true, if_false, ↓reduceIte, Option.bind_some, Option.bind_none, kont_v, kont_n, lp]
/-- what the reference names, behind findPool -/
theorem named_pool (R : REL D S) {H H2 : MH} (F2 : FIX H2) (M2 : MD H2 S IM KP) {g : G8} {q : Nat → Int32} (hH : ∀ k, k < 70 → k ≠ 55 ∨ True → hg H k = hg (PH (GH H2 g) q) k) {a : Nat} (ha : a < 16) : ∀ V l, (ev X 203 0 [.ref 55, .int (nI a), .int l] [] (hp H 75 (lA 60 V))) = some (some (.long (nmF q (D.2.1 1) a l)), (hp H 75 (lA 60 V))) := fun V l => by
  obtain ⟨io, wl, pl, sp, wa, se, bc, sv, bq, h0⟩ := F2.c55
  have e : ∀ k, k < 70 → hg (hp H 75 (lA 60 V)) k = hg (PH (GH H2 g) q) k := fun k hk => by rw [hg_hp, if_neg (by omega)]; exact hH k hk (Or.inr trivial)
  have k55 : hg (hp H 75 (lA 60 V)) 55 = _ := (e 55 (by omega)).trans ((PH_off (by omega)).trans (GH_55' h0))
  have k56 : hg (hp H 75 (lA 60 V)) 56 = iA 16450 S := (e 56 (by omega)).trans ((PH_off (by omega)).trans ((GH_off (by decide) (by decide) (by decide) (by decide)).trans M2.1))
  exact m_named k55 k56 ((e 64 (by omega)).trans PH_64) ((e 65 (by omega)).trans PH_65) ((e 66 (by omega)).trans PH_66) ((e 67 (by omega)).trans PH_67) ((e 68 (by omega)).trans PH_68) ((e 69 (by omega)).trans PH_69) (fun f hf => g16_at hf) (fun f hf => g16_at hf) (fun f hf => g16_at hf) (fun f hf => g16_at hf) (fun f hf => g16_at hf) (fun f hf => g16_at hf) (seeds_m R) ha
theorem S_tells (I : INVD t h D S IM KP) {b p f : Int32} : SAME X t h 131 [.ref 0, .int b, .int p, .int f] 201 [.ref 55, .int b, .int p, .int f] := by
  have I' := I
  obtain ⟨L, F, M, R, N, G⟩ := I
  have T := lt4 L
  have h4 : D.1 4 = 4 := R.2.2.1
  have th := fun r => T.hs (X := X) (r := r)
  rw [h4] at th
  have one0 : ¬ (1 : Int32) = 0 := by decide
  obtain ⟨a23, b23, c23, d23, v23, e23⟩ := F.c23
  have ci := c_isInPool (X := X) L N (p := p) (f := f)
  have mi := m_isInPool (X := X) R L N (p := p) (f := f)
  rcases hs_case (n := 4) (by decide) b with w | ⟨w1, x, hx, rfl⟩
  · refine step_id I' (v := .long (-2000000000000000000)) ?_ (fun h' _ _ => ?_)
    · simp only [s131_0, s131_1, s131_4, s131_7, s131_8, s131_11, s131_14, s131_15, s131_18, s131_19, s131_20, s131_23, s131_26, s131_29, s131_30, s131_31, s131_34, s131_35, s131_38, s131_39, s131_42, s131_45, s131_46, s131_47, s131_50, s131_51, s131_52, s131_53, s131_56, okF, okA, mcC_o, mcF_o, mcT_i, mcT_l, mcT_z, mcT_q, mcN_i, mcN_l, mcN_z, mcN_q, mcI_i, mcI_z, mcL_l, mcQ_q, hg_hp, hp_hp, List.getD_cons_zero, List.getD_cons_succ, List.set_cons_zero, List.set_cons_succ, List.length_cons, List.length_nil, Nat.reduceAdd, Nat.reduceLT, Nat.reduceEqDiff, Nat.lt_add_one, decide_true, decide_false, Bool.and_true, Bool.true_and, Bool.and_false, Bool.false_and, Bool.false_eq_true, if_true, if_false, ↓reduceIte, Option.bind_some, Option.bind_none, kont_v, kont_n, F.c0, lgo L, T.1, th, w]
    · simp only [s201_0, s201_1, s201_4, s201_7, s201_8, s201_9, s201_10, s201_13, s201_16, s201_19, s201_20, s201_21, s201_22, s201_25, s201_26, s201_29, s201_32, s201_33, s201_34, s201_35, s201_38, s201_39, s201_40, s201_43, okF, okA, mcC_o, mcF_o, mcT_i, mcT_l, mcT_z, mcT_q, mcN_i, mcN_l, mcN_z, mcN_q, mcI_i, mcI_z, mcL_l, mcQ_q, hg_hp, hp_hp, List.getD_cons_zero, List.getD_cons_succ, List.set_cons_zero, List.set_cons_succ, List.length_cons, List.length_nil, Nat.reduceAdd, Nat.reduceLT, Nat.reduceEqDiff, Nat.lt_add_one, decide_true, decide_false, Bool.and_true, Bool.true_and, Bool.and_false, Bool.false_and, Bool.false_eq_true, if_true, if_false, ↓reduceIte, Option.bind_some, Option.bind_none, kont_v, kont_n, m_isText, w]
  rcases inp_01 (D := D) (p := p) (f := f) with g1 | g1
  · refine step_id I' (v := .long (-2000000000000000000)) ?_ (fun h' q0 q1 => ?_)
    · simp only [s131_0, s131_1, s131_4, s131_7, s131_8, s131_11, s131_14, s131_15, s131_18, s131_19, s131_20, s131_23, s131_26, s131_29, s131_30, s131_31, s131_34, s131_35, s131_38, s131_39, s131_42, s131_45, s131_46, s131_47, s131_50, s131_51, s131_52, s131_53, s131_56, okF, okA, mcC_o, mcF_o, mcT_i, mcT_l, mcT_z, mcT_q, mcN_i, mcN_l, mcN_z, mcN_q, mcI_i, mcI_z, mcL_l, mcQ_q, hg_hp, hp_hp, List.getD_cons_zero, List.getD_cons_succ, List.set_cons_zero, List.set_cons_succ, List.length_cons, List.length_nil, Nat.reduceAdd, Nat.reduceLT, Nat.reduceEqDiff, Nat.lt_add_one, decide_true, decide_false, Bool.and_true, Bool.true_and, Bool.and_false, Bool.false_and, Bool.false_eq_true, if_true, if_false, ↓reduceIte, Option.bind_some, Option.bind_none, kont_v, kont_n, F.c0, lgo L, T.1, th, w1, one0, ci, g1]
    · have e := mi h' q0 q1
      obtain ⟨io, wl, pl, sp, wa, se, bc, sv, bq, h0⟩ := q0
      simp only [s201_0, s201_1, s201_4, s201_7, s201_8, s201_9, s201_10, s201_13, s201_16, s201_19, s201_20, s201_21, s201_22, s201_25, s201_26, s201_29, s201_32, s201_33, s201_34, s201_35, s201_38, s201_39, s201_40, s201_43, okF, okA, mcC_o, mcF_o, mcT_i, mcT_l, mcT_z, mcT_q, mcN_i, mcN_l, mcN_z, mcN_q, mcI_i, mcI_z, mcL_l, mcQ_q, hg_hp, hp_hp, List.getD_cons_zero, List.getD_cons_succ, List.set_cons_zero, List.set_cons_succ, List.length_cons, List.length_nil, Nat.reduceAdd, Nat.reduceLT, Nat.reduceEqDiff, Nat.lt_add_one, decide_true, decide_false, Bool.and_true, Bool.true_and, Bool.and_false, Bool.false_and, Bool.false_eq_true, if_true, if_false, ↓reduceIte, Option.bind_some, Option.bind_none, kont_v, kont_n, h0, m_isText, w1, one0, e, g1]
  have hf : ∃ a, a < 16 ∧ f = nI a := by
    unfold inp mem at g1
    by_cases z : hs (D.1 3) p = 0
    · rw [if_pos z] at g1; exact absurd g1 (by decide)
    · rw [if_neg z] at g1
      rcases hs_case (n := D.1 1) (by have := (LBD L).2.1; omega) f with y | ⟨-, a, ha, rfl⟩
      · rw [if_pos y] at g1; exact absurd g1 (by decide)
      · exact ⟨a, by have := (LBD L).2.1; omega, rfl⟩
  obtain ⟨a, ha, rfl⟩ := hf
  have key := fun (h' : MH) (F' : FIX h') (M' : MD h' S IM KP) => tell_key (X := X) L F N R hx (h' := h') F' M'
  obtain ⟨code, H1, H2x, e1, K1, L1, -, -, -, ex1⟩ := key h F M
  have same : ∀ (h' : MH) (F' : FIX h') (M' : MD h' S IM KP), ∃ H2, (ev X 194 0 [.ref 55, .int (nI x), .float 0, .float 0, .float 0, .float 0, .float 0, .float 0, .float 0, .float 0] [] (h')) = some (some (.int (code)), (H2)) ∧ MOK h' H2 ∧ MD H2 S IM KP := fun h' F' M' => by
    obtain ⟨c', H1', H2, f1, -, -, f2, f3, f4, -⟩ := key h' F' M'
    rw [e1] at f1
    obtain ⟨z, -⟩ := ri_inj f1
    rw [← z] at f2
    exact ⟨H2, f2, f3, f4⟩
  by_cases hc : code = -1
  · have ec := eq_true hc
    obtain ⟨mm, h31⟩ := K1.1.c31
    have et := c_tally (X := X) (p := p) (w := -1) L1 K1.1 (BR.fb R.2.2.2.2)
    generalize hq : qtl (D.2.1 2) p (-1) (D.1 2) 0 qz = q at et
    have o31 : hg (SH H1 q) 31 = oB 6 [.ref 1, .ref 22, .ref 23, .ref 32, .ref 34, .ref 35, .ref 36, .int mm] := (SH_off (by decide) (by decide)).trans h31
    have KB := SH_COK (q := q) K1.1
    obtain ⟨vl, H5, t1, t2, t3, -⟩ := ex1 hc (SH H1 q) q _ mm a KB.1 (SH_lg L1) o31 SH_tab (fun i hi => g96_at hi) ha
    have K5 := K1.trans (KB.trans t2)
    have L5 : LG H5 1 D := (SH_lg L1).same (fun k k1 k2 => t3 k (by omega))
    have k31 : hg H1 31 = _ := h31
    have K0 : hg H1 0 = hg H1 0 := rfl
    obtain ⟨b1, b2, b3, b4, b5, f23⟩ := K1.1.c23
    refine step_ok I' (v := .long vl) ⟨H5, ?_, K5, L5⟩ (fun h' F' M' => ?_) R (N.mono (by omega))
    · simp only [s131_0, s131_1, s131_4, s131_7, s131_8, s131_11, s131_14, s131_15, s131_18, s131_19, s131_20, s131_23, s131_26, s131_29, s131_30, s131_31, s131_34, s131_35, s131_38, s131_39, s131_42, s131_45, s131_46, s131_47, s131_50, s131_51, s131_52, s131_53, s131_56, s68_0, s68_1, s68_2, s68_3, s68_6, s68_7, s68_8, s68_9, s68_12, okF, okA, mcC_o, mcF_o, mcT_i, mcT_l, mcT_z, mcT_q, mcN_i, mcN_l, mcN_z, mcN_q, mcI_i, mcI_z, mcL_l, mcQ_q, hg_hp, hp_hp, List.getD_cons_zero, List.getD_cons_succ, List.set_cons_zero, List.set_cons_succ, List.length_cons, List.length_nil, Nat.reduceAdd, Nat.reduceLT, Nat.reduceEqDiff, Nat.lt_add_one, decide_true, decide_false, Bool.and_true, Bool.true_and, Bool.and_false, Bool.false_and, Bool.false_eq_true, if_true, if_false, ↓reduceIte, Option.bind_some, Option.bind_none, kont_v, kont_n, F.c0, e23, lgo L, T.1, th, w1, one0, ci, g1, e1, ec, K1.1.c0, h31, et, o31, t1]
    · obtain ⟨c', H1', H2, f1, -, -, f2, f3, f4, ex2⟩ := key h' F' M'
      rw [e1] at f1
      obtain ⟨z1, z2⟩ := ri_inj f1
      subst z1
      obtain ⟨vl2, H6, u1, -, -, u4⟩ := ex2 hc (SH H1 q) q _ mm a KB.1 (SH_lg L1) o31 SH_tab (fun i hi => g96_at hi) ha
      rw [t1] at u1
      have vv : vl = vl2 := Value.long.inj (Option.some.inj (congrArg (fun p => p.1) (Option.some.inj u1)))
      obtain ⟨g, ef⟩ := m_val (X := X) R L (p := p) f3.1 f4
      rw [hq] at ef
      have K3 := PG_MOK f3.1 (g := g) (q := q)
      obtain ⟨io2, wl2, pl2, sp2, wa2, se2, bc2, sv2, bq2, h2⟩ := f3.1.c55
      have h3 : hg (PH (GH H2 g) q) 55 = _ := (PH_off (by omega)).trans (GH_55' h2)
      obtain ⟨V0, h75⟩ := K3.1.c75
      obtain ⟨V9, u5⟩ := u4 (PH (GH H2 g) q) _ _ _ _ _ _ _ _ _ _ _ _ _ _ _ _ _ V0 h2 h3 ((PH_off (by omega)).trans (GH_off (by decide) (by decide) (by decide) (by decide))) ((PH_off (by omega)).trans (GH_off (by decide) (by decide) (by decide) (by decide))) h75 (named_pool R f3.1 f4 (g := g) (q := q) (fun k _ _ => rfl) ha)
      rw [← vv] at u5
      have e := mi h' F'.c55 M'.1
      obtain ⟨io, wl, pl, sp, wa, se, bc, sv, bq, h0⟩ := F'.c55
      refine ⟨hp (PH (GH H2 g) q) 75 (lA 60 V9), ?_, (f3.trans K3).put (k := 75) (by decide) ⟨V9, rfl⟩, ((f4.gh (g := g)).ph (q := q)).same (fun k k1 k2 => by rw [hg_hp, if_neg (by omega)])⟩
      simp only [s201_0, s201_1, s201_4, s201_7, s201_8, s201_9, s201_10, s201_13, s201_16, s201_19, s201_20, s201_21, s201_22, s201_25, s201_26, s201_29, s201_32, s201_33, s201_34, s201_35, s201_38, s201_39, s201_40, s201_43, okF, okA, mcC_o, mcF_o, mcT_i, mcT_l, mcT_z, mcT_q, mcN_i, mcN_l, mcN_z, mcN_q, mcI_i, mcI_z, mcL_l, mcQ_q, hg_hp, hp_hp, List.getD_cons_zero, List.getD_cons_succ, List.set_cons_zero, List.set_cons_succ, List.length_cons, List.length_nil, Nat.reduceAdd, Nat.reduceLT, Nat.reduceEqDiff, Nat.lt_add_one, decide_true, decide_false, Bool.and_true, Bool.true_and, Bool.and_false, Bool.false_and, Bool.false_eq_true, if_true, if_false, ↓reduceIte, Option.bind_some, Option.bind_none, kont_v, kont_n, h0, h2, h3, m_isText, w1, one0, e, g1, f2, ec, ef, u5]
  · have ec := eq_false hc
    refine step_ok I' (v := .long (-3000000000000000000)) ⟨H1, ?_, K1, L1⟩ (fun h' F' M' => ?_) R (N.mono (by omega))
    · simp only [s131_0, s131_1, s131_4, s131_7, s131_8, s131_11, s131_14, s131_15, s131_18, s131_19, s131_20, s131_23, s131_26, s131_29, s131_30, s131_31, s131_34, s131_35, s131_38, s131_39, s131_42, s131_45, s131_46, s131_47, s131_50, s131_51, s131_52, s131_53, s131_56, okF, okA, mcC_o, mcF_o, mcT_i, mcT_l, mcT_z, mcT_q, mcN_i, mcN_l, mcN_z, mcN_q, mcI_i, mcI_z, mcL_l, mcQ_q, hg_hp, hp_hp, List.getD_cons_zero, List.getD_cons_succ, List.set_cons_zero, List.set_cons_succ, List.length_cons, List.length_nil, Nat.reduceAdd, Nat.reduceLT, Nat.reduceEqDiff, Nat.lt_add_one, decide_true, decide_false, Bool.and_true, Bool.true_and, Bool.and_false, Bool.false_and, Bool.false_eq_true, if_true, if_false, ↓reduceIte, Option.bind_some, Option.bind_none, kont_v, kont_n, F.c0, e23, lgo L, T.1, th, w1, one0, ci, g1, e1, ec]
    · obtain ⟨H2, f2, f3, f4⟩ := same h' F' M'
      have e := mi h' F'.c55 M'.1
      obtain ⟨io, wl, pl, sp, wa, se, bc, sv, bq, h0⟩ := F'.c55
      refine ⟨H2, ?_, f3, f4⟩
      simp only [s201_0, s201_1, s201_4, s201_7, s201_8, s201_9, s201_10, s201_13, s201_16, s201_19, s201_20, s201_21, s201_22, s201_25, s201_26, s201_29, s201_32, s201_33, s201_34, s201_35, s201_38, s201_39, s201_40, s201_43, okF, okA, mcC_o, mcF_o, mcT_i, mcT_l, mcT_z, mcT_q, mcN_i, mcN_l, mcN_z, mcN_q, mcI_i, mcI_z, mcL_l, mcQ_q, hg_hp, hp_hp, List.getD_cons_zero, List.getD_cons_succ, List.set_cons_zero, List.set_cons_succ, List.length_cons, List.length_nil, Nat.reduceAdd, Nat.reduceLT, Nat.reduceEqDiff, Nat.lt_add_one, decide_true, decide_false, Bool.and_true, Bool.true_and, Bool.and_false, Bool.false_and, Bool.false_eq_true, if_true, if_false, ↓reduceIte, Option.bind_some, Option.bind_none, kont_v, kont_n, h0, m_isText, w1, one0, e, g1, f2, ec]
end TLS

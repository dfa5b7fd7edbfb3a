-- APART 6: apart
section AP6
variable {X : MX} {t : Nat} {h B : MH} {D : LD} {S IM KP : Nat → Int32}
theorem m_findAp (R : REL D S) (F : FIX h) (M : MD h S IM KP) {m P n : Nat} {sq : Nat → Int32} {sd : Nat → Nat} (hm : m < 2 ^ 16) (hn0 : pcn 32 m = n) (hn : n ≤ 12) (hn1 : 1 ≤ n) (hP1 : 1 ≤ P) (hP : P ≤ 3) (hs : ∀ i, i < n → sq i = nI (sd i) ∧ sd i < 16 ∧ bit m (sd i) = 1) (hq : ∃ s0, sq = (SEE D m s0).2) : ∃ (B : MH) (Z : Nat → Int32) (bc : Int32) (w v sq' : Nat → Int32), (ev X 210 0 [.ref 55, .int (nI m), .int (nI P), .float 0, .float 0] [] (h)) = some (none, (PWH B Z bc w v)) ∧ hg B 77 = iA 16 sq' ∧ (∀ i, i < n → sq' i = sq i) ∧ MOK h (PWH B Z bc w v) ∧ MD (PWH B Z bc w v) S IM KP ∧ ACC n (apw D sd P n) bc v := by
  obtain ⟨s0, hq⟩ := hq
  obtain ⟨io, wl, pl, sp, wa, se, bc, sv, bq, h0⟩ := F.c55
  obtain ⟨s1, h77⟩ := F.c77
  obtain ⟨w0, h79⟩ := F.c79
  obtain ⟨v0, h80⟩ := F.c80
  have fs := m_findSeeds (X := X) h0 M.1 (seeds_m R) hm h77
  obtain ⟨c1, c2⟩ := rk_congr (ah := sdv (D.2.1 1)) (m := m) 16 0 0 s0 s1 (fun i hi => absurd hi (by omega))
  have num : ∀ s, (rk (sdv (D.2.1 1)) m 16 0 (0, s)).1 = n := fun s => by
    rw [rk_num 16 0 0 s rfl, ← hn0]
    exact (pcn_more 16 16 m hm).symm
  rw [num s0] at c2
  rw [num s1] at fs
  have c2 : ∀ i, i < n → (SEE D m s0).2 i = (rk (sdv (D.2.1 1)) m 16 0 (0, s1)).2 i := c2
  rw [← hq] at c2
  generalize (rk (sdv (D.2.1 1)) m 16 0 (0, s1)).2 = sq' at c2 fs
  have b55 := SR_55 (n := n) (a := sq') h0
  have b56 : hg (SR h n sq') 56 = iA 16450 S := (SR_off (by decide) (by decide)).trans M.1
  have b77 : hg (SR h n sq') 77 = iA 16 sq' := SR_77
  have b79 : hg (SR h n sq') 79 = iA 12 w0 := (SR_off (by decide) (by decide)).trans h79
  have b80 : hg (SR h n sq') 80 = iA 12 v0 := (SR_off (by decide) (by decide)).trans h80
  obtain ⟨Z, z5, b55'⟩ : ∃ Z : Nat → Int32, Z 5 = nI n ∧ hg (SR h n sq') 55 = oB 12 (MO (Z 0) (Z 1) (Z 2) (Z 3) (Z 4) (Z 5) bc (Z 6) (Z 7)) := ⟨fun i => match i with
    | 0 => io
    | 1 => wl
    | 2 => pl
    | 3 => sp
    | 4 => wa
    | 5 => nI n
    | 6 => sv
    | _ => bq, rfl, b55⟩
  have K := SR_MOK (n := n) (a := sq') F
  have M1 := M.sr (n := n) (a := sq')
  generalize SR h n sq' = B at fs b55' b56 b77 b79 b80 K M1
  have id := PWH_id b55' b79 b80
  have fs : (ev X 206 0 [.ref 55, .int (nI m), .float 0, .float 0] [] (h)) = some (none, (PWH B Z bc w0 v0)) := by rw [id]; exact fs
  obtain ⟨w', v', bc', e1, A⟩ := m_arun (X := X) (B := B) (Z := Z) (sq := sq') (sd := sd) (m := m) (v := v0) (wa := upd w0 0 (-1)) b56 b77 z5 R hn hn1 (fun i hi => by rw [← c2 i hi]; exact ⟨(hs i hi).1, (hs i hi).2.1⟩) hP1 hP upd_eq rfl
  refine ⟨B, Z, bc', w', v', sq', ?_, b77, fun i hi => (c2 i hi).symm, ((K.put (k := 55) (by decide) ⟨_, _, _, _, _, _, _, _, _, rfl⟩).put (k := 79) (by decide) ⟨w', rfl⟩).put (k := 80) (by decide) ⟨v', rfl⟩, M1.same (fun k h1 h2 => PWH_o (by omega) (by omega) (by omega)), A⟩
  have r0 : inR 0 12 = true := by decide
  have z0 : (0 : Int32).toNatClampNeg = 0 := by decide
  simp only [s210_0, s210_1, s210_2, s210_5, s210_6, s210_7, s210_10, s210_11, s210_12, s210_13, s210_16, s210_17, s210_18, s210_20, s210_23, s210_24, s210_27, s210_28, s210_29, s210_30, s210_31, s210_32, s210_33, s210_34, s210_37, s210_38, s210_39, s210_40, s210_43, s210_46, s210_49, s210_50, s210_51, s210_52, s210_55, s210_58, s210_59, s210_60, s210_61, s210_62, s210_65, s210_68, s210_71, s210_72, s210_75, s210_76, s210_77, s210_78, s210_81, s210_82, s210_85, s210_86, s210_89, s210_90, s210_93, s210_94, s210_97, s210_100, s210_101, s210_102, s210_105, s210_108, s210_109, s210_113, s210_114, s210_117, s210_120, s210_121, s210_124, s210_126, s210_127, s210_130, s210_132, s210_133, s210_134, s210_137, s210_140, s210_143, okF, okA, mcC_o, mcF_o, mcT_i, mcT_l, mcT_z, mcT_q, mcN_i, mcN_l, mcN_z, mcN_q, mcI_i, mcI_z, mcL_l, mcQ_q, hg_hp, hp_hp, List.getD_cons_zero, List.getD_cons_succ, List.set_cons_zero, List.set_cons_succ, List.length_cons, List.length_nil, Nat.reduceAdd, Nat.reduceLT, Nat.reduceEqDiff, Nat.lt_add_one, decide_true, decide_false, Bool.and_true, Bool.true_and, Bool.and_false, Bool.false_and, Bool.false_eq_true, if_true, if_false, ↓reduceIte, Option.bind_some, Option.bind_none, kont_v, kont_n, h0, fs, PWH_55, PWH_79, PWHp_55, PWHp_79, MO_len, MO_29, MOs_31, r0, z0, e1]
theorem AH_cok (F : FIX h) {mn pl ls : Int32} {sd ch be cl : Nat → Int32} : COK h (AH h mn pl ls sd ch be cl) := (((((COK.refl F).put (k := 40) (by decide) ⟨mn, pl, ls, rfl⟩).put (k := 41) (by decide) ⟨sd, rfl⟩).put (k := 42) (by decide) ⟨ch, rfl⟩).put (k := 43) (by decide) ⟨be, rfl⟩).put (k := 45) (by decide) ⟨cl, rfl⟩
theorem S_apart (I : INVD t h D S IM KP) {a p f : Int32} : SAME X t h 135 [.ref 0, .int a, .int p, .int f] 209 [.ref 55, .int a, .int p, .int f, .float 0] := by
  have I' := I
  obtain ⟨L, F, M, R, N, G⟩ := I
  obtain ⟨-, z1, -⟩ := RCC R
  obtain ⟨-, b1, b2, -⟩ := LBD L
  have p16 := pow16 b1
  obtain ⟨x40, y40, u40, e40⟩ := F.c40
  obtain ⟨v, ev1, hv⟩ := c_isSet (X := X) L (b := a) (lo := 2) (hi := 12) (lo' := 2) (hi' := 12) rfl rfl (by decide) (by decide) (by decide)
  have ma := fun h' (F' : FIX h') (M' : MD h' S IM KP) => m_all (X := X) F'.c55 M'.1 z1 b1
  rcases hv with ⟨rfl, m, hm, rfl, q1, q2⟩ | ⟨rfl, ns⟩
  · have wa_ := wi_all b1 hm
    have es := fun h' => m_sizeOf (X := X) (h := h') (m := m) (by omega)
    have sz : wi (nI (pcn 32 m)) 2 12 = 1 := by
      have := wi_nn (a := pcn 32 m) (b := 2) (c := 12) (by omega) (by omega) (by omega)
      rw [if_pos (by omega)] at this
      exact this
    by_cases wp : wi p 1 3 = 0
    · refine step_ok I' (v := .int (-2)) (CA.id F L ?_) (fun h' F' M' => MA.id F' M' ?_) R (N.mono (by omega))
      · simp only [s135_0, s135_1, s135_4, s135_5, s135_6, s135_8, s135_11, s135_14, s135_15, s135_16, s135_17, s135_20, s135_23, s135_24, s135_25, s135_28, s135_29, s135_32, s135_33, s135_34, s135_37, s135_40, s135_42, s135_43, s135_44, s135_47, s135_48, s135_49, s135_52, s135_53, s135_54, s135_57, s135_58, s135_61, s135_64, s135_67, s135_68, s135_71, s135_72, s135_75, okF, okA, mcC_o, mcF_o, mcT_i, mcT_l, mcT_z, mcT_q, mcN_i, mcN_l, mcN_z, mcN_q, mcI_i, mcI_z, mcL_l, mcQ_q, hg_hp, hp_hp, List.getD_cons_zero, List.getD_cons_succ, List.set_cons_zero, List.set_cons_succ, List.length_cons, List.length_nil, Nat.reduceAdd, Nat.reduceLT, Nat.reduceEqDiff, Nat.lt_add_one, decide_true, decide_false, Bool.and_true, Bool.true_and, Bool.and_false, Bool.false_and, Bool.false_eq_true, if_true, if_false, ↓reduceIte, Option.bind_some, Option.bind_none, kont_v, kont_n, F.c0, lgo L, ev1, one0, c_within, wp]
      · have ma := ma h' F' M'
        obtain ⟨io, wl, pl, sp, wa, se, bc, sv, bq, h0⟩ := F'.c55
        simp only [s209_0, s209_1, s209_2, s209_3, s209_6, s209_9, s209_12, s209_13, s209_16, s209_17, s209_19, s209_22, s209_25, s209_26, s209_27, s209_28, s209_31, s209_34, s209_35, s209_36, s209_39, s209_40, s209_41, s209_42, s209_45, s209_48, s209_49, s209_50, s209_51, s209_52, s209_53, s209_56, s209_58, s209_59, s209_60, s209_61, s209_62, s209_65, s209_66, s209_67, s209_70, s209_71, s209_74, s209_75, s209_76, s209_79, s209_82, s209_84, s209_85, s209_86, s209_89, s209_92, s209_95, s209_96, s209_99, s209_101, s209_102, okF, okA, mcC_o, mcF_o, mcT_i, mcT_l, mcT_z, mcT_q, mcN_i, mcN_l, mcN_z, mcN_q, mcI_i, mcI_z, mcL_l, mcQ_q, hg_hp, hp_hp, List.getD_cons_zero, List.getD_cons_succ, List.set_cons_zero, List.set_cons_succ, List.length_cons, List.length_nil, Nat.reduceAdd, Nat.reduceLT, Nat.reduceEqDiff, Nat.lt_add_one, decide_true, decide_false, Bool.and_true, Bool.true_and, Bool.and_false, Bool.false_and, Bool.false_eq_true, if_true, if_false, ↓reduceIte, Option.bind_some, Option.bind_none, kont_v, kont_n, h0, ma, m_in, wa_, es, sz, one0, wp]
    obtain ⟨w1, w2⟩ := wi_1 wp
    obtain ⟨P, hP1, hP, rfl⟩ := wit_n (a := 1) (b := 3) (by decide) w2 (by decide)
    obtain ⟨n, hn0⟩ : ∃ n, pcn 32 m = n := ⟨_, rfl⟩
    obtain ⟨sd, ls, sq, ch, be, cl, e1, hsd, hq, has, A1⟩ := c_make (X := X) L F hm hn0 (by omega) hP1 hP
    have main : ∀ (v : Int32) , (ev X 135 0 [.ref 0, .int (nI m), .int (nI P), .int f] [] (h)) = some (some (.int (v)), (AH h (nI n) (nI P) ls sq ch be cl)) → (∀ (h' B : MH) (Z : Nat → Int32) (bc : Int32) (w v' sq' : Nat → Int32), FIX h' → MD h' S IM KP → (ev X 210 0 [.ref 55, .int (nI m), .int (nI P), .float 0, .float 0] [] (h')) = some (none, (PWH B Z bc w v')) → hg B 77 = iA 16 sq' → (∀ i, i < n → sq' i = sq i) → ACC n (apw D sd P n) bc v' → (ev X 209 0 [.ref 55, .int (nI m), .int (nI P), .int f, .float 0] [] (h')) = some (some (.int (v)), (PWH B Z bc w v'))) → SAME X t h 135 [.ref 0, .int (nI m), .int (nI P), .int f] 209 [.ref 55, .int (nI m), .int (nI P), .int f, .float 0] := fun v ec em => by
      refine step_ok I' (v := .int v) ⟨_, ec, AH_cok F, AH_lg L⟩ (fun h' F' M' => ?_) R (N.mono (by omega))
      obtain ⟨B, Z, bc, w, v', sq', f1, f2, f3, f4, f5, f6⟩ := m_findAp (X := X) R F' M' (m := m) (P := P) (n := n) (sq := sq) (sd := sd) (by omega) hn0 (by omega) (by omega) hP1 hP hsd hq
      exact ⟨_, em h' B Z bc w v' sq' F' M' f1 f2 f3 f6, f4, f5⟩
    have some_ : apw D sd P n ≠ none := bst_ex hP1 hP n 0 (w99 0)
    generalize apw D sd P n = res at A1 main some_
    cases res with
    | none => exact absurd rfl some_
    | some y =>
      obtain ⟨a1, a2, a3⟩ := A1
      by_cases fn : f = -1
      · subst fn
        have m1 : ((-1 : Int32) = -1) = True := eq_true rfl
        refine main (nI y.1) ?_ (fun h' B Z bc w v' sq' F' M' f1 f2 f3 f6 => ?_)
        · subst a1
          simp only [s135_0, s135_1, s135_4, s135_5, s135_6, s135_8, s135_11, s135_14, s135_15, s135_16, s135_17, s135_20, s135_23, s135_24, s135_25, s135_28, s135_29, s135_32, s135_33, s135_34, s135_37, s135_40, s135_42, s135_43, s135_44, s135_47, s135_48, s135_49, s135_52, s135_53, s135_54, s135_57, s135_58, s135_61, s135_64, s135_67, s135_68, s135_71, s135_72, s135_75, s5_0, s5_1, s5_4, okF, okA, mcC_o, mcF_o, mcT_i, mcT_l, mcT_z, mcT_q, mcN_i, mcN_l, mcN_z, mcN_q, mcI_i, mcI_z, mcL_l, mcQ_q, hg_hp, hp_hp, List.getD_cons_zero, List.getD_cons_succ, List.set_cons_zero, List.set_cons_succ, List.length_cons, List.length_nil, Nat.reduceAdd, Nat.reduceLT, Nat.reduceEqDiff, Nat.lt_add_one, decide_true, decide_false, Bool.and_true, Bool.true_and, Bool.and_false, Bool.false_and, Bool.false_eq_true, if_true, if_false, ↓reduceIte, Option.bind_some, Option.bind_none, kont_v, kont_n, F.c0, lgo L, ev1, one0, c_within, w1, e40, e1, AH_o (show 0 < 40 ∨ 45 < 0 by omega), AH_40, m1]
        · obtain ⟨g1, g2, g3⟩ := f6
          subst g1
          have ma := ma h' F' M'
          obtain ⟨io, wl, pl, sp, wa, se, bc, sv, bq, h0⟩ := F'.c55
          simp only [s209_0, s209_1, s209_2, s209_3, s209_6, s209_9, s209_12, s209_13, s209_16, s209_17, s209_19, s209_22, s209_25, s209_26, s209_27, s209_28, s209_31, s209_34, s209_35, s209_36, s209_39, s209_40, s209_41, s209_42, s209_45, s209_48, s209_49, s209_50, s209_51, s209_52, s209_53, s209_56, s209_58, s209_59, s209_60, s209_61, s209_62, s209_65, s209_66, s209_67, s209_70, s209_71, s209_74, s209_75, s209_76, s209_79, s209_82, s209_84, s209_85, s209_86, s209_89, s209_92, s209_95, s209_96, s209_99, s209_101, s209_102, okF, okA, mcC_o, mcF_o, mcT_i, mcT_l, mcT_z, mcT_q, mcN_i, mcN_l, mcN_z, mcN_q, mcI_i, mcI_z, mcL_l, mcQ_q, hg_hp, hp_hp, List.getD_cons_zero, List.getD_cons_succ, List.set_cons_zero, List.set_cons_succ, List.length_cons, List.length_nil, Nat.reduceAdd, Nat.reduceLT, Nat.reduceEqDiff, Nat.lt_add_one, decide_true, decide_false, Bool.and_true, Bool.true_and, Bool.and_false, Bool.false_and, Bool.false_eq_true, if_true, if_false, ↓reduceIte, Option.bind_some, Option.bind_none, kont_v, kont_n, h0, ma, m_in, wa_, es, sz, one0, w1, m1, f1, PWH_55, MO_len, MO_31]
      · have m1 : (f = -1) = False := eq_false fn
        have im := c_isMember (X := X) L (m := m) (by omega) (f := f)
        have mi : ∀ h', FIX h' → MD h' S IM KP → (ev X 164 0 [.ref 55, .int 1, .int f] [] (h')) = some (some (.int (hs (D.1 1) f)), (h')) := fun h' F' M' => by
          obtain ⟨io, wl, pl, sp, wa, se, bc, sv, bq, h0⟩ := F'.c55
          rw [m_is (c' := 1) (c := 1) rfl h0 M'.1 (by decide), z1, wi_hs (by omega)]
        rcases hs_case (n := D.1 1) (by omega) f with g1 | ⟨g1, k, hk, rfl⟩
        · unfold mem at im
          rw [if_pos g1] at im
          rw [g1] at mi
          refine step_ok I' (v := .int (-2)) (CA.id F L ?_) (fun h' F' M' => MA.id F' M' ?_) R (N.mono (by omega))
          · simp only [s135_0, s135_1, s135_4, s135_5, s135_6, s135_8, s135_11, s135_14, s135_15, s135_16, s135_17, s135_20, s135_23, s135_24, s135_25, s135_28, s135_29, s135_32, s135_33, s135_34, s135_37, s135_40, s135_42, s135_43, s135_44, s135_47, s135_48, s135_49, s135_52, s135_53, s135_54, s135_57, s135_58, s135_61, s135_64, s135_67, s135_68, s135_71, s135_72, s135_75, okF, okA, mcC_o, mcF_o, mcT_i, mcT_l, mcT_z, mcT_q, mcN_i, mcN_l, mcN_z, mcN_q, mcI_i, mcI_z, mcL_l, mcQ_q, hg_hp, hp_hp, List.getD_cons_zero, List.getD_cons_succ, List.set_cons_zero, List.set_cons_succ, List.length_cons, List.length_nil, Nat.reduceAdd, Nat.reduceLT, Nat.reduceEqDiff, Nat.lt_add_one, decide_true, decide_false, Bool.and_true, Bool.true_and, Bool.and_false, Bool.false_and, Bool.false_eq_true, if_true, if_false, ↓reduceIte, Option.bind_some, Option.bind_none, kont_v, kont_n, F.c0, lgo L, ev1, one0, c_within, w1, m1, im]
          · have ma := ma h' F' M'
            have mi := mi h' F' M'
            obtain ⟨io, wl, pl, sp, wa, se, bc, sv, bq, h0⟩ := F'.c55
            simp only [s209_0, s209_1, s209_2, s209_3, s209_6, s209_9, s209_12, s209_13, s209_16, s209_17, s209_19, s209_22, s209_25, s209_26, s209_27, s209_28, s209_31, s209_34, s209_35, s209_36, s209_39, s209_40, s209_41, s209_42, s209_45, s209_48, s209_49, s209_50, s209_51, s209_52, s209_53, s209_56, s209_58, s209_59, s209_60, s209_61, s209_62, s209_65, s209_66, s209_67, s209_70, s209_71, s209_74, s209_75, s209_76, s209_79, s209_82, s209_84, s209_85, s209_86, s209_89, s209_92, s209_95, s209_96, s209_99, s209_101, s209_102, okF, okA, mcC_o, mcF_o, mcT_i, mcT_l, mcT_z, mcT_q, mcN_i, mcN_l, mcN_z, mcN_q, mcI_i, mcI_z, mcL_l, mcQ_q, hg_hp, hp_hp, List.getD_cons_zero, List.getD_cons_succ, List.set_cons_zero, List.set_cons_succ, List.length_cons, List.length_nil, Nat.reduceAdd, Nat.reduceLT, Nat.reduceEqDiff, Nat.lt_add_one, decide_true, decide_false, Bool.and_true, Bool.true_and, Bool.and_false, Bool.false_and, Bool.false_eq_true, if_true, if_false, ↓reduceIte, Option.bind_some, Option.bind_none, kont_v, kont_n, h0, ma, m_in, wa_, es, sz, one0, w1, m1, mi]
        · unfold mem at im
          rw [if_neg (by rw [g1]; exact one0), nI_clamp (by omega)] at im
          rw [g1] at mi
          have bt := nI_bit2 (m := m) (k := k) (by omega) (by omega)
          rcases bit_01 m k with qb | qb
          · rw [qb] at im bt
            have z0 : (nI 0 = (0 : Int32)) = True := eq_true rfl
            refine step_ok I' (v := .int (-2)) (CA.id F L ?_) (fun h' F' M' => MA.id F' M' ?_) R (N.mono (by omega))
            · simp only [s135_0, s135_1, s135_4, s135_5, s135_6, s135_8, s135_11, s135_14, s135_15, s135_16, s135_17, s135_20, s135_23, s135_24, s135_25, s135_28, s135_29, s135_32, s135_33, s135_34, s135_37, s135_40, s135_42, s135_43, s135_44, s135_47, s135_48, s135_49, s135_52, s135_53, s135_54, s135_57, s135_58, s135_61, s135_64, s135_67, s135_68, s135_71, s135_72, s135_75, okF, okA, mcC_o, mcF_o, mcT_i, mcT_l, mcT_z, mcT_q, mcN_i, mcN_l, mcN_z, mcN_q, mcI_i, mcI_z, mcL_l, mcQ_q, hg_hp, hp_hp, List.getD_cons_zero, List.getD_cons_succ, List.set_cons_zero, List.set_cons_succ, List.length_cons, List.length_nil, Nat.reduceAdd, Nat.reduceLT, Nat.reduceEqDiff, Nat.lt_add_one, decide_true, decide_false, Bool.and_true, Bool.true_and, Bool.and_false, Bool.false_and, Bool.false_eq_true, if_true, if_false, ↓reduceIte, Option.bind_some, Option.bind_none, kont_v, kont_n, F.c0, lgo L, ev1, one0, c_within, w1, m1, im, z0]
            · have ma := ma h' F' M'
              have mi := mi h' F' M'
              obtain ⟨io, wl, pl, sp, wa, se, bc, sv, bq, h0⟩ := F'.c55
              simp only [s209_0, s209_1, s209_2, s209_3, s209_6, s209_9, s209_12, s209_13, s209_16, s209_17, s209_19, s209_22, s209_25, s209_26, s209_27, s209_28, s209_31, s209_34, s209_35, s209_36, s209_39, s209_40, s209_41, s209_42, s209_45, s209_48, s209_49, s209_50, s209_51, s209_52, s209_53, s209_56, s209_58, s209_59, s209_60, s209_61, s209_62, s209_65, s209_66, s209_67, s209_70, s209_71, s209_74, s209_75, s209_76, s209_79, s209_82, s209_84, s209_85, s209_86, s209_89, s209_92, s209_95, s209_96, s209_99, s209_101, s209_102, okF, okA, mcC_o, mcF_o, mcT_i, mcT_l, mcT_z, mcT_q, mcN_i, mcN_l, mcN_z, mcN_q, mcI_i, mcI_z, mcL_l, mcQ_q, hg_hp, hp_hp, List.getD_cons_zero, List.getD_cons_succ, List.set_cons_zero, List.set_cons_succ, List.length_cons, List.length_nil, Nat.reduceAdd, Nat.reduceLT, Nat.reduceEqDiff, Nat.lt_add_one, decide_true, decide_false, Bool.and_true, Bool.true_and, Bool.and_false, Bool.false_and, Bool.false_eq_true, if_true, if_false, ↓reduceIte, Option.bind_some, Option.bind_none, kont_v, kont_n, h0, ma, m_in, wa_, es, sz, one0, w1, m1, mi, bt, z0]
          · rw [qb] at im bt
            have z0 : (nI 1 = (0 : Int32)) = False := eq_false (by decide)
            obtain ⟨j0, j1, j2, j3⟩ := least_ex n (has k (by omega) qb)
            have po := c_po_lp (X := X) (B := h) (pl := nI P) (ls := ls) (ch := ch) (be := be) (cl := cl) (by omega) j1 j2 j3 j0 0 (by omega)
            rw [nI_0, a3 j0 j1] at po
            refine main (nI (y.2 j0)) ?_ (fun h' B Z bc w v' sq' F' M' f1 f2 f3 f6 => ?_)
            · simp only [s135_0, s135_1, s135_4, s135_5, s135_6, s135_8, s135_11, s135_14, s135_15, s135_16, s135_17, s135_20, s135_23, s135_24, s135_25, s135_28, s135_29, s135_32, s135_33, s135_34, s135_37, s135_40, s135_42, s135_43, s135_44, s135_47, s135_48, s135_49, s135_52, s135_53, s135_54, s135_57, s135_58, s135_61, s135_64, s135_67, s135_68, s135_71, s135_72, s135_75, s6_0, s6_1, s6_3, s6_4, s6_7, s6_10, s6_11, s6_14, s6_15, s6_16, s6_17, s6_20, s6_21, s6_24, s6_25, s6_26, s6_27, s6_30, s6_33, s6_34, okF, okA, mcC_o, mcF_o, mcT_i, mcT_l, mcT_z, mcT_q, mcN_i, mcN_l, mcN_z, mcN_q, mcI_i, mcI_z, mcL_l, mcQ_q, hg_hp, hp_hp, List.getD_cons_zero, List.getD_cons_succ, List.set_cons_zero, List.set_cons_succ, List.length_cons, List.length_nil, Nat.reduceAdd, Nat.reduceLT, Nat.reduceEqDiff, Nat.lt_add_one, decide_true, decide_false, Bool.and_true, Bool.true_and, Bool.and_false, Bool.false_and, Bool.false_eq_true, if_true, if_false, ↓reduceIte, Option.bind_some, Option.bind_none, kont_v, kont_n, F.c0, lgo L, ev1, one0, c_within, w1, m1, im, z0, e40, e1, AH_o (show 0 < 40 ∨ 45 < 0 by omega), AH_40, po]
            · obtain ⟨g1', g2, g3⟩ := f6
              have ma := ma h' F' M'
              have mi := mi h' F' M'
              have lp := m_ap_lp (X := X) (B := B) (Z := Z) (bc := bc) (wa := w) (v := v') (a1 := .int (nI m)) (a2 := .int (nI P)) f2 (show j0 < 12 by omega) ((f3 j0 j1).trans j2) (fun i hi => by rw [f3 i (by omega)]; exact j3 i hi) j0 0 (by omega)
              rw [nI_0, g3 j0 j1] at lp
              obtain ⟨io, wl, pl, sp, wa, se, bc', sv, bq, h0⟩ := F'.c55
              simp only [s209_0, s209_1, s209_2, s209_3, s209_6, s209_9, s209_12, s209_13, s209_16, s209_17, s209_19, s209_22, s209_25, s209_26, s209_27, s209_28, s209_31, s209_34, s209_35, s209_36, s209_39, s209_40, s209_41, s209_42, s209_45, s209_48, s209_49, s209_50, s209_51, s209_52, s209_53, s209_56, s209_58, s209_59, s209_60, s209_61, s209_62, s209_65, s209_66, s209_67, s209_70, s209_71, s209_74, s209_75, s209_76, s209_79, s209_82, s209_84, s209_85, s209_86, s209_89, s209_92, s209_95, s209_96, s209_99, s209_101, s209_102, okF, okA, mcC_o, mcF_o, mcT_i, mcT_l, mcT_z, mcT_q, mcN_i, mcN_l, mcN_z, mcN_q, mcI_i, mcI_z, mcL_l, mcQ_q, hg_hp, hp_hp, List.getD_cons_zero, List.getD_cons_succ, List.set_cons_zero, List.set_cons_succ, List.length_cons, List.length_nil, Nat.reduceAdd, Nat.reduceLT, Nat.reduceEqDiff, Nat.lt_add_one, decide_true, decide_false, Bool.and_true, Bool.true_and, Bool.and_false, Bool.false_and, Bool.false_eq_true, if_true, if_false, ↓reduceIte, Option.bind_some, Option.bind_none, kont_v, kont_n, h0, ma, m_in, wa_, es, sz, one0, w1, m1, mi, bt, z0, f1, lp]
  · refine step_ok I' (v := .int (-2)) (CA.id F L ?_) (fun h' F' M' => MA.id F' M' ?_) R (N.mono (by omega))
    · simp only [s135_0, s135_1, s135_4, s135_5, s135_6, s135_8, s135_11, s135_14, s135_15, s135_16, s135_17, s135_20, s135_23, s135_24, s135_25, s135_28, s135_29, s135_32, s135_33, s135_34, s135_37, s135_40, s135_42, s135_43, s135_44, s135_47, s135_48, s135_49, s135_52, s135_53, s135_54, s135_57, s135_58, s135_61, s135_64, s135_67, s135_68, s135_71, s135_72, s135_75, okF, okA, mcC_o, mcF_o, mcT_i, mcT_l, mcT_z, mcT_q, mcN_i, mcN_l, mcN_z, mcN_q, mcI_i, mcI_z, mcL_l, mcQ_q, hg_hp, hp_hp, List.getD_cons_zero, List.getD_cons_succ, List.set_cons_zero, List.set_cons_succ, List.length_cons, List.length_nil, Nat.reduceAdd, Nat.reduceLT, Nat.reduceEqDiff, Nat.lt_add_one, decide_true, decide_false, Bool.and_true, Bool.true_and, Bool.and_false, Bool.false_and, Bool.false_eq_true, if_true, if_false, ↓reduceIte, Option.bind_some, Option.bind_none, kont_v, kont_n, F.c0, lgo L, ev1]
    · have ma := ma h' F' M'
      obtain ⟨io, wl, pl, sp, wa, se, bc, sv, bq, h0⟩ := F'.c55
      rcases not_setp b1 ns with w | ⟨m, hm, rfl, nr⟩
      · simp only [s209_0, s209_1, s209_2, s209_3, s209_6, s209_9, s209_12, s209_13, s209_16, s209_17, s209_19, s209_22, s209_25, s209_26, s209_27, s209_28, s209_31, s209_34, s209_35, s209_36, s209_39, s209_40, s209_41, s209_42, s209_45, s209_48, s209_49, s209_50, s209_51, s209_52, s209_53, s209_56, s209_58, s209_59, s209_60, s209_61, s209_62, s209_65, s209_66, s209_67, s209_70, s209_71, s209_74, s209_75, s209_76, s209_79, s209_82, s209_84, s209_85, s209_86, s209_89, s209_92, s209_95, s209_96, s209_99, s209_101, s209_102, okF, okA, mcC_o, mcF_o, mcT_i, mcT_l, mcT_z, mcT_q, mcN_i, mcN_l, mcN_z, mcN_q, mcI_i, mcI_z, mcL_l, mcQ_q, hg_hp, hp_hp, List.getD_cons_zero, List.getD_cons_succ, List.set_cons_zero, List.set_cons_succ, List.length_cons, List.length_nil, Nat.reduceAdd, Nat.reduceLT, Nat.reduceEqDiff, Nat.lt_add_one, decide_true, decide_false, Bool.and_true, Bool.true_and, Bool.and_false, Bool.false_and, Bool.false_eq_true, if_true, if_false, ↓reduceIte, Option.bind_some, Option.bind_none, kont_v, kont_n, h0, ma, m_in, w]
      · have wa_ := wi_all b1 hm
        have es := m_sizeOf (X := X) (h := h') (m := m) (by omega)
        have pl := pcn_le 32 m
        have sz : wi (nI (pcn 32 m)) 2 12 = 0 := by
          have := wi_nn (a := pcn 32 m) (b := 2) (c := 12) (by omega) (by omega) (by omega)
          rw [if_neg nr] at this
          exact this
        simp only [s209_0, s209_1, s209_2, s209_3, s209_6, s209_9, s209_12, s209_13, s209_16, s209_17, s209_19, s209_22, s209_25, s209_26, s209_27, s209_28, s209_31, s209_34, s209_35, s209_36, s209_39, s209_40, s209_41, s209_42, s209_45, s209_48, s209_49, s209_50, s209_51, s209_52, s209_53, s209_56, s209_58, s209_59, s209_60, s209_61, s209_62, s209_65, s209_66, s209_67, s209_70, s209_71, s209_74, s209_75, s209_76, s209_79, s209_82, s209_84, s209_85, s209_86, s209_89, s209_92, s209_95, s209_96, s209_99, s209_101, s209_102, okF, okA, mcC_o, mcF_o, mcT_i, mcT_l, mcT_z, mcT_q, mcN_i, mcN_l, mcN_z, mcN_q, mcI_i, mcI_z, mcL_l, mcQ_q, hg_hp, hp_hp, List.getD_cons_zero, List.getD_cons_succ, List.set_cons_zero, List.set_cons_succ, List.length_cons, List.length_nil, Nat.reduceAdd, Nat.reduceLT, Nat.reduceEqDiff, Nat.lt_add_one, decide_true, decide_false, Bool.and_true, Bool.true_and, Bool.and_false, Bool.false_and, Bool.false_eq_true, if_true, if_false, ↓reduceIte, Option.bind_some, Option.bind_none, kont_v, kont_n, h0, ma, m_in, wa_, es, sz, one0]
end AP6

-- LADDERS: who goes on
def THR (f2 : Nat → Int32) (a b : Int32) (k : Nat) : Prop := (f2 (k * 17) = a ∧ f2 (k * 17 + 1) = b) ∨ (f2 (k * 17) = b ∧ f2 (k * 17 + 1) = a)
def WNC (f2 : Nat → Int32) (a b : Int32) (k : Nat) : Prop := THR f2 a b k ∧ f2 (k * 17 + 8) = 1 ∧ ¬ f2 (k * 17 + 14) = 1 ∧ f2 (k * 17 + 2) = -1
noncomputable def wnr (f2 : Nat → Int32) (a b d : Int32) : Nat → Int32
  | 0 => d
  | k + 1 => @ite _ (WNC f2 a b k) (Classical.propDecidable _) (if f2 (k * 17 + 9) = 0 then f2 (k * 17) else f2 (k * 17 + 1)) (wnr f2 a b d k)
theorem wnr_or {n : Nat} {f2 : Nat → Int32} {a b : Int32} (hF : FB n f2) : ∀ k, k ≤ n → (∀ d, wnr f2 a b d k = d) ∨ ∃ x, x < 16 ∧ ∀ d, wnr f2 a b d k = nI x
  | 0, _ => Or.inl (fun d => rfl)
  | k + 1, hk => by
    simp only [wnr]
    by_cases h : WNC f2 a b k
    · obtain ⟨x, y, ex, hx, ey, hy⟩ := hF k (by omega)
      refine Or.inr ?_
      by_cases h9 : f2 (k * 17 + 9) = 0
      · exact ⟨x, hx, fun d => by rw [if_pos h, if_pos h9, ex]⟩
      · exact ⟨y, hy, fun d => by rw [if_pos h, if_neg h9, ey]⟩
    · rcases wnr_or hF k (by omega) with z | ⟨x, hx, z⟩
      · exact Or.inl (fun d => by rw [if_neg h]; exact z d)
      · exact Or.inr ⟨x, hx, fun d => by rw [if_neg h]; exact z d⟩
noncomputable def gos (f2 : Nat → Int32) (n : Nat) (x y : Int32) : Int32 := if x = -1 then y else if y = -1 then x else if x = -5 ∨ y = -5 then -5 else wnr f2 x y (-5) n
theorem GH_GH {h : MH} (F : FIX h) {g g' : G8} : GH (GH h g) g' = GH h g' := by
  obtain ⟨io, wl, pl, sp, wa, se, bc, sv, bq, h0⟩ := F.c55
  obtain ⟨A1, q1⟩ := F.c61
  obtain ⟨A2, q2⟩ := F.c62
  obtain ⟨A3, q3⟩ := F.c63
  obtain ⟨t0, t1, y0, y1, r0, r1, i, w⟩ := g
  obtain ⟨s0, s1, z0, z1, u0, u1, j, v⟩ := g'
  refine hx_ext rfl rfl (fun k => ?_)
  by_cases k55 : k = 55
  · subst k55; rw [GH_55 (GH_55 h0), GH_55 h0]
  by_cases k61 : k = 61
  · subst k61; rw [GH_61 (GH_61 q1), GH_61 q1, g2_g2]
  by_cases k62 : k = 62
  · subst k62; rw [GH_62 (GH_62 q2), GH_62 q2, g2_g2]
  by_cases k63 : k = 63
  · subst k63; rw [GH_63 (GH_63 q3), GH_63 q3, g2_g2]
  rw [GH_off k55 k61 k62 k63, GH_off k55 k61 k62 k63, GH_off k55 k61 k62 k63]
theorem GH_hp {h : MH} {g : G8} {k : Nat} {c : MC} (h1 : k ≠ 55) (h2 : k ≠ 61) (h3 : k ≠ 62) (h4 : k ≠ 63) : GH (hp h k c) g = hp (GH h g) k c := by
  unfold GH
  refine hx_ext rfl rfl (fun j => ?_)
  simp only [hg_hp, if_neg (Ne.symm h1), if_neg (Ne.symm h2), if_neg (Ne.symm h3), if_neg (Ne.symm h4)]
  by_cases e : j = k
  · subst e
    rw [if_neg h1, if_neg h4, if_neg h3, if_neg h2, if_pos rfl, if_pos rfl]
  · rw [if_neg e, if_neg e]
theorem GH_selfE {h : MH} (F : FIX h) : ∃ g, GH h g = h := by
  obtain ⟨io, wl, pl, sp, wa, se, bc, sv, bq, h0⟩ := F.c55
  obtain ⟨A1, q1⟩ := F.c61
  obtain ⟨A2, q2⟩ := F.c62
  obtain ⟨A3, q3⟩ := F.c63
  exact ⟨_, GH_self h0 q1 q2 q3⟩
section GOE
variable {X : MX} {H : MH} {D : LD} {S IM KP : Nat → Int32}
theorem c_winnerOf_loop {a b : Int32} (L : LG H 1 D) (h22 : hg H 22 = oB 1 [.ref 6]) : ∀ (k : Nat) (a4 a5 a6 : Value), k ≤ D.1 2 → ev X 21 10 [.ref 22, .int a, .int b, .int (kv k), a4, a5, a6] [] H = some (some (.int (wnr (D.2.1 2) a b (-1) k)), (H))
  | 0, a4, a5, a6, hk => by
    have l : kv 0 < 0 := by decide
    rw [s21_10]
    simp only [s21_0, s21_1, s21_4, s21_7, s21_8, s21_9, s21_11, s21_14, s21_15, s21_18, s21_19, s21_20, s21_23, s21_25, s21_26, s21_29, s21_30, s21_31, s21_34, s21_36, s21_38, s21_39, s21_42, s21_44, s21_45, s21_48, s21_50, s21_51, s21_54, s21_56, s21_57, s21_60, s21_61, s21_64, s21_65, s21_67, s21_69, s21_72, s21_73, s21_74, s21_77, s21_80, s21_81, s21_84, s21_85, s21_86, s21_89, s21_90, s21_93, s21_94, s21_97, s21_98, s21_100, s21_103, s21_106, s21_108, s21_111, s21_113, s21_114, s21_117, s21_120, s21_121, okF, okA, mcC_o, mcF_o, mcT_i, mcT_l, mcT_z, mcT_q, mcN_i, mcN_l, mcN_z, mcN_q, mcI_i, mcI_z, mcL_l, mcQ_q, hg_hp, hp_hp, List.getD_cons_zero, List.getD_cons_succ, List.set_cons_zero, List.set_cons_succ, List.length_cons, List.length_nil, Nat.reduceAdd, Nat.reduceLT, Nat.reduceEqDiff, Nat.lt_add_one, decide_true, decide_false, Bool.and_true, Bool.true_and, Bool.and_false, Bool.false_and, Bool.false_eq_true, if_true, if_false, ↓reduceIte, Option.bind_some, Option.bind_none, kont_v, kont_n, l, wnr]
  | k + 1, a4, a5, a6, hk => by
    have b2 := (LBD L).2.2.1
    have hk120 : k < 120 := by omega
    have T := lt2 L
    have l : ¬ nI k < 0 := nI_pos (by omega)
    have ekv : kv (k + 1) = nI k := rfl
    have ek : nI k + -1 = kv k := by
      cases k with
      | zero => rfl
      | succ d => exact pk_m1 d
    have g0 := T.get' (X := X) (r := k) (q := 0) (q' := 0) rfl rfl hk120 (by decide)
    have g1 := T.get' (X := X) (r := k) (q := 1) (q' := 1) rfl rfl hk120 (by decide)
    have g2 := T.get' (X := X) (r := k) (q := 2) (q' := 2) rfl rfl hk120 (by decide)
    have g9 := T.get' (X := X) (r := k) (q := 9) (q' := 9) rfl rfl hk120 (by decide)
    rw [Nat.add_zero] at g0
    have st := c_standsH (X := X) T hk120 h22
    have ih := c_winnerOf_loop (a := a) (b := b) L h22 k
    have th : ∃ v : Int32, (ev X 21 10 [.ref 22, .int a, .int b, .int (nI k), a4, a5, a6] [] H = ev X 21 67 [.ref 22, .int a, .int b, .int (nI k), .int (D.2.1 2 (k * 17)), .int (D.2.1 2 (k * 17 + 1)), .int v] [] H) ∧ ((v = 1 ∧ THR (D.2.1 2) a b k) ∨ (v = 0 ∧ ¬ THR (D.2.1 2) a b k)) := by
      unfold THR
      rw [s21_10]
      by_cases p1 : D.2.1 2 (k * 17) = a
      · have p1' := eq_true p1
        by_cases p2 : D.2.1 2 (k * 17 + 1) = b
        · have p2' := eq_true p2
          exact ⟨1, by simp only [s21_0, s21_1, s21_4, s21_7, s21_8, s21_9, s21_11, s21_14, s21_15, s21_18, s21_19, s21_20, s21_23, s21_25, s21_26, s21_29, s21_30, s21_31, s21_34, s21_36, s21_38, s21_39, s21_42, s21_44, s21_45, s21_48, s21_50, s21_51, s21_54, s21_56, s21_57, s21_60, s21_61, s21_64, s21_65, s21_69, s21_72, s21_73, s21_74, s21_77, s21_80, s21_81, s21_84, s21_85, s21_86, s21_89, s21_90, s21_93, s21_94, s21_97, s21_98, s21_100, s21_103, s21_106, s21_108, s21_111, s21_113, s21_114, s21_117, s21_120, s21_121, okF, okA, mcC_o, mcF_o, mcT_i, mcT_l, mcT_z, mcT_q, mcN_i, mcN_l, mcN_z, mcN_q, mcI_i, mcI_z, mcL_l, mcQ_q, hg_hp, hp_hp, List.getD_cons_zero, List.getD_cons_succ, List.set_cons_zero, List.set_cons_succ, List.length_cons, List.length_nil, Nat.reduceAdd, Nat.reduceLT, Nat.reduceEqDiff, Nat.lt_add_one, decide_true, decide_false, Bool.and_true, Bool.true_and, Bool.and_false, Bool.false_and, Bool.false_eq_true, if_true, if_false, ↓reduceIte, Option.bind_some, Option.bind_none, kont_v, kont_n, h22, T.1, l, g0, g1, p1', p2'], Or.inl ⟨rfl, Or.inl ⟨p1, p2⟩⟩⟩
        · have p2' := eq_false p2
          by_cases p3 : D.2.1 2 (k * 17) = b
          · have p3' := eq_true p3
            by_cases p4 : D.2.1 2 (k * 17 + 1) = a
            · have p4' := eq_true p4
              exact ⟨1, by simp only [s21_0, s21_1, s21_4, s21_7, s21_8, s21_9, s21_11, s21_14, s21_15, s21_18, s21_19, s21_20, s21_23, s21_25, s21_26, s21_29, s21_30, s21_31, s21_34, s21_36, s21_38, s21_39, s21_42, s21_44, s21_45, s21_48, s21_50, s21_51, s21_54, s21_56, s21_57, s21_60, s21_61, s21_64, s21_65, s21_69, s21_72, s21_73, s21_74, s21_77, s21_80, s21_81, s21_84, s21_85, s21_86, s21_89, s21_90, s21_93, s21_94, s21_97, s21_98, s21_100, s21_103, s21_106, s21_108, s21_111, s21_113, s21_114, s21_117, s21_120, s21_121, okF, okA, mcC_o, mcF_o, mcT_i, mcT_l, mcT_z, mcT_q, mcN_i, mcN_l, mcN_z, mcN_q, mcI_i, mcI_z, mcL_l, mcQ_q, hg_hp, hp_hp, List.getD_cons_zero, List.getD_cons_succ, List.set_cons_zero, List.set_cons_succ, List.length_cons, List.length_nil, Nat.reduceAdd, Nat.reduceLT, Nat.reduceEqDiff, Nat.lt_add_one, decide_true, decide_false, Bool.and_true, Bool.true_and, Bool.and_false, Bool.false_and, Bool.false_eq_true, if_true, if_false, ↓reduceIte, Option.bind_some, Option.bind_none, kont_v, kont_n, h22, T.1, l, g0, g1, p1', p2', p3', p4'], Or.inl ⟨rfl, Or.inr ⟨p3, p4⟩⟩⟩
            · have p4' := eq_false p4
              exact ⟨0, by simp only [s21_0, s21_1, s21_4, s21_7, s21_8, s21_9, s21_11, s21_14, s21_15, s21_18, s21_19, s21_20, s21_23, s21_25, s21_26, s21_29, s21_30, s21_31, s21_34, s21_36, s21_38, s21_39, s21_42, s21_44, s21_45, s21_48, s21_50, s21_51, s21_54, s21_56, s21_57, s21_60, s21_61, s21_64, s21_65, s21_69, s21_72, s21_73, s21_74, s21_77, s21_80, s21_81, s21_84, s21_85, s21_86, s21_89, s21_90, s21_93, s21_94, s21_97, s21_98, s21_100, s21_103, s21_106, s21_108, s21_111, s21_113, s21_114, s21_117, s21_120, s21_121, okF, okA, mcC_o, mcF_o, mcT_i, mcT_l, mcT_z, mcT_q, mcN_i, mcN_l, mcN_z, mcN_q, mcI_i, mcI_z, mcL_l, mcQ_q, hg_hp, hp_hp, List.getD_cons_zero, List.getD_cons_succ, List.set_cons_zero, List.set_cons_succ, List.length_cons, List.length_nil, Nat.reduceAdd, Nat.reduceLT, Nat.reduceEqDiff, Nat.lt_add_one, decide_true, decide_false, Bool.and_true, Bool.true_and, Bool.and_false, Bool.false_and, Bool.false_eq_true, if_true, if_false, ↓reduceIte, Option.bind_some, Option.bind_none, kont_v, kont_n, h22, T.1, l, g0, g1, p1', p2', p3', p4'], Or.inr ⟨rfl, fun z => z.elim (fun y => p2 y.2) (fun y => p4 y.2)⟩⟩
          · have p3' := eq_false p3
            exact ⟨0, by simp only [s21_0, s21_1, s21_4, s21_7, s21_8, s21_9, s21_11, s21_14, s21_15, s21_18, s21_19, s21_20, s21_23, s21_25, s21_26, s21_29, s21_30, s21_31, s21_34, s21_36, s21_38, s21_39, s21_42, s21_44, s21_45, s21_48, s21_50, s21_51, s21_54, s21_56, s21_57, s21_60, s21_61, s21_64, s21_65, s21_69, s21_72, s21_73, s21_74, s21_77, s21_80, s21_81, s21_84, s21_85, s21_86, s21_89, s21_90, s21_93, s21_94, s21_97, s21_98, s21_100, s21_103, s21_106, s21_108, s21_111, s21_113, s21_114, s21_117, s21_120, s21_121, okF, okA, mcC_o, mcF_o, mcT_i, mcT_l, mcT_z, mcT_q, mcN_i, mcN_l, mcN_z, mcN_q, mcI_i, mcI_z, mcL_l, mcQ_q, hg_hp, hp_hp, List.getD_cons_zero, List.getD_cons_succ, List.set_cons_zero, List.set_cons_succ, List.length_cons, List.length_nil, Nat.reduceAdd, Nat.reduceLT, Nat.reduceEqDiff, Nat.lt_add_one, decide_true, decide_false, Bool.and_true, Bool.true_and, Bool.and_false, Bool.false_and, Bool.false_eq_true, if_true, if_false, ↓reduceIte, Option.bind_some, Option.bind_none, kont_v, kont_n, h22, T.1, l, g0, g1, p1', p2', p3'], Or.inr ⟨rfl, fun z => z.elim (fun y => p2 y.2) (fun y => p3 y.1)⟩⟩
      · have p1' := eq_false p1
        by_cases p3 : D.2.1 2 (k * 17) = b
        · have p3' := eq_true p3
          by_cases p4 : D.2.1 2 (k * 17 + 1) = a
          · have p4' := eq_true p4
            exact ⟨1, by simp only [s21_0, s21_1, s21_4, s21_7, s21_8, s21_9, s21_11, s21_14, s21_15, s21_18, s21_19, s21_20, s21_23, s21_25, s21_26, s21_29, s21_30, s21_31, s21_34, s21_36, s21_38, s21_39, s21_42, s21_44, s21_45, s21_48, s21_50, s21_51, s21_54, s21_56, s21_57, s21_60, s21_61, s21_64, s21_65, s21_69, s21_72, s21_73, s21_74, s21_77, s21_80, s21_81, s21_84, s21_85, s21_86, s21_89, s21_90, s21_93, s21_94, s21_97, s21_98, s21_100, s21_103, s21_106, s21_108, s21_111, s21_113, s21_114, s21_117, s21_120, s21_121, okF, okA, mcC_o, mcF_o, mcT_i, mcT_l, mcT_z, mcT_q, mcN_i, mcN_l, mcN_z, mcN_q, mcI_i, mcI_z, mcL_l, mcQ_q, hg_hp, hp_hp, List.getD_cons_zero, List.getD_cons_succ, List.set_cons_zero, List.set_cons_succ, List.length_cons, List.length_nil, Nat.reduceAdd, Nat.reduceLT, Nat.reduceEqDiff, Nat.lt_add_one, decide_true, decide_false, Bool.and_true, Bool.true_and, Bool.and_false, Bool.false_and, Bool.false_eq_true, if_true, if_false, ↓reduceIte, Option.bind_some, Option.bind_none, kont_v, kont_n, h22, T.1, l, g0, g1, p1', p3', p4'], Or.inl ⟨rfl, Or.inr ⟨p3, p4⟩⟩⟩
          · have p4' := eq_false p4
            exact ⟨0, by simp only [s21_0, s21_1, s21_4, s21_7, s21_8, s21_9, s21_11, s21_14, s21_15, s21_18, s21_19, s21_20, s21_23, s21_25, s21_26, s21_29, s21_30, s21_31, s21_34, s21_36, s21_38, s21_39, s21_42, s21_44, s21_45, s21_48, s21_50, s21_51, s21_54, s21_56, s21_57, s21_60, s21_61, s21_64, s21_65, s21_69, s21_72, s21_73, s21_74, s21_77, s21_80, s21_81, s21_84, s21_85, s21_86, s21_89, s21_90, s21_93, s21_94, s21_97, s21_98, s21_100, s21_103, s21_106, s21_108, s21_111, s21_113, s21_114, s21_117, s21_120, s21_121, okF, okA, mcC_o, mcF_o, mcT_i, mcT_l, mcT_z, mcT_q, mcN_i, mcN_l, mcN_z, mcN_q, mcI_i, mcI_z, mcL_l, mcQ_q, hg_hp, hp_hp, List.getD_cons_zero, List.getD_cons_succ, List.set_cons_zero, List.set_cons_succ, List.length_cons, List.length_nil, Nat.reduceAdd, Nat.reduceLT, Nat.reduceEqDiff, Nat.lt_add_one, decide_true, decide_false, Bool.and_true, Bool.true_and, Bool.and_false, Bool.false_and, Bool.false_eq_true, if_true, if_false, ↓reduceIte, Option.bind_some, Option.bind_none, kont_v, kont_n, h22, T.1, l, g0, g1, p1', p3', p4'], Or.inr ⟨rfl, fun z => z.elim (fun y => p1 y.1) (fun y => p4 y.2)⟩⟩
        · have p3' := eq_false p3
          exact ⟨0, by simp only [s21_0, s21_1, s21_4, s21_7, s21_8, s21_9, s21_11, s21_14, s21_15, s21_18, s21_19, s21_20, s21_23, s21_25, s21_26, s21_29, s21_30, s21_31, s21_34, s21_36, s21_38, s21_39, s21_42, s21_44, s21_45, s21_48, s21_50, s21_51, s21_54, s21_56, s21_57, s21_60, s21_61, s21_64, s21_65, s21_69, s21_72, s21_73, s21_74, s21_77, s21_80, s21_81, s21_84, s21_85, s21_86, s21_89, s21_90, s21_93, s21_94, s21_97, s21_98, s21_100, s21_103, s21_106, s21_108, s21_111, s21_113, s21_114, s21_117, s21_120, s21_121, okF, okA, mcC_o, mcF_o, mcT_i, mcT_l, mcT_z, mcT_q, mcN_i, mcN_l, mcN_z, mcN_q, mcI_i, mcI_z, mcL_l, mcQ_q, hg_hp, hp_hp, List.getD_cons_zero, List.getD_cons_succ, List.set_cons_zero, List.set_cons_succ, List.length_cons, List.length_nil, Nat.reduceAdd, Nat.reduceLT, Nat.reduceEqDiff, Nat.lt_add_one, decide_true, decide_false, Bool.and_true, Bool.true_and, Bool.and_false, Bool.false_and, Bool.false_eq_true, if_true, if_false, ↓reduceIte, Option.bind_some, Option.bind_none, kont_v, kont_n, h22, T.1, l, g0, g1, p1', p3'], Or.inr ⟨rfl, fun z => z.elim (fun y => p1 y.1) (fun y => p3 y.1)⟩⟩
    obtain ⟨v, e1, hv⟩ := th
    rw [ekv, e1]
    simp only [wnr]
    rcases hv with ⟨rfl, hv⟩ | ⟨rfl, hv⟩
    · by_cases k3 : D.2.1 2 (k * 17 + 8) = 1 ∧ ¬ D.2.1 2 (k * 17 + 14) = 1
      · rw [if_pos k3] at st
        by_cases k4 : D.2.1 2 (k * 17 + 2) = -1
        · have W : WNC (D.2.1 2) a b k := ⟨hv, k3.1, k3.2, k4⟩
          rw [if_pos W]
          by_cases k9 : D.2.1 2 (k * 17 + 9) = 0
          · simp only [s21_0, s21_1, s21_4, s21_7, s21_8, s21_9, s21_11, s21_14, s21_15, s21_18, s21_19, s21_20, s21_23, s21_25, s21_26, s21_29, s21_30, s21_31, s21_34, s21_36, s21_38, s21_39, s21_42, s21_44, s21_45, s21_48, s21_50, s21_51, s21_54, s21_56, s21_57, s21_60, s21_61, s21_64, s21_65, s21_67, s21_69, s21_72, s21_73, s21_74, s21_77, s21_80, s21_81, s21_84, s21_85, s21_86, s21_89, s21_90, s21_93, s21_94, s21_97, s21_98, s21_100, s21_103, s21_106, s21_108, s21_111, s21_113, s21_114, s21_117, s21_120, s21_121, okF, okA, mcC_o, mcF_o, mcT_i, mcT_l, mcT_z, mcT_q, mcN_i, mcN_l, mcN_z, mcN_q, mcI_i, mcI_z, mcL_l, mcQ_q, hg_hp, hp_hp, List.getD_cons_zero, List.getD_cons_succ, List.set_cons_zero, List.set_cons_succ, List.length_cons, List.length_nil, Nat.reduceAdd, Nat.reduceLT, Nat.reduceEqDiff, Nat.lt_add_one, decide_true, decide_false, Bool.and_true, Bool.true_and, Bool.and_false, Bool.false_and, Bool.false_eq_true, if_true, if_false, ↓reduceIte, Option.bind_some, Option.bind_none, kont_v, kont_n, h22, T.1, st, g2, g9, k4, k9, one0]
          · simp only [s21_0, s21_1, s21_4, s21_7, s21_8, s21_9, s21_11, s21_14, s21_15, s21_18, s21_19, s21_20, s21_23, s21_25, s21_26, s21_29, s21_30, s21_31, s21_34, s21_36, s21_38, s21_39, s21_42, s21_44, s21_45, s21_48, s21_50, s21_51, s21_54, s21_56, s21_57, s21_60, s21_61, s21_64, s21_65, s21_67, s21_69, s21_72, s21_73, s21_74, s21_77, s21_80, s21_81, s21_84, s21_85, s21_86, s21_89, s21_90, s21_93, s21_94, s21_97, s21_98, s21_100, s21_103, s21_106, s21_108, s21_111, s21_113, s21_114, s21_117, s21_120, s21_121, okF, okA, mcC_o, mcF_o, mcT_i, mcT_l, mcT_z, mcT_q, mcN_i, mcN_l, mcN_z, mcN_q, mcI_i, mcI_z, mcL_l, mcQ_q, hg_hp, hp_hp, List.getD_cons_zero, List.getD_cons_succ, List.set_cons_zero, List.set_cons_succ, List.length_cons, List.length_nil, Nat.reduceAdd, Nat.reduceLT, Nat.reduceEqDiff, Nat.lt_add_one, decide_true, decide_false, Bool.and_true, Bool.true_and, Bool.and_false, Bool.false_and, Bool.false_eq_true, if_true, if_false, ↓reduceIte, Option.bind_some, Option.bind_none, kont_v, kont_n, h22, T.1, st, g2, g9, k4, k9, one0]
        · have W : ¬ WNC (D.2.1 2) a b k := fun z => k4 z.2.2.2
          rw [if_neg W]
          simp only [s21_0, s21_1, s21_4, s21_7, s21_8, s21_9, s21_11, s21_14, s21_15, s21_18, s21_19, s21_20, s21_23, s21_25, s21_26, s21_29, s21_30, s21_31, s21_34, s21_36, s21_38, s21_39, s21_42, s21_44, s21_45, s21_48, s21_50, s21_51, s21_54, s21_56, s21_57, s21_60, s21_61, s21_64, s21_65, s21_67, s21_69, s21_72, s21_73, s21_74, s21_77, s21_80, s21_81, s21_84, s21_85, s21_86, s21_89, s21_90, s21_93, s21_94, s21_97, s21_98, s21_100, s21_103, s21_106, s21_108, s21_111, s21_113, s21_114, s21_117, s21_120, s21_121, okF, okA, mcC_o, mcF_o, mcT_i, mcT_l, mcT_z, mcT_q, mcN_i, mcN_l, mcN_z, mcN_q, mcI_i, mcI_z, mcL_l, mcQ_q, hg_hp, hp_hp, List.getD_cons_zero, List.getD_cons_succ, List.set_cons_zero, List.set_cons_succ, List.length_cons, List.length_nil, Nat.reduceAdd, Nat.reduceLT, Nat.reduceEqDiff, Nat.lt_add_one, decide_true, decide_false, Bool.and_true, Bool.true_and, Bool.and_false, Bool.false_and, Bool.false_eq_true, if_true, if_false, ↓reduceIte, Option.bind_some, Option.bind_none, kont_v, kont_n, h22, T.1, st, g2, k4, one0, ek]
          exact ih _ _ _ (by omega)
      · have W : ¬ WNC (D.2.1 2) a b k := fun z => k3 ⟨z.2.1, z.2.2.1⟩
        rw [if_neg k3] at st
        rw [if_neg W]
        simp only [s21_0, s21_1, s21_4, s21_7, s21_8, s21_9, s21_11, s21_14, s21_15, s21_18, s21_19, s21_20, s21_23, s21_25, s21_26, s21_29, s21_30, s21_31, s21_34, s21_36, s21_38, s21_39, s21_42, s21_44, s21_45, s21_48, s21_50, s21_51, s21_54, s21_56, s21_57, s21_60, s21_61, s21_64, s21_65, s21_67, s21_69, s21_72, s21_73, s21_74, s21_77, s21_80, s21_81, s21_84, s21_85, s21_86, s21_89, s21_90, s21_93, s21_94, s21_97, s21_98, s21_100, s21_103, s21_106, s21_108, s21_111, s21_113, s21_114, s21_117, s21_120, s21_121, okF, okA, mcC_o, mcF_o, mcT_i, mcT_l, mcT_z, mcT_q, mcN_i, mcN_l, mcN_z, mcN_q, mcI_i, mcI_z, mcL_l, mcQ_q, hg_hp, hp_hp, List.getD_cons_zero, List.getD_cons_succ, List.set_cons_zero, List.set_cons_succ, List.length_cons, List.length_nil, Nat.reduceAdd, Nat.reduceLT, Nat.reduceEqDiff, Nat.lt_add_one, decide_true, decide_false, Bool.and_true, Bool.true_and, Bool.and_false, Bool.false_and, Bool.false_eq_true, if_true, if_false, ↓reduceIte, Option.bind_some, Option.bind_none, kont_v, kont_n, h22, T.1, st, one0, ek]
        exact ih _ _ _ (by omega)
    · have W : ¬ WNC (D.2.1 2) a b k := fun z => hv z.1
      rw [if_neg W]
      simp only [s21_0, s21_1, s21_4, s21_7, s21_8, s21_9, s21_11, s21_14, s21_15, s21_18, s21_19, s21_20, s21_23, s21_25, s21_26, s21_29, s21_30, s21_31, s21_34, s21_36, s21_38, s21_39, s21_42, s21_44, s21_45, s21_48, s21_50, s21_51, s21_54, s21_56, s21_57, s21_60, s21_61, s21_64, s21_65, s21_67, s21_69, s21_72, s21_73, s21_74, s21_77, s21_80, s21_81, s21_84, s21_85, s21_86, s21_89, s21_90, s21_93, s21_94, s21_97, s21_98, s21_100, s21_103, s21_106, s21_108, s21_111, s21_113, s21_114, s21_117, s21_120, s21_121, okF, okA, mcC_o, mcF_o, mcT_i, mcT_l, mcT_z, mcT_q, mcN_i, mcN_l, mcN_z, mcN_q, mcI_i, mcI_z, mcL_l, mcQ_q, hg_hp, hp_hp, List.getD_cons_zero, List.getD_cons_succ, List.set_cons_zero, List.set_cons_succ, List.length_cons, List.length_nil, Nat.reduceAdd, Nat.reduceLT, Nat.reduceEqDiff, Nat.lt_add_one, decide_true, decide_false, Bool.and_true, Bool.true_and, Bool.and_false, Bool.false_and, Bool.false_eq_true, if_true, if_false, ↓reduceIte, Option.bind_some, Option.bind_none, kont_v, kont_n, h22, T.1, ek]
      exact ih _ _ _ (by omega)
theorem kv_pred {n : Nat} : nI n - 1 = kv n := by
  cases n with
  | zero => rfl
  | succ m => exact nI_pred m
theorem c_winnerOf {a b : Int32} (L : LG H 1 D) (h22 : hg H 22 = oB 1 [.ref 6]) : (ev X 21 0 [.ref 22, .int a, .int b, .float 0, .float 0, .float 0, .float 0] [] (H)) = some (some (.int (wnr (D.2.1 2) a b (-1) (D.1 2))), (H)) := by
  have lp := c_winnerOf_loop (X := X) (a := a) (b := b) L h22 (D.1 2) (.float 0) (.float 0) (.float 0) (Nat.le_refl _)
  simp only [s21_0, s21_1, s21_4, s21_7, s21_8, s21_9, s21_11, s21_14, s21_15, s21_18, s21_19, s21_20, s21_23, s21_25, s21_26, s21_29, s21_30, s21_31, s21_34, s21_36, s21_38, s21_39, s21_42, s21_44, s21_45, s21_48, s21_50, s21_51, s21_54, s21_56, s21_57, s21_60, s21_61, s21_64, s21_65, s21_67, s21_69, s21_72, s21_73, s21_74, s21_77, s21_80, s21_81, s21_84, s21_85, s21_86, s21_89, s21_90, s21_93, s21_94, s21_97, s21_98, s21_100, s21_103, s21_106, s21_108, s21_111, s21_113, s21_114, s21_117, s21_120, s21_121, okF, okA, mcC_o, mcF_o, mcT_i, mcT_l, mcT_z, mcT_q, mcN_i, mcN_l, mcN_z, mcN_q, mcI_i, mcI_z, mcL_l, mcQ_q, hg_hp, hp_hp, List.getD_cons_zero, List.getD_cons_succ, List.set_cons_zero, List.set_cons_succ, List.length_cons, List.length_nil, Nat.reduceAdd, Nat.reduceLT, Nat.reduceEqDiff, Nat.lt_add_one, decide_true, decide_false, Bool.and_true, Bool.true_and, Bool.and_false, Bool.false_and, Bool.false_eq_true, if_true, if_false, ↓reduceIte, Option.bind_some, Option.bind_none, kont_v, kont_n, h22, (lt2 L).1, kv_pred]
  exact lp
theorem c_goesOn {x y : Int32} (L : LG H 1 D) (h22 : hg H 22 = oB 1 [.ref 6]) (h37 : hg H 37 = oB 3 [.ref 1, .ref 22, .ref 38, .ref 39]) (hF : FB (D.1 2) (D.2.1 2)) : (ev X 43 0 [.ref 37, .int x, .int y, .float 0] [] (H)) = some (some (.int (gos (D.2.1 2) (D.1 2) x y)), (H)) := by
  have ew := c_winnerOf (X := X) (a := x) (b := y) L h22
  have n15 : ((-1 : Int32) = -5) = False := by decide
  have n51 : ((-5 : Int32) = -1) = False := by decide
  unfold gos
  by_cases x1 : x = -1
  · subst x1
    rw [if_pos rfl]
    by_cases y5 : y = -5
    · subst y5
      simp only [s43_0, s43_1, s43_3, s43_6, s43_7, s43_9, s43_12, s43_14, s43_15, s43_16, s43_17, s43_20, s43_21, s43_22, s43_25, s43_26, s43_27, s43_30, s43_31, s43_34, s43_35, s43_36, s43_37, s43_40, s43_41, s43_42, s43_45, s43_46, s43_47, s43_48, s43_51, s43_53, s43_56, s43_57, okF, okA, mcC_o, mcF_o, mcT_i, mcT_l, mcT_z, mcT_q, mcN_i, mcN_l, mcN_z, mcN_q, mcI_i, mcI_z, mcL_l, mcQ_q, hg_hp, hp_hp, List.getD_cons_zero, List.getD_cons_succ, List.set_cons_zero, List.set_cons_succ, List.length_cons, List.length_nil, Nat.reduceAdd, Nat.reduceLT, Nat.reduceEqDiff, Nat.lt_add_one, decide_true, decide_false, Bool.and_true, Bool.true_and, Bool.and_false, Bool.false_and, Bool.false_eq_true, if_true, if_false, ↓reduceIte, Option.bind_some, Option.bind_none, kont_v, kont_n, n15, n51, eq_self]
    · by_cases y1 : y = -1
      · subst y1
        simp only [s43_0, s43_1, s43_3, s43_6, s43_7, s43_9, s43_12, s43_14, s43_15, s43_16, s43_17, s43_20, s43_21, s43_22, s43_25, s43_26, s43_27, s43_30, s43_31, s43_34, s43_35, s43_36, s43_37, s43_40, s43_41, s43_42, s43_45, s43_46, s43_47, s43_48, s43_51, s43_53, s43_56, s43_57, okF, okA, mcC_o, mcF_o, mcT_i, mcT_l, mcT_z, mcT_q, mcN_i, mcN_l, mcN_z, mcN_q, mcI_i, mcI_z, mcL_l, mcQ_q, hg_hp, hp_hp, List.getD_cons_zero, List.getD_cons_succ, List.set_cons_zero, List.set_cons_succ, List.length_cons, List.length_nil, Nat.reduceAdd, Nat.reduceLT, Nat.reduceEqDiff, Nat.lt_add_one, decide_true, decide_false, Bool.and_true, Bool.true_and, Bool.and_false, Bool.false_and, Bool.false_eq_true, if_true, if_false, ↓reduceIte, Option.bind_some, Option.bind_none, kont_v, kont_n, n15, eq_self]
      · simp only [s43_0, s43_1, s43_3, s43_6, s43_7, s43_9, s43_12, s43_14, s43_15, s43_16, s43_17, s43_20, s43_21, s43_22, s43_25, s43_26, s43_27, s43_30, s43_31, s43_34, s43_35, s43_36, s43_37, s43_40, s43_41, s43_42, s43_45, s43_46, s43_47, s43_48, s43_51, s43_53, s43_56, s43_57, okF, okA, mcC_o, mcF_o, mcT_i, mcT_l, mcT_z, mcT_q, mcN_i, mcN_l, mcN_z, mcN_q, mcI_i, mcI_z, mcL_l, mcQ_q, hg_hp, hp_hp, List.getD_cons_zero, List.getD_cons_succ, List.set_cons_zero, List.set_cons_succ, List.length_cons, List.length_nil, Nat.reduceAdd, Nat.reduceLT, Nat.reduceEqDiff, Nat.lt_add_one, decide_true, decide_false, Bool.and_true, Bool.true_and, Bool.and_false, Bool.false_and, Bool.false_eq_true, if_true, if_false, ↓reduceIte, Option.bind_some, Option.bind_none, kont_v, kont_n, n15, y5, y1, eq_self]
  · rw [if_neg x1]
    by_cases y1 : y = -1
    · subst y1
      rw [if_pos rfl]
      by_cases x5 : x = -5
      · subst x5
        simp only [s43_0, s43_1, s43_3, s43_6, s43_7, s43_9, s43_12, s43_14, s43_15, s43_16, s43_17, s43_20, s43_21, s43_22, s43_25, s43_26, s43_27, s43_30, s43_31, s43_34, s43_35, s43_36, s43_37, s43_40, s43_41, s43_42, s43_45, s43_46, s43_47, s43_48, s43_51, s43_53, s43_56, s43_57, okF, okA, mcC_o, mcF_o, mcT_i, mcT_l, mcT_z, mcT_q, mcN_i, mcN_l, mcN_z, mcN_q, mcI_i, mcI_z, mcL_l, mcQ_q, hg_hp, hp_hp, List.getD_cons_zero, List.getD_cons_succ, List.set_cons_zero, List.set_cons_succ, List.length_cons, List.length_nil, Nat.reduceAdd, Nat.reduceLT, Nat.reduceEqDiff, Nat.lt_add_one, decide_true, decide_false, Bool.and_true, Bool.true_and, Bool.and_false, Bool.false_and, Bool.false_eq_true, if_true, if_false, ↓reduceIte, Option.bind_some, Option.bind_none, kont_v, kont_n, n15, n51, eq_self]
      · simp only [s43_0, s43_1, s43_3, s43_6, s43_7, s43_9, s43_12, s43_14, s43_15, s43_16, s43_17, s43_20, s43_21, s43_22, s43_25, s43_26, s43_27, s43_30, s43_31, s43_34, s43_35, s43_36, s43_37, s43_40, s43_41, s43_42, s43_45, s43_46, s43_47, s43_48, s43_51, s43_53, s43_56, s43_57, okF, okA, mcC_o, mcF_o, mcT_i, mcT_l, mcT_z, mcT_q, mcN_i, mcN_l, mcN_z, mcN_q, mcI_i, mcI_z, mcL_l, mcQ_q, hg_hp, hp_hp, List.getD_cons_zero, List.getD_cons_succ, List.set_cons_zero, List.set_cons_succ, List.length_cons, List.length_nil, Nat.reduceAdd, Nat.reduceLT, Nat.reduceEqDiff, Nat.lt_add_one, decide_true, decide_false, Bool.and_true, Bool.true_and, Bool.and_false, Bool.false_and, Bool.false_eq_true, if_true, if_false, ↓reduceIte, Option.bind_some, Option.bind_none, kont_v, kont_n, n15, x5, x1, eq_self]
    · rw [if_neg y1]
      by_cases x5 : x = -5
      · rw [if_pos (Or.inl x5)]
        subst x5
        simp only [s43_0, s43_1, s43_3, s43_6, s43_7, s43_9, s43_12, s43_14, s43_15, s43_16, s43_17, s43_20, s43_21, s43_22, s43_25, s43_26, s43_27, s43_30, s43_31, s43_34, s43_35, s43_36, s43_37, s43_40, s43_41, s43_42, s43_45, s43_46, s43_47, s43_48, s43_51, s43_53, s43_56, s43_57, okF, okA, mcC_o, mcF_o, mcT_i, mcT_l, mcT_z, mcT_q, mcN_i, mcN_l, mcN_z, mcN_q, mcI_i, mcI_z, mcL_l, mcQ_q, hg_hp, hp_hp, List.getD_cons_zero, List.getD_cons_succ, List.set_cons_zero, List.set_cons_succ, List.length_cons, List.length_nil, Nat.reduceAdd, Nat.reduceLT, Nat.reduceEqDiff, Nat.lt_add_one, decide_true, decide_false, Bool.and_true, Bool.true_and, Bool.and_false, Bool.false_and, Bool.false_eq_true, if_true, if_false, ↓reduceIte, Option.bind_some, Option.bind_none, kont_v, kont_n, n51, eq_self]
      · by_cases y5 : y = -5
        · rw [if_pos (Or.inr y5)]
          subst y5
          simp only [s43_0, s43_1, s43_3, s43_6, s43_7, s43_9, s43_12, s43_14, s43_15, s43_16, s43_17, s43_20, s43_21, s43_22, s43_25, s43_26, s43_27, s43_30, s43_31, s43_34, s43_35, s43_36, s43_37, s43_40, s43_41, s43_42, s43_45, s43_46, s43_47, s43_48, s43_51, s43_53, s43_56, s43_57, okF, okA, mcC_o, mcF_o, mcT_i, mcT_l, mcT_z, mcT_q, mcN_i, mcN_l, mcN_z, mcN_q, mcI_i, mcI_z, mcL_l, mcQ_q, hg_hp, hp_hp, List.getD_cons_zero, List.getD_cons_succ, List.set_cons_zero, List.set_cons_succ, List.length_cons, List.length_nil, Nat.reduceAdd, Nat.reduceLT, Nat.reduceEqDiff, Nat.lt_add_one, decide_true, decide_false, Bool.and_true, Bool.true_and, Bool.and_false, Bool.false_and, Bool.false_eq_true, if_true, if_false, ↓reduceIte, Option.bind_some, Option.bind_none, kont_v, kont_n, n51, x5, eq_self]
        · rw [if_neg (fun z => z.elim x5 y5)]
          rcases wnr_or (a := x) (b := y) hF (D.1 2) (Nat.le_refl _) with z | ⟨w, hw, z⟩
          · rw [z (-1)] at ew
            rw [z (-5)]
            simp only [s43_0, s43_1, s43_3, s43_6, s43_7, s43_9, s43_12, s43_14, s43_15, s43_16, s43_17, s43_20, s43_21, s43_22, s43_25, s43_26, s43_27, s43_30, s43_31, s43_34, s43_35, s43_36, s43_37, s43_40, s43_41, s43_42, s43_45, s43_46, s43_47, s43_48, s43_51, s43_53, s43_56, s43_57, okF, okA, mcC_o, mcF_o, mcT_i, mcT_l, mcT_z, mcT_q, mcN_i, mcN_l, mcN_z, mcN_q, mcI_i, mcI_z, mcL_l, mcQ_q, hg_hp, hp_hp, List.getD_cons_zero, List.getD_cons_succ, List.set_cons_zero, List.set_cons_succ, List.length_cons, List.length_nil, Nat.reduceAdd, Nat.reduceLT, Nat.reduceEqDiff, Nat.lt_add_one, decide_true, decide_false, Bool.and_true, Bool.true_and, Bool.and_false, Bool.false_and, Bool.false_eq_true, if_true, if_false, ↓reduceIte, Option.bind_some, Option.bind_none, kont_v, kont_n, h37, h22, x1, y1, x5, y5, ew, eq_self]
          · rw [z (-1)] at ew
            rw [z (-5)]
            have nw := nI_m1 (b := w) (by omega)
            simp only [s43_0, s43_1, s43_3, s43_6, s43_7, s43_9, s43_12, s43_14, s43_15, s43_16, s43_17, s43_20, s43_21, s43_22, s43_25, s43_26, s43_27, s43_30, s43_31, s43_34, s43_35, s43_36, s43_37, s43_40, s43_41, s43_42, s43_45, s43_46, s43_47, s43_48, s43_51, s43_53, s43_56, s43_57, okF, okA, mcC_o, mcF_o, mcT_i, mcT_l, mcT_z, mcT_q, mcN_i, mcN_l, mcN_z, mcN_q, mcI_i, mcI_z, mcL_l, mcQ_q, hg_hp, hp_hp, List.getD_cons_zero, List.getD_cons_succ, List.set_cons_zero, List.set_cons_succ, List.length_cons, List.length_nil, Nat.reduceAdd, Nat.reduceLT, Nat.reduceEqDiff, Nat.lt_add_one, decide_true, decide_false, Bool.and_true, Bool.true_and, Bool.and_false, Bool.false_and, Bool.false_eq_true, if_true, if_false, ↓reduceIte, Option.bind_some, Option.bind_none, kont_v, kont_n, h37, h22, x1, y1, x5, y5, ew, nw]
theorem m_goesOn_loop {n : Nat} {f : Nat → Int32} {a b : Int32} (hn : n ≤ 120) (hB : ∀ b, b < n → BR (tx S b) (rof17 f b)) (F : FIX H) (M : MD H S IM KP) : ∀ (k : Nat) (g : G8) (a4 : Value), k ≤ n → ∃ g', ev X 208 45 [.ref 55, .int a, .int b, .int (kv k), a4] [] (GH H g) = some (some (.int (wnr f a b (-5) k)), (GH H g'))
  | 0, g, a4, hk => by
    have l : kv 0 < 0 := by decide
    refine ⟨g, ?_⟩
    rw [s208_45]
    simp only [s208_0, s208_1, s208_2, s208_5, s208_6, s208_7, s208_10, s208_11, s208_12, s208_15, s208_16, s208_19, s208_20, s208_21, s208_22, s208_24, s208_27, s208_28, s208_30, s208_33, s208_35, s208_36, s208_37, s208_40, s208_41, s208_42, s208_43, s208_44, s208_46, s208_49, s208_50, s208_51, s208_52, s208_55, s208_56, s208_59, s208_60, s208_61, s208_62, s208_65, s208_66, s208_69, s208_70, s208_71, s208_72, s208_75, s208_76, s208_79, s208_80, s208_81, s208_82, s208_85, s208_86, s208_89, s208_90, s208_93, s208_94, s208_96, s208_98, s208_101, s208_102, s208_103, s208_104, s208_107, s208_108, s208_111, s208_112, s208_113, s208_115, s208_118, s208_121, s208_122, s208_123, s208_126, s208_127, s208_130, s208_133, s208_134, s208_135, s208_136, s208_139, s208_142, s208_143, s208_146, s208_149, s208_151, okF, okA, mcC_o, mcF_o, mcT_i, mcT_l, mcT_z, mcT_q, mcN_i, mcN_l, mcN_z, mcN_q, mcI_i, mcI_z, mcL_l, mcQ_q, hg_hp, hp_hp, List.getD_cons_zero, List.getD_cons_succ, List.set_cons_zero, List.set_cons_succ, List.length_cons, List.length_nil, Nat.reduceAdd, Nat.reduceLT, Nat.reduceEqDiff, Nat.lt_add_one, decide_true, decide_false, Bool.and_true, Bool.true_and, Bool.and_false, Bool.false_and, Bool.false_eq_true, if_true, if_false, ↓reduceIte, Option.bind_some, Option.bind_none, kont_v, kont_n, l, wnr]
  | k + 1, g, a4, hk => by
    have hk120 : k < 120 := by omega
    have K := GH_MOK F (g := g)
    have Mg := M.gh (g := g)
    obtain ⟨io, wl, pl, sp, wa, se, bc, sv, bq, h0⟩ := K.1.c55
    have et := m_toldL (X := X) h0 Mg.1 hk120
    have B := hB k (by omega)
    have e0 : S (850 + 130 * k + 0) = f (k * 17) := (B.1 0 (by decide)).symm
    have e1 : S (850 + 130 * k + 1) = f (k * 17 + 1) := (B.1 1 (by decide)).symm
    have e2 : S (850 + 130 * k + 2) = f (k * 17 + 2) := (B.1 2 (by decide)).symm
    have e8 : S (850 + 130 * k + 8) = f (k * 17 + 14) := B.2.1.symm
    have v14 : f (k * 17 + 14) = 0 ∨ f (k * 17 + 14) = 1 := by
      have := B.2.2.1
      rw [← B.2.1] at this
      exact this
    have l : ¬ nI k < 0 := nI_pos (by omega)
    have ekv : kv (k + 1) = nI k := rfl
    have ek : nI k + -1 = kv k := by
      cases k with
      | zero => rfl
      | succ d => exact pk_m1 d
    have ih := m_goesOn_loop (a := a) (b := b) hn hB F M k
    have th : ∃ v : Int32, (ev X 208 45 [.ref 55, .int a, .int b, .int (nI k), a4] [] (GH H g) = ev X 208 96 [.ref 55, .int a, .int b, .int (nI k), .int v] [] (GH H g)) ∧ ((v = 1 ∧ THR f a b k) ∨ (v = 0 ∧ ¬ THR f a b k)) := by
      unfold THR
      rw [s208_45]
      by_cases p1 : f (k * 17) = a
      · have p1' := eq_true p1
        by_cases p2 : f (k * 17 + 1) = b
        · have p2' := eq_true p2
          exact ⟨1, by simp only [s208_0, s208_1, s208_2, s208_5, s208_6, s208_7, s208_10, s208_11, s208_12, s208_15, s208_16, s208_19, s208_20, s208_21, s208_22, s208_24, s208_27, s208_28, s208_30, s208_33, s208_35, s208_36, s208_37, s208_40, s208_41, s208_42, s208_43, s208_44, s208_46, s208_49, s208_50, s208_51, s208_52, s208_55, s208_56, s208_59, s208_60, s208_61, s208_62, s208_65, s208_66, s208_69, s208_70, s208_71, s208_72, s208_75, s208_76, s208_79, s208_80, s208_81, s208_82, s208_85, s208_86, s208_89, s208_90, s208_93, s208_94, s208_98, s208_101, s208_102, s208_103, s208_104, s208_107, s208_108, s208_111, s208_112, s208_113, s208_115, s208_118, s208_121, s208_122, s208_123, s208_126, s208_127, s208_130, s208_133, s208_134, s208_135, s208_136, s208_139, s208_142, s208_143, s208_146, s208_149, s208_151, okF, okA, mcC_o, mcF_o, mcT_i, mcT_l, mcT_z, mcT_q, mcN_i, mcN_l, mcN_z, mcN_q, mcI_i, mcI_z, mcL_l, mcQ_q, hg_hp, hp_hp, List.getD_cons_zero, List.getD_cons_succ, List.set_cons_zero, List.set_cons_succ, List.length_cons, List.length_nil, Nat.reduceAdd, Nat.reduceLT, Nat.reduceEqDiff, Nat.lt_add_one, decide_true, decide_false, Bool.and_true, Bool.true_and, Bool.and_false, Bool.false_and, Bool.false_eq_true, if_true, if_false, ↓reduceIte, Option.bind_some, Option.bind_none, kont_v, kont_n, h0, l, et, e0, e1, p1', p2'], Or.inl ⟨rfl, Or.inl ⟨p1, p2⟩⟩⟩
        · have p2' := eq_false p2
          by_cases p3 : f (k * 17) = b
          · have p3' := eq_true p3
            by_cases p4 : f (k * 17 + 1) = a
            · have p4' := eq_true p4
              exact ⟨1, by simp only [s208_0, s208_1, s208_2, s208_5, s208_6, s208_7, s208_10, s208_11, s208_12, s208_15, s208_16, s208_19, s208_20, s208_21, s208_22, s208_24, s208_27, s208_28, s208_30, s208_33, s208_35, s208_36, s208_37, s208_40, s208_41, s208_42, s208_43, s208_44, s208_46, s208_49, s208_50, s208_51, s208_52, s208_55, s208_56, s208_59, s208_60, s208_61, s208_62, s208_65, s208_66, s208_69, s208_70, s208_71, s208_72, s208_75, s208_76, s208_79, s208_80, s208_81, s208_82, s208_85, s208_86, s208_89, s208_90, s208_93, s208_94, s208_98, s208_101, s208_102, s208_103, s208_104, s208_107, s208_108, s208_111, s208_112, s208_113, s208_115, s208_118, s208_121, s208_122, s208_123, s208_126, s208_127, s208_130, s208_133, s208_134, s208_135, s208_136, s208_139, s208_142, s208_143, s208_146, s208_149, s208_151, okF, okA, mcC_o, mcF_o, mcT_i, mcT_l, mcT_z, mcT_q, mcN_i, mcN_l, mcN_z, mcN_q, mcI_i, mcI_z, mcL_l, mcQ_q, hg_hp, hp_hp, List.getD_cons_zero, List.getD_cons_succ, List.set_cons_zero, List.set_cons_succ, List.length_cons, List.length_nil, Nat.reduceAdd, Nat.reduceLT, Nat.reduceEqDiff, Nat.lt_add_one, decide_true, decide_false, Bool.and_true, Bool.true_and, Bool.and_false, Bool.false_and, Bool.false_eq_true, if_true, if_false, ↓reduceIte, Option.bind_some, Option.bind_none, kont_v, kont_n, h0, l, et, e0, e1, p1', p2', p3', p4'], Or.inl ⟨rfl, Or.inr ⟨p3, p4⟩⟩⟩
            · have p4' := eq_false p4
              exact ⟨0, by simp only [s208_0, s208_1, s208_2, s208_5, s208_6, s208_7, s208_10, s208_11, s208_12, s208_15, s208_16, s208_19, s208_20, s208_21, s208_22, s208_24, s208_27, s208_28, s208_30, s208_33, s208_35, s208_36, s208_37, s208_40, s208_41, s208_42, s208_43, s208_44, s208_46, s208_49, s208_50, s208_51, s208_52, s208_55, s208_56, s208_59, s208_60, s208_61, s208_62, s208_65, s208_66, s208_69, s208_70, s208_71, s208_72, s208_75, s208_76, s208_79, s208_80, s208_81, s208_82, s208_85, s208_86, s208_89, s208_90, s208_93, s208_94, s208_98, s208_101, s208_102, s208_103, s208_104, s208_107, s208_108, s208_111, s208_112, s208_113, s208_115, s208_118, s208_121, s208_122, s208_123, s208_126, s208_127, s208_130, s208_133, s208_134, s208_135, s208_136, s208_139, s208_142, s208_143, s208_146, s208_149, s208_151, okF, okA, mcC_o, mcF_o, mcT_i, mcT_l, mcT_z, mcT_q, mcN_i, mcN_l, mcN_z, mcN_q, mcI_i, mcI_z, mcL_l, mcQ_q, hg_hp, hp_hp, List.getD_cons_zero, List.getD_cons_succ, List.set_cons_zero, List.set_cons_succ, List.length_cons, List.length_nil, Nat.reduceAdd, Nat.reduceLT, Nat.reduceEqDiff, Nat.lt_add_one, decide_true, decide_false, Bool.and_true, Bool.true_and, Bool.and_false, Bool.false_and, Bool.false_eq_true, if_true, if_false, ↓reduceIte, Option.bind_some, Option.bind_none, kont_v, kont_n, h0, l, et, e0, e1, p1', p2', p3', p4'], Or.inr ⟨rfl, fun z => z.elim (fun y => p2 y.2) (fun y => p4 y.2)⟩⟩
          · have p3' := eq_false p3
            exact ⟨0, by simp only [s208_0, s208_1, s208_2, s208_5, s208_6, s208_7, s208_10, s208_11, s208_12, s208_15, s208_16, s208_19, s208_20, s208_21, s208_22, s208_24, s208_27, s208_28, s208_30, s208_33, s208_35, s208_36, s208_37, s208_40, s208_41, s208_42, s208_43, s208_44, s208_46, s208_49, s208_50, s208_51, s208_52, s208_55, s208_56, s208_59, s208_60, s208_61, s208_62, s208_65, s208_66, s208_69, s208_70, s208_71, s208_72, s208_75, s208_76, s208_79, s208_80, s208_81, s208_82, s208_85, s208_86, s208_89, s208_90, s208_93, s208_94, s208_98, s208_101, s208_102, s208_103, s208_104, s208_107, s208_108, s208_111, s208_112, s208_113, s208_115, s208_118, s208_121, s208_122, s208_123, s208_126, s208_127, s208_130, s208_133, s208_134, s208_135, s208_136, s208_139, s208_142, s208_143, s208_146, s208_149, s208_151, okF, okA, mcC_o, mcF_o, mcT_i, mcT_l, mcT_z, mcT_q, mcN_i, mcN_l, mcN_z, mcN_q, mcI_i, mcI_z, mcL_l, mcQ_q, hg_hp, hp_hp, List.getD_cons_zero, List.getD_cons_succ, List.set_cons_zero, List.set_cons_succ, List.length_cons, List.length_nil, Nat.reduceAdd, Nat.reduceLT, Nat.reduceEqDiff, Nat.lt_add_one, decide_true, decide_false, Bool.and_true, Bool.true_and, Bool.and_false, Bool.false_and, Bool.false_eq_true, if_true, if_false, ↓reduceIte, Option.bind_some, Option.bind_none, kont_v, kont_n, h0, l, et, e0, e1, p1', p2', p3'], Or.inr ⟨rfl, fun z => z.elim (fun y => p2 y.2) (fun y => p3 y.1)⟩⟩
      · have p1' := eq_false p1
        by_cases p3 : f (k * 17) = b
        · have p3' := eq_true p3
          by_cases p4 : f (k * 17 + 1) = a
          · have p4' := eq_true p4
            exact ⟨1, by simp only [s208_0, s208_1, s208_2, s208_5, s208_6, s208_7, s208_10, s208_11, s208_12, s208_15, s208_16, s208_19, s208_20, s208_21, s208_22, s208_24, s208_27, s208_28, s208_30, s208_33, s208_35, s208_36, s208_37, s208_40, s208_41, s208_42, s208_43, s208_44, s208_46, s208_49, s208_50, s208_51, s208_52, s208_55, s208_56, s208_59, s208_60, s208_61, s208_62, s208_65, s208_66, s208_69, s208_70, s208_71, s208_72, s208_75, s208_76, s208_79, s208_80, s208_81, s208_82, s208_85, s208_86, s208_89, s208_90, s208_93, s208_94, s208_98, s208_101, s208_102, s208_103, s208_104, s208_107, s208_108, s208_111, s208_112, s208_113, s208_115, s208_118, s208_121, s208_122, s208_123, s208_126, s208_127, s208_130, s208_133, s208_134, s208_135, s208_136, s208_139, s208_142, s208_143, s208_146, s208_149, s208_151, okF, okA, mcC_o, mcF_o, mcT_i, mcT_l, mcT_z, mcT_q, mcN_i, mcN_l, mcN_z, mcN_q, mcI_i, mcI_z, mcL_l, mcQ_q, hg_hp, hp_hp, List.getD_cons_zero, List.getD_cons_succ, List.set_cons_zero, List.set_cons_succ, List.length_cons, List.length_nil, Nat.reduceAdd, Nat.reduceLT, Nat.reduceEqDiff, Nat.lt_add_one, decide_true, decide_false, Bool.and_true, Bool.true_and, Bool.and_false, Bool.false_and, Bool.false_eq_true, if_true, if_false, ↓reduceIte, Option.bind_some, Option.bind_none, kont_v, kont_n, h0, l, et, e0, e1, p1', p3', p4'], Or.inl ⟨rfl, Or.inr ⟨p3, p4⟩⟩⟩
          · have p4' := eq_false p4
            exact ⟨0, by simp only [s208_0, s208_1, s208_2, s208_5, s208_6, s208_7, s208_10, s208_11, s208_12, s208_15, s208_16, s208_19, s208_20, s208_21, s208_22, s208_24, s208_27, s208_28, s208_30, s208_33, s208_35, s208_36, s208_37, s208_40, s208_41, s208_42, s208_43, s208_44, s208_46, s208_49, s208_50, s208_51, s208_52, s208_55, s208_56, s208_59, s208_60, s208_61, s208_62, s208_65, s208_66, s208_69, s208_70, s208_71, s208_72, s208_75, s208_76, s208_79, s208_80, s208_81, s208_82, s208_85, s208_86, s208_89, s208_90, s208_93, s208_94, s208_98, s208_101, s208_102, s208_103, s208_104, s208_107, s208_108, s208_111, s208_112, s208_113, s208_115, s208_118, s208_121, s208_122, s208_123, s208_126, s208_127, s208_130, s208_133, s208_134, s208_135, s208_136, s208_139, s208_142, s208_143, s208_146, s208_149, s208_151, okF, okA, mcC_o, mcF_o, mcT_i, mcT_l, mcT_z, mcT_q, mcN_i, mcN_l, mcN_z, mcN_q, mcI_i, mcI_z, mcL_l, mcQ_q, hg_hp, hp_hp, List.getD_cons_zero, List.getD_cons_succ, List.set_cons_zero, List.set_cons_succ, List.length_cons, List.length_nil, Nat.reduceAdd, Nat.reduceLT, Nat.reduceEqDiff, Nat.lt_add_one, decide_true, decide_false, Bool.and_true, Bool.true_and, Bool.and_false, Bool.false_and, Bool.false_eq_true, if_true, if_false, ↓reduceIte, Option.bind_some, Option.bind_none, kont_v, kont_n, h0, l, et, e0, e1, p1', p3', p4'], Or.inr ⟨rfl, fun z => z.elim (fun y => p1 y.1) (fun y => p4 y.2)⟩⟩
        · have p3' := eq_false p3
          exact ⟨0, by simp only [s208_0, s208_1, s208_2, s208_5, s208_6, s208_7, s208_10, s208_11, s208_12, s208_15, s208_16, s208_19, s208_20, s208_21, s208_22, s208_24, s208_27, s208_28, s208_30, s208_33, s208_35, s208_36, s208_37, s208_40, s208_41, s208_42, s208_43, s208_44, s208_46, s208_49, s208_50, s208_51, s208_52, s208_55, s208_56, s208_59, s208_60, s208_61, s208_62, s208_65, s208_66, s208_69, s208_70, s208_71, s208_72, s208_75, s208_76, s208_79, s208_80, s208_81, s208_82, s208_85, s208_86, s208_89, s208_90, s208_93, s208_94, s208_98, s208_101, s208_102, s208_103, s208_104, s208_107, s208_108, s208_111, s208_112, s208_113, s208_115, s208_118, s208_121, s208_122, s208_123, s208_126, s208_127, s208_130, s208_133, s208_134, s208_135, s208_136, s208_139, s208_142, s208_143, s208_146, s208_149, s208_151, okF, okA, mcC_o, mcF_o, mcT_i, mcT_l, mcT_z, mcT_q, mcN_i, mcN_l, mcN_z, mcN_q, mcI_i, mcI_z, mcL_l, mcQ_q, hg_hp, hp_hp, List.getD_cons_zero, List.getD_cons_succ, List.set_cons_zero, List.set_cons_succ, List.length_cons, List.length_nil, Nat.reduceAdd, Nat.reduceLT, Nat.reduceEqDiff, Nat.lt_add_one, decide_true, decide_false, Bool.and_true, Bool.true_and, Bool.and_false, Bool.false_and, Bool.false_eq_true, if_true, if_false, ↓reduceIte, Option.bind_some, Option.bind_none, kont_v, kont_n, h0, l, et, e0, e1, p1', p3'], Or.inr ⟨rfl, fun z => z.elim (fun y => p1 y.1) (fun y => p3 y.1)⟩⟩
    obtain ⟨v, ev1, hv⟩ := th
    rw [ekv]
    simp only [wnr]
    rcases hv with ⟨rfl, hv⟩ | ⟨rfl, hv⟩
    · by_cases k4 : f (k * 17 + 2) = -1
      · rcases v14 with k14 | k14
        · have eg := m_goesR (X := X) K.1 Mg hk120 B
          rw [GH_GH F] at eg
          have Kr := GH_MOK F (g := gcol (rof17 f k))
          obtain ⟨io', wl', pl', sp', wa', se', bc', sv', bq', h0'⟩ := F.c55
          have c55 : hg (GH H (gcol (rof17 f k))) 55 = oB 12 (MO (f (k * 17 + 8)) (f (k * 17 + 9)) pl' sp' wa' se' bc' sv' bq') := GH_55' h0'
          have etr := m_toldL (X := X) c55 (M.gh (g := gcol (rof17 f k))).1 hk120
          have o8 : f (k * 17 + 8) = 0 ∨ f (k * 17 + 8) = 1 := B.over01
          rcases o8 with k8 | k8
          · have W : ¬ WNC f a b k := fun z => by have := z.2.1; rw [k8] at this; exact absurd this (by decide)
            obtain ⟨g', ih⟩ := ih (gcol (rof17 f k)) (.int 1) (by omega)
            refine ⟨g', ?_⟩
            rw [if_neg W, ev1]
            rw [k8] at c55
            simp only [s208_0, s208_1, s208_2, s208_5, s208_6, s208_7, s208_10, s208_11, s208_12, s208_15, s208_16, s208_19, s208_20, s208_21, s208_22, s208_24, s208_27, s208_28, s208_30, s208_33, s208_35, s208_36, s208_37, s208_40, s208_41, s208_42, s208_43, s208_44, s208_46, s208_49, s208_50, s208_51, s208_52, s208_55, s208_56, s208_59, s208_60, s208_61, s208_62, s208_65, s208_66, s208_69, s208_70, s208_71, s208_72, s208_75, s208_76, s208_79, s208_80, s208_81, s208_82, s208_85, s208_86, s208_89, s208_90, s208_93, s208_94, s208_96, s208_98, s208_101, s208_102, s208_103, s208_104, s208_107, s208_108, s208_111, s208_112, s208_113, s208_115, s208_118, s208_121, s208_122, s208_123, s208_126, s208_127, s208_130, s208_133, s208_134, s208_135, s208_136, s208_139, s208_142, s208_143, s208_146, s208_149, s208_151, okF, okA, mcC_o, mcF_o, mcT_i, mcT_l, mcT_z, mcT_q, mcN_i, mcN_l, mcN_z, mcN_q, mcI_i, mcI_z, mcL_l, mcQ_q, hg_hp, hp_hp, List.getD_cons_zero, List.getD_cons_succ, List.set_cons_zero, List.set_cons_succ, List.length_cons, List.length_nil, Nat.reduceAdd, Nat.reduceLT, Nat.reduceEqDiff, Nat.lt_add_one, decide_true, decide_false, Bool.and_true, Bool.true_and, Bool.and_false, Bool.false_and, Bool.false_eq_true, if_true, if_false, ↓reduceIte, Option.bind_some, Option.bind_none, kont_v, kont_n, MO_len, MO_8, h0, et, e2, e8, k4, k14, eg, c55, one0, ek]
            exact ih
          · have W : WNC f a b k := ⟨hv, k8, by rw [k14]; decide, k4⟩
            refine ⟨gcol (rof17 f k), ?_⟩
            rw [if_pos W, ev1]
            rw [k8] at c55
            have w01 : f (k * 17 + 9) = 0 ∨ f (k * 17 + 9) = 1 := by
              obtain ⟨-, -, -, _, _, _, _, _, -, -, -, -, -, -, gi, -⟩ := B
              obtain ⟨_, _, _, _, _, _, _, _, _, g, _⟩ := gi
              rcases g with g | g
              · have : f (k * 17 + 8) = 0 := g.1
                rw [k8] at this; exact absurd this (by decide)
              · exact g.2
            rcases w01 with k9 | k9
            · rw [k9] at c55
              rw [if_pos k9]
              simp only [s208_0, s208_1, s208_2, s208_5, s208_6, s208_7, s208_10, s208_11, s208_12, s208_15, s208_16, s208_19, s208_20, s208_21, s208_22, s208_24, s208_27, s208_28, s208_30, s208_33, s208_35, s208_36, s208_37, s208_40, s208_41, s208_42, s208_43, s208_44, s208_46, s208_49, s208_50, s208_51, s208_52, s208_55, s208_56, s208_59, s208_60, s208_61, s208_62, s208_65, s208_66, s208_69, s208_70, s208_71, s208_72, s208_75, s208_76, s208_79, s208_80, s208_81, s208_82, s208_85, s208_86, s208_89, s208_90, s208_93, s208_94, s208_96, s208_98, s208_101, s208_102, s208_103, s208_104, s208_107, s208_108, s208_111, s208_112, s208_113, s208_115, s208_118, s208_121, s208_122, s208_123, s208_126, s208_127, s208_130, s208_133, s208_134, s208_135, s208_136, s208_139, s208_142, s208_143, s208_146, s208_149, s208_151, okF, okA, mcC_o, mcF_o, mcT_i, mcT_l, mcT_z, mcT_q, mcN_i, mcN_l, mcN_z, mcN_q, mcI_i, mcI_z, mcL_l, mcQ_q, hg_hp, hp_hp, List.getD_cons_zero, List.getD_cons_succ, List.set_cons_zero, List.set_cons_succ, List.length_cons, List.length_nil, Nat.reduceAdd, Nat.reduceLT, Nat.reduceEqDiff, Nat.lt_add_one, decide_true, decide_false, Bool.and_true, Bool.true_and, Bool.and_false, Bool.false_and, Bool.false_eq_true, if_true, if_false, ↓reduceIte, Option.bind_some, Option.bind_none, kont_v, kont_n, MO_len, MO_8, MO_9, h0, et, etr, e0, e2, e8, k4, k14, eg, c55, one0]
            · rw [k9] at c55
              rw [if_neg (by rw [k9]; decide)]
              simp only [s208_0, s208_1, s208_2, s208_5, s208_6, s208_7, s208_10, s208_11, s208_12, s208_15, s208_16, s208_19, s208_20, s208_21, s208_22, s208_24, s208_27, s208_28, s208_30, s208_33, s208_35, s208_36, s208_37, s208_40, s208_41, s208_42, s208_43, s208_44, s208_46, s208_49, s208_50, s208_51, s208_52, s208_55, s208_56, s208_59, s208_60, s208_61, s208_62, s208_65, s208_66, s208_69, s208_70, s208_71, s208_72, s208_75, s208_76, s208_79, s208_80, s208_81, s208_82, s208_85, s208_86, s208_89, s208_90, s208_93, s208_94, s208_96, s208_98, s208_101, s208_102, s208_103, s208_104, s208_107, s208_108, s208_111, s208_112, s208_113, s208_115, s208_118, s208_121, s208_122, s208_123, s208_126, s208_127, s208_130, s208_133, s208_134, s208_135, s208_136, s208_139, s208_142, s208_143, s208_146, s208_149, s208_151, okF, okA, mcC_o, mcF_o, mcT_i, mcT_l, mcT_z, mcT_q, mcN_i, mcN_l, mcN_z, mcN_q, mcI_i, mcI_z, mcL_l, mcQ_q, hg_hp, hp_hp, List.getD_cons_zero, List.getD_cons_succ, List.set_cons_zero, List.set_cons_succ, List.length_cons, List.length_nil, Nat.reduceAdd, Nat.reduceLT, Nat.reduceEqDiff, Nat.lt_add_one, decide_true, decide_false, Bool.and_true, Bool.true_and, Bool.and_false, Bool.false_and, Bool.false_eq_true, if_true, if_false, ↓reduceIte, Option.bind_some, Option.bind_none, kont_v, kont_n, MO_len, MO_8, MO_9, h0, et, etr, e1, e2, e8, k4, k14, eg, c55, one0]
        · have W : ¬ WNC f a b k := fun z => z.2.2.1 k14
          obtain ⟨g', ih⟩ := ih g (.int 1) (by omega)
          refine ⟨g', ?_⟩
          rw [if_neg W, ev1]
          simp only [s208_0, s208_1, s208_2, s208_5, s208_6, s208_7, s208_10, s208_11, s208_12, s208_15, s208_16, s208_19, s208_20, s208_21, s208_22, s208_24, s208_27, s208_28, s208_30, s208_33, s208_35, s208_36, s208_37, s208_40, s208_41, s208_42, s208_43, s208_44, s208_46, s208_49, s208_50, s208_51, s208_52, s208_55, s208_56, s208_59, s208_60, s208_61, s208_62, s208_65, s208_66, s208_69, s208_70, s208_71, s208_72, s208_75, s208_76, s208_79, s208_80, s208_81, s208_82, s208_85, s208_86, s208_89, s208_90, s208_93, s208_94, s208_96, s208_98, s208_101, s208_102, s208_103, s208_104, s208_107, s208_108, s208_111, s208_112, s208_113, s208_115, s208_118, s208_121, s208_122, s208_123, s208_126, s208_127, s208_130, s208_133, s208_134, s208_135, s208_136, s208_139, s208_142, s208_143, s208_146, s208_149, s208_151, okF, okA, mcC_o, mcF_o, mcT_i, mcT_l, mcT_z, mcT_q, mcN_i, mcN_l, mcN_z, mcN_q, mcI_i, mcI_z, mcL_l, mcQ_q, hg_hp, hp_hp, List.getD_cons_zero, List.getD_cons_succ, List.set_cons_zero, List.set_cons_succ, List.length_cons, List.length_nil, Nat.reduceAdd, Nat.reduceLT, Nat.reduceEqDiff, Nat.lt_add_one, decide_true, decide_false, Bool.and_true, Bool.true_and, Bool.and_false, Bool.false_and, Bool.false_eq_true, if_true, if_false, ↓reduceIte, Option.bind_some, Option.bind_none, kont_v, kont_n, h0, et, e2, e8, k4, k14, one0, ek]
          exact ih
      · have W : ¬ WNC f a b k := fun z => k4 z.2.2.2
        obtain ⟨g', ih⟩ := ih g (.int 1) (by omega)
        refine ⟨g', ?_⟩
        rw [if_neg W, ev1]
        simp only [s208_0, s208_1, s208_2, s208_5, s208_6, s208_7, s208_10, s208_11, s208_12, s208_15, s208_16, s208_19, s208_20, s208_21, s208_22, s208_24, s208_27, s208_28, s208_30, s208_33, s208_35, s208_36, s208_37, s208_40, s208_41, s208_42, s208_43, s208_44, s208_46, s208_49, s208_50, s208_51, s208_52, s208_55, s208_56, s208_59, s208_60, s208_61, s208_62, s208_65, s208_66, s208_69, s208_70, s208_71, s208_72, s208_75, s208_76, s208_79, s208_80, s208_81, s208_82, s208_85, s208_86, s208_89, s208_90, s208_93, s208_94, s208_96, s208_98, s208_101, s208_102, s208_103, s208_104, s208_107, s208_108, s208_111, s208_112, s208_113, s208_115, s208_118, s208_121, s208_122, s208_123, s208_126, s208_127, s208_130, s208_133, s208_134, s208_135, s208_136, s208_139, s208_142, s208_143, s208_146, s208_149, s208_151, okF, okA, mcC_o, mcF_o, mcT_i, mcT_l, mcT_z, mcT_q, mcN_i, mcN_l, mcN_z, mcN_q, mcI_i, mcI_z, mcL_l, mcQ_q, hg_hp, hp_hp, List.getD_cons_zero, List.getD_cons_succ, List.set_cons_zero, List.set_cons_succ, List.length_cons, List.length_nil, Nat.reduceAdd, Nat.reduceLT, Nat.reduceEqDiff, Nat.lt_add_one, decide_true, decide_false, Bool.and_true, Bool.true_and, Bool.and_false, Bool.false_and, Bool.false_eq_true, if_true, if_false, ↓reduceIte, Option.bind_some, Option.bind_none, kont_v, kont_n, h0, et, e2, k4, one0, ek]
        exact ih
    · have W : ¬ WNC f a b k := fun z => hv z.1
      obtain ⟨g', ih⟩ := ih g (.int 0) (by omega)
      refine ⟨g', ?_⟩
      rw [if_neg W, ev1]
      simp only [s208_0, s208_1, s208_2, s208_5, s208_6, s208_7, s208_10, s208_11, s208_12, s208_15, s208_16, s208_19, s208_20, s208_21, s208_22, s208_24, s208_27, s208_28, s208_30, s208_33, s208_35, s208_36, s208_37, s208_40, s208_41, s208_42, s208_43, s208_44, s208_46, s208_49, s208_50, s208_51, s208_52, s208_55, s208_56, s208_59, s208_60, s208_61, s208_62, s208_65, s208_66, s208_69, s208_70, s208_71, s208_72, s208_75, s208_76, s208_79, s208_80, s208_81, s208_82, s208_85, s208_86, s208_89, s208_90, s208_93, s208_94, s208_96, s208_98, s208_101, s208_102, s208_103, s208_104, s208_107, s208_108, s208_111, s208_112, s208_113, s208_115, s208_118, s208_121, s208_122, s208_123, s208_126, s208_127, s208_130, s208_133, s208_134, s208_135, s208_136, s208_139, s208_142, s208_143, s208_146, s208_149, s208_151, okF, okA, mcC_o, mcF_o, mcT_i, mcT_l, mcT_z, mcT_q, mcN_i, mcN_l, mcN_z, mcN_q, mcI_i, mcI_z, mcL_l, mcQ_q, hg_hp, hp_hp, List.getD_cons_zero, List.getD_cons_succ, List.set_cons_zero, List.set_cons_succ, List.length_cons, List.length_nil, Nat.reduceAdd, Nat.reduceLT, Nat.reduceEqDiff, Nat.lt_add_one, decide_true, decide_false, Bool.and_true, Bool.true_and, Bool.and_false, Bool.false_and, Bool.false_eq_true, if_true, if_false, ↓reduceIte, Option.bind_some, Option.bind_none, kont_v, kont_n, ek]
      exact ih
theorem m_goesOn {n : Nat} {f : Nat → Int32} {x y : Int32} (hn : n ≤ 120) (z2 : S 2 = nI n) (hB : ∀ b, b < n → BR (tx S b) (rof17 f b)) (F : FIX H) (M : MD H S IM KP) : ∃ g', (ev X 208 0 [.ref 55, .int x, .int y, .float 0, .float 0] [] (H)) = some (some (.int (gos f n x y)), (GH H g')) := by
  obtain ⟨g0, eg0⟩ := GH_selfE F
  obtain ⟨io, wl, pl, sp, wa, se, bc, sv, bq, h0⟩ := F.c55
  have n15 : ((-1 : Int32) = -5) = False := by decide
  have n51 : ((-5 : Int32) = -1) = False := by decide
  unfold gos
  by_cases x1 : x = -1
  · subst x1
    refine ⟨g0, ?_⟩
    rw [if_pos rfl, eg0]
    by_cases y1 : y = -1
    · subst y1
      simp only [s208_0, s208_1, s208_2, s208_5, s208_6, s208_7, s208_10, s208_11, s208_12, s208_15, s208_16, s208_19, s208_20, s208_21, s208_22, s208_24, s208_27, s208_28, s208_30, s208_33, s208_35, s208_36, s208_37, s208_40, s208_41, s208_42, s208_43, s208_44, s208_46, s208_49, s208_50, s208_51, s208_52, s208_55, s208_56, s208_59, s208_60, s208_61, s208_62, s208_65, s208_66, s208_69, s208_70, s208_71, s208_72, s208_75, s208_76, s208_79, s208_80, s208_81, s208_82, s208_85, s208_86, s208_89, s208_90, s208_93, s208_94, s208_96, s208_98, s208_101, s208_102, s208_103, s208_104, s208_107, s208_108, s208_111, s208_112, s208_113, s208_115, s208_118, s208_121, s208_122, s208_123, s208_126, s208_127, s208_130, s208_133, s208_134, s208_135, s208_136, s208_139, s208_142, s208_143, s208_146, s208_149, s208_151, okF, okA, mcC_o, mcF_o, mcT_i, mcT_l, mcT_z, mcT_q, mcN_i, mcN_l, mcN_z, mcN_q, mcI_i, mcI_z, mcL_l, mcQ_q, hg_hp, hp_hp, List.getD_cons_zero, List.getD_cons_succ, List.set_cons_zero, List.set_cons_succ, List.length_cons, List.length_nil, Nat.reduceAdd, Nat.reduceLT, Nat.reduceEqDiff, Nat.lt_add_one, decide_true, decide_false, Bool.and_true, Bool.true_and, Bool.and_false, Bool.false_and, Bool.false_eq_true, if_true, if_false, ↓reduceIte, Option.bind_some, Option.bind_none, kont_v, kont_n, eq_self]
    · simp only [s208_0, s208_1, s208_2, s208_5, s208_6, s208_7, s208_10, s208_11, s208_12, s208_15, s208_16, s208_19, s208_20, s208_21, s208_22, s208_24, s208_27, s208_28, s208_30, s208_33, s208_35, s208_36, s208_37, s208_40, s208_41, s208_42, s208_43, s208_44, s208_46, s208_49, s208_50, s208_51, s208_52, s208_55, s208_56, s208_59, s208_60, s208_61, s208_62, s208_65, s208_66, s208_69, s208_70, s208_71, s208_72, s208_75, s208_76, s208_79, s208_80, s208_81, s208_82, s208_85, s208_86, s208_89, s208_90, s208_93, s208_94, s208_96, s208_98, s208_101, s208_102, s208_103, s208_104, s208_107, s208_108, s208_111, s208_112, s208_113, s208_115, s208_118, s208_121, s208_122, s208_123, s208_126, s208_127, s208_130, s208_133, s208_134, s208_135, s208_136, s208_139, s208_142, s208_143, s208_146, s208_149, s208_151, okF, okA, mcC_o, mcF_o, mcT_i, mcT_l, mcT_z, mcT_q, mcN_i, mcN_l, mcN_z, mcN_q, mcI_i, mcI_z, mcL_l, mcQ_q, hg_hp, hp_hp, List.getD_cons_zero, List.getD_cons_succ, List.set_cons_zero, List.set_cons_succ, List.length_cons, List.length_nil, Nat.reduceAdd, Nat.reduceLT, Nat.reduceEqDiff, Nat.lt_add_one, decide_true, decide_false, Bool.and_true, Bool.true_and, Bool.and_false, Bool.false_and, Bool.false_eq_true, if_true, if_false, ↓reduceIte, Option.bind_some, Option.bind_none, kont_v, kont_n, y1, eq_self]
  · rw [if_neg x1]
    by_cases y1 : y = -1
    · subst y1
      refine ⟨g0, ?_⟩
      rw [if_pos rfl, eg0]
      simp only [s208_0, s208_1, s208_2, s208_5, s208_6, s208_7, s208_10, s208_11, s208_12, s208_15, s208_16, s208_19, s208_20, s208_21, s208_22, s208_24, s208_27, s208_28, s208_30, s208_33, s208_35, s208_36, s208_37, s208_40, s208_41, s208_42, s208_43, s208_44, s208_46, s208_49, s208_50, s208_51, s208_52, s208_55, s208_56, s208_59, s208_60, s208_61, s208_62, s208_65, s208_66, s208_69, s208_70, s208_71, s208_72, s208_75, s208_76, s208_79, s208_80, s208_81, s208_82, s208_85, s208_86, s208_89, s208_90, s208_93, s208_94, s208_96, s208_98, s208_101, s208_102, s208_103, s208_104, s208_107, s208_108, s208_111, s208_112, s208_113, s208_115, s208_118, s208_121, s208_122, s208_123, s208_126, s208_127, s208_130, s208_133, s208_134, s208_135, s208_136, s208_139, s208_142, s208_143, s208_146, s208_149, s208_151, okF, okA, mcC_o, mcF_o, mcT_i, mcT_l, mcT_z, mcT_q, mcN_i, mcN_l, mcN_z, mcN_q, mcI_i, mcI_z, mcL_l, mcQ_q, hg_hp, hp_hp, List.getD_cons_zero, List.getD_cons_succ, List.set_cons_zero, List.set_cons_succ, List.length_cons, List.length_nil, Nat.reduceAdd, Nat.reduceLT, Nat.reduceEqDiff, Nat.lt_add_one, decide_true, decide_false, Bool.and_true, Bool.true_and, Bool.and_false, Bool.false_and, Bool.false_eq_true, if_true, if_false, ↓reduceIte, Option.bind_some, Option.bind_none, kont_v, kont_n, x1, eq_self]
    · rw [if_neg y1]
      by_cases x5 : x = -5
      · refine ⟨g0, ?_⟩
        rw [if_pos (Or.inl x5), eg0]
        subst x5
        simp only [s208_0, s208_1, s208_2, s208_5, s208_6, s208_7, s208_10, s208_11, s208_12, s208_15, s208_16, s208_19, s208_20, s208_21, s208_22, s208_24, s208_27, s208_28, s208_30, s208_33, s208_35, s208_36, s208_37, s208_40, s208_41, s208_42, s208_43, s208_44, s208_46, s208_49, s208_50, s208_51, s208_52, s208_55, s208_56, s208_59, s208_60, s208_61, s208_62, s208_65, s208_66, s208_69, s208_70, s208_71, s208_72, s208_75, s208_76, s208_79, s208_80, s208_81, s208_82, s208_85, s208_86, s208_89, s208_90, s208_93, s208_94, s208_96, s208_98, s208_101, s208_102, s208_103, s208_104, s208_107, s208_108, s208_111, s208_112, s208_113, s208_115, s208_118, s208_121, s208_122, s208_123, s208_126, s208_127, s208_130, s208_133, s208_134, s208_135, s208_136, s208_139, s208_142, s208_143, s208_146, s208_149, s208_151, okF, okA, mcC_o, mcF_o, mcT_i, mcT_l, mcT_z, mcT_q, mcN_i, mcN_l, mcN_z, mcN_q, mcI_i, mcI_z, mcL_l, mcQ_q, hg_hp, hp_hp, List.getD_cons_zero, List.getD_cons_succ, List.set_cons_zero, List.set_cons_succ, List.length_cons, List.length_nil, Nat.reduceAdd, Nat.reduceLT, Nat.reduceEqDiff, Nat.lt_add_one, decide_true, decide_false, Bool.and_true, Bool.true_and, Bool.and_false, Bool.false_and, Bool.false_eq_true, if_true, if_false, ↓reduceIte, Option.bind_some, Option.bind_none, kont_v, kont_n, n51, y1, eq_self]
      · by_cases y5 : y = -5
        · refine ⟨g0, ?_⟩
          rw [if_pos (Or.inr y5), eg0]
          subst y5
          simp only [s208_0, s208_1, s208_2, s208_5, s208_6, s208_7, s208_10, s208_11, s208_12, s208_15, s208_16, s208_19, s208_20, s208_21, s208_22, s208_24, s208_27, s208_28, s208_30, s208_33, s208_35, s208_36, s208_37, s208_40, s208_41, s208_42, s208_43, s208_44, s208_46, s208_49, s208_50, s208_51, s208_52, s208_55, s208_56, s208_59, s208_60, s208_61, s208_62, s208_65, s208_66, s208_69, s208_70, s208_71, s208_72, s208_75, s208_76, s208_79, s208_80, s208_81, s208_82, s208_85, s208_86, s208_89, s208_90, s208_93, s208_94, s208_96, s208_98, s208_101, s208_102, s208_103, s208_104, s208_107, s208_108, s208_111, s208_112, s208_113, s208_115, s208_118, s208_121, s208_122, s208_123, s208_126, s208_127, s208_130, s208_133, s208_134, s208_135, s208_136, s208_139, s208_142, s208_143, s208_146, s208_149, s208_151, okF, okA, mcC_o, mcF_o, mcT_i, mcT_l, mcT_z, mcT_q, mcN_i, mcN_l, mcN_z, mcN_q, mcI_i, mcI_z, mcL_l, mcQ_q, hg_hp, hp_hp, List.getD_cons_zero, List.getD_cons_succ, List.set_cons_zero, List.set_cons_succ, List.length_cons, List.length_nil, Nat.reduceAdd, Nat.reduceLT, Nat.reduceEqDiff, Nat.lt_add_one, decide_true, decide_false, Bool.and_true, Bool.true_and, Bool.and_false, Bool.false_and, Bool.false_eq_true, if_true, if_false, ↓reduceIte, Option.bind_some, Option.bind_none, kont_v, kont_n, n51, x1, x5, eq_self]
        · obtain ⟨g', lp⟩ := m_goesOn_loop (X := X) (a := x) (b := y) hn hB F M n g0 (.float 0) (Nat.le_refl n)
          refine ⟨g', ?_⟩
          rw [if_neg (fun z => z.elim x5 y5)]
          rw [eg0] at lp
          simp (disch := omega) only [s208_0, s208_1, s208_2, s208_5, s208_6, s208_7, s208_10, s208_11, s208_12, s208_15, s208_16, s208_19, s208_20, s208_21, s208_22, s208_24, s208_27, s208_28, s208_30, s208_33, s208_35, s208_36, s208_37, s208_40, s208_41, s208_42, s208_43, s208_44, s208_46, s208_49, s208_50, s208_51, s208_52, s208_55, s208_56, s208_59, s208_60, s208_61, s208_62, s208_65, s208_66, s208_69, s208_70, s208_71, s208_72, s208_75, s208_76, s208_79, s208_80, s208_81, s208_82, s208_85, s208_86, s208_89, s208_90, s208_93, s208_94, s208_96, s208_98, s208_101, s208_102, s208_103, s208_104, s208_107, s208_108, s208_111, s208_112, s208_113, s208_115, s208_118, s208_121, s208_122, s208_123, s208_126, s208_127, s208_130, s208_133, s208_134, s208_135, s208_136, s208_139, s208_142, s208_143, s208_146, s208_149, s208_151, okF, okA, mcC_o, mcF_o, mcT_i, mcN_i, mcI_i, decide_true, Bool.and_true, Bool.true_and, if_true, ↓reduceIte, Nat.reduceLT, if_false, MO_len, MO_0, nc_2, ni_2, inR_n, h0, M.1, z2, x1, y1, x5, y5, kv_pred]
          exact lp
end GOE

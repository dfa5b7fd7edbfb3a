-- THE ORDER THAT GAINS MOST
def bo (g : Nat → Int32) : List Nat → Nat × Int32 → Nat × Int32
  | [], s => s
  | k :: l, s => bo g l (if s.2 < g k then (k, g k) else s)
theorem ORL_d : ∀ i, i < 6 → ORL.drop i = ORL.getD i 0 :: ORL.drop (i + 1) ∧ ORL.getD i 0 ∈ ORL ∧ roF 1 i = nI (ORL.getD i 0) := by decide
theorem ORL_f : ∀ i, i < 223 → ORL.filter (fun k => decide (i ≤ k)) = if i ∈ ORL then i :: ORL.filter (fun k => decide (i + 1 ≤ k)) else ORL.filter (fun k => decide (i + 1 ≤ k)) := by decide +kernel
def mgv (f8 : Nat → Int32) (k : Nat) : Int32 := nI (stt f8 k 9).1 - nI (stt f8 k 9).2
section BES
variable {X : MX} {t : Nat} {h B : MH} {D : LD} {S IM KP : Nat → Int32}
theorem c_mg (L : LG h 1 D) (F : FIX h) (hP : PRS (D.2.1 8)) {k : Nat} (hk : k ∈ ORL) (A : Nat → Int32) : ∃ A', (ev X 94 0 [.ref 51, .int (nI k), .float 0, .float 0, .float 0, .float 0, .float 0, .float 0, .float 0, .float 0] [] (hp h 52 (iA 18 A))) = some (some (.int (mgv (D.2.1 8) k)), (hp h 52 (iA 18 A'))) := by
  have F2 : FIX (hp h 52 (iA 18 A)) := ((COK.refl F).put (k := 52) (by decide) ⟨_, rfl⟩).1
  obtain ⟨A', e, -⟩ := c_marginOf (X := X) (h := hp h 52 (iA 18 A)) (A := A) (hp_lg L (by decide)) F2 hP hk (by rw [hg_hp, if_pos rfl])
  rw [hp_hp] at e
  exact ⟨A', e⟩
theorem c_bo (L : LG h 1 D) (F : FIX h) (hP : PRS (D.2.1 8)) : ∀ (d i : Nat) (s : Nat × Int32) (A : Nat → Int32) (a4 : Value), i + d = 6 → ∃ A', ev X 97 14 [.ref 51, .int (nI s.1), .int s.2, .int (nI i), a4] [] (hp h 52 (iA 18 A)) = some (some (.int (nI (bo (mgv (D.2.1 8)) (ORL.drop i) s).1)), (hp h 52 (iA 18 A')))
  | 0, i, s, A, a4, e => by
    have e : i = 6 := by omega
    subst e
    have l : ¬ nI 6 < 6 := by decide
    refine ⟨A, ?_⟩
    rw [s97_14]
    simp only [s97_0, s97_3, s97_4, s97_4_r1, s97_4_r2, s97_4_r3, s97_5, s97_6, s97_7, s97_8, s97_11, s97_12, s97_13, s97_15, s97_19, s97_22, s97_23, s97_26, s97_27, s97_27_r1, s97_27_r2, s97_27_r3, s97_28, s97_31, s97_33, s97_35, s97_36, s97_39, s97_42, s97_43, s97_43_r1, s97_43_r2, s97_43_r3, s97_44, s97_45, s97_47, s97_48, s97_51, s97_54, s97_55, s97_18r, okF, okA, mcC_o, mcF_o, mcT_i, mcT_l, mcT_z, mcT_q, mcN_i, mcN_l, mcN_z, mcN_q, mcI_i, mcI_z, mcL_l, mcQ_q, hg_hp, hp_hp, List.getD_cons_zero, List.getD_cons_succ, List.set_cons_zero, List.set_cons_succ, List.length_cons, List.length_nil, Nat.reduceAdd, Nat.reduceLT, Nat.reduceEqDiff, Nat.lt_add_one, decide_true, decide_false, Bool.and_true, Bool.true_and, Bool.and_false, Bool.false_and, Bool.false_eq_true, if_true, if_false, ↓reduceIte, Option.bind_some, Option.bind_none, kont_v, kont_n, l]
    rfl
  | d + 1, i, s, A, a4, e => by
    have l : nI i < 6 := nI_lt (a := i) (b := 6) (by omega) (by decide)
    have i1 : nI i + 1 = nI (i + 1) := nI_add i 1
    obtain ⟨e1, e2, e3⟩ := ORL_d i (by omega)
    obtain ⟨A1, mg⟩ := c_mg (X := X) L F hP e2 A
    by_cases q : s.2 < mgv (D.2.1 8) (ORL.getD i 0)
    · obtain ⟨A2, ih⟩ := c_bo L F hP d (i + 1) (ORL.getD i 0, mgv (D.2.1 8) (ORL.getD i 0)) A1 (.int (mgv (D.2.1 8) (ORL.getD i 0))) (by omega)
      refine ⟨A2, ?_⟩
      rw [e1]
      show _ = some (some (Value.int (nI (bo _ (ORL.drop (i + 1)) (if _ then _ else _)).1)), _)
      rw [if_pos q, ← ih, s97_14]
      simp (disch := omega) only [s97_0, s97_3, s97_4, s97_4_r1, s97_4_r2, s97_4_r3, s97_5, s97_6, s97_7, s97_8, s97_11, s97_12, s97_13, s97_15, s97_19, s97_22, s97_23, s97_26, s97_27, s97_27_r1, s97_27_r2, s97_27_r3, s97_28, s97_31, s97_33, s97_35, s97_36, s97_39, s97_42, s97_43, s97_43_r1, s97_43_r2, s97_43_r3, s97_44, s97_45, s97_47, s97_48, s97_51, s97_54, s97_55, s97_18r, okF, okA, mcC_o, mcF_o, mcT_i, mcT_l, mcT_z, mcT_q, mcN_i, mcN_l, mcN_z, mcN_q, mcI_i, mcI_z, mcL_l, mcQ_q, hg_hp, hp_hp, List.getD_cons_zero, List.getD_cons_succ, List.set_cons_zero, List.set_cons_succ, List.length_cons, List.length_nil, Nat.reduceAdd, Nat.reduceLT, Nat.reduceEqDiff, Nat.lt_add_one, decide_true, decide_false, Bool.and_true, Bool.true_and, Bool.and_false, Bool.false_and, Bool.false_eq_true, if_true, if_false, ↓reduceIte, Option.bind_some, Option.bind_none, kont_v, kont_n, l, i1, nI_clamp, inR_n, e3, mg, q, F.c51]
    · obtain ⟨A2, ih⟩ := c_bo L F hP d (i + 1) s A1 (.int (mgv (D.2.1 8) (ORL.getD i 0))) (by omega)
      refine ⟨A2, ?_⟩
      rw [e1]
      show _ = some (some (Value.int (nI (bo _ (ORL.drop (i + 1)) (if _ then _ else _)).1)), _)
      rw [if_neg q, ← ih, s97_14]
      simp (disch := omega) only [s97_0, s97_3, s97_4, s97_4_r1, s97_4_r2, s97_4_r3, s97_5, s97_6, s97_7, s97_8, s97_11, s97_12, s97_13, s97_15, s97_19, s97_22, s97_23, s97_26, s97_27, s97_27_r1, s97_27_r2, s97_27_r3, s97_28, s97_31, s97_33, s97_35, s97_36, s97_39, s97_42, s97_43, s97_43_r1, s97_43_r2, s97_43_r3, s97_44, s97_45, s97_47, s97_48, s97_51, s97_54, s97_55, s97_18r, okF, okA, mcC_o, mcF_o, mcT_i, mcT_l, mcT_z, mcT_q, mcN_i, mcN_l, mcN_z, mcN_q, mcI_i, mcI_z, mcL_l, mcQ_q, hg_hp, hp_hp, List.getD_cons_zero, List.getD_cons_succ, List.set_cons_zero, List.set_cons_succ, List.length_cons, List.length_nil, Nat.reduceAdd, Nat.reduceLT, Nat.reduceEqDiff, Nat.lt_add_one, decide_true, decide_false, Bool.and_true, Bool.true_and, Bool.and_false, Bool.false_and, Bool.false_eq_true, if_true, if_false, ↓reduceIte, Option.bind_some, Option.bind_none, kont_v, kont_n, l, i1, nI_clamp, inR_n, e3, mg, q, F.c51]
theorem RE_RE {f s f' s' : Nat → Int32} : RE (RE h f s) f' s' = RE h f' s' := by
  unfold RE
  rw [← hp_cm (h := hp h 84 (iA 9 f)) (a := 84) (b := 85) (by decide), hp_hp, hp_hp]
theorem m_mg {io wl pl sp wa se bc sv bq : Int32} (h0 : hg h 55 = oB 12 (MO io wl pl sp wa se bc sv bq)) (h1 : hg h 56 = iA 16450 S) {f8 : Nat → Int32} (hS : ∀ i, i < 18 → S (628 + i) = f8 i) (hP : PRS f8) {k : Nat} (hk : k ∈ ORL) (f s : Nat → Int32) : ∃ f' s', (ev X 224 0 [.ref 55, .int (nI k), .float 0, .float 0, .float 0, .float 0, .float 0, .float 0, .float 0, .float 0, .float 0] [] (RE h f s)) = some (some (.int (mgv f8 k)), (RE h f' s')) := by
  obtain ⟨f', s', e, -⟩ := m_marginOf (X := X) (h := RE h f s) (f := f) (s := s) ((RE_off (by decide) (by decide)).trans h0) ((RE_off (by decide) (by decide)).trans h1) hS hP hk RE_84 RE_85
  rw [RE_RE] at e
  exact ⟨f', s', e⟩
theorem m_ord {k : Nat} (hk : k < 223) : (ev X 223 0 [.int (nI k), .float 0, .float 0, .float 0] [] (h)) = some (some (.int (if k ∈ ORL then 1 else 0)), (h)) := by
  obtain ⟨v, e, q⟩ := m_isOrder (X := X) (h := h) (o := nI k)
  rw [ORI_n (by omega)] at q
  rcases q with ⟨rfl, q⟩ | ⟨rfl, q⟩
  · rw [if_pos q]; exact e
  · rw [if_neg q]; exact e
theorem m_bo {io wl pl sp wa se bc sv bq : Int32} (h0 : hg h 55 = oB 12 (MO io wl pl sp wa se bc sv bq)) (h1 : hg h 56 = iA 16450 S) {f8 : Nat → Int32} (hS : ∀ i, i < 18 → S (628 + i) = f8 i) (hP : PRS f8) : ∀ (d i : Nat) (s : Nat × Int32) (f g : Nat → Int32) (a4 : Value), i + d = 223 → s.1 < 223 → ∃ f' g', ev X 227 6 [.ref 55, .int (nI s.1), .int s.2, .int (nI i), a4] [] (RE h f g) = some (some (.int (nI (bo (mgv f8) (ORL.filter (fun k => decide (i ≤ k))) s).1)), (RE h f' g'))
  | 0, i, s, f, g, a4, e, hs => by
    have e : i = 223 := by omega
    subst e
    have l : ¬ nI 223 < 223 := by decide
    refine ⟨f, g, ?_⟩
    rw [s227_6, show ORL.filter (fun k => decide (223 ≤ k)) = [] by decide]
    simp only [s227_0, s227_1, s227_2, s227_3, s227_4, s227_5, s227_7, s227_10, s227_13, s227_14, s227_17, s227_20, s227_21, s227_22, s227_25, s227_27, s227_28, s227_29, s227_32, s227_34, s227_35, s227_38, s227_39, s227_40, s227_42, s227_43, s227_46, s227_49, s227_50, okF, okA, mcC_o, mcF_o, mcT_i, mcT_l, mcT_z, mcT_q, mcN_i, mcN_l, mcN_z, mcN_q, mcI_i, mcI_z, mcL_l, mcQ_q, hg_hp, hp_hp, List.getD_cons_zero, List.getD_cons_succ, List.set_cons_zero, List.set_cons_succ, List.length_cons, List.length_nil, Nat.reduceAdd, Nat.reduceLT, Nat.reduceEqDiff, Nat.lt_add_one, decide_true, decide_false, Bool.and_true, Bool.true_and, Bool.and_false, Bool.false_and, Bool.false_eq_true, if_true, if_false, ↓reduceIte, Option.bind_some, Option.bind_none, kont_v, kont_n, l]
    rfl
  | d + 1, i, s, f, g, a4, e, hs => by
    have l : nI i < 223 := nI_lt (a := i) (b := 223) (by omega) (by decide)
    have i1 : nI i + 1 = nI (i + 1) := nI_add i 1
    have io' := m_ord (X := X) (h := RE h f g) (k := i) (by omega)
    have nb : ¬ nI s.1 = -1 := by
      intro z
      have q := nI_pos (show s.1 < 2 ^ 31 by omega)
      rw [z] at q
      exact q (by decide)
    rw [ORL_f i (by omega)]
    by_cases k : i ∈ ORL
    · obtain ⟨f1, g1, mg⟩ := m_mg (X := X) h0 h1 hS hP k f g
      rw [if_pos k] at io'
      rw [if_pos k]
      by_cases q : s.2 < mgv f8 i
      · obtain ⟨f2, g2, ih⟩ := m_bo h0 h1 hS hP d (i + 1) (i, mgv f8 i) f1 g1 (.int (mgv f8 i)) (by omega) (by show i < 223; omega)
        refine ⟨f2, g2, ?_⟩
        show _ = some (some (Value.int (nI (bo _ _ (if _ then _ else _)).1)), _)
        rw [if_pos q, ← ih, s227_6]
        simp only [s227_0, s227_1, s227_2, s227_3, s227_4, s227_5, s227_7, s227_10, s227_13, s227_14, s227_17, s227_20, s227_21, s227_22, s227_25, s227_27, s227_28, s227_29, s227_32, s227_34, s227_35, s227_38, s227_39, s227_40, s227_42, s227_43, s227_46, s227_49, s227_50, okF, okA, mcC_o, mcF_o, mcT_i, mcT_l, mcT_z, mcT_q, mcN_i, mcN_l, mcN_z, mcN_q, mcI_i, mcI_z, mcL_l, mcQ_q, hg_hp, hp_hp, List.getD_cons_zero, List.getD_cons_succ, List.set_cons_zero, List.set_cons_succ, List.length_cons, List.length_nil, Nat.reduceAdd, Nat.reduceLT, Nat.reduceEqDiff, Nat.lt_add_one, decide_true, decide_false, Bool.and_true, Bool.true_and, Bool.and_false, Bool.false_and, Bool.false_eq_true, if_true, if_false, ↓reduceIte, Option.bind_some, Option.bind_none, kont_v, kont_n, l, i1, io', one0, mg, nb, q, (RE_off (B := h) (f := f) (s := g) (k := 55) (by decide) (by decide)).trans h0]
      · obtain ⟨f2, g2, ih⟩ := m_bo h0 h1 hS hP d (i + 1) s f1 g1 (.int (mgv f8 i)) (by omega) hs
        refine ⟨f2, g2, ?_⟩
        show _ = some (some (Value.int (nI (bo _ _ (if _ then _ else _)).1)), _)
        rw [if_neg q, ← ih, s227_6]
        simp only [s227_0, s227_1, s227_2, s227_3, s227_4, s227_5, s227_7, s227_10, s227_13, s227_14, s227_17, s227_20, s227_21, s227_22, s227_25, s227_27, s227_28, s227_29, s227_32, s227_34, s227_35, s227_38, s227_39, s227_40, s227_42, s227_43, s227_46, s227_49, s227_50, okF, okA, mcC_o, mcF_o, mcT_i, mcT_l, mcT_z, mcT_q, mcN_i, mcN_l, mcN_z, mcN_q, mcI_i, mcI_z, mcL_l, mcQ_q, hg_hp, hp_hp, List.getD_cons_zero, List.getD_cons_succ, List.set_cons_zero, List.set_cons_succ, List.length_cons, List.length_nil, Nat.reduceAdd, Nat.reduceLT, Nat.reduceEqDiff, Nat.lt_add_one, decide_true, decide_false, Bool.and_true, Bool.true_and, Bool.and_false, Bool.false_and, Bool.false_eq_true, if_true, if_false, ↓reduceIte, Option.bind_some, Option.bind_none, kont_v, kont_n, l, i1, io', one0, mg, nb, q, (RE_off (B := h) (f := f) (s := g) (k := 55) (by decide) (by decide)).trans h0]
    · rw [if_neg k] at io'
      rw [if_neg k]
      obtain ⟨f2, g2, ih⟩ := m_bo h0 h1 hS hP d (i + 1) s f g a4 (by omega) hs
      refine ⟨f2, g2, ?_⟩
      rw [← ih, s227_6]
      simp only [s227_0, s227_1, s227_2, s227_3, s227_4, s227_5, s227_7, s227_10, s227_13, s227_14, s227_17, s227_20, s227_21, s227_22, s227_25, s227_27, s227_28, s227_29, s227_32, s227_34, s227_35, s227_38, s227_39, s227_40, s227_42, s227_43, s227_46, s227_49, s227_50, okF, okA, mcC_o, mcF_o, mcT_i, mcT_l, mcT_z, mcT_q, mcN_i, mcN_l, mcN_z, mcN_q, mcI_i, mcI_z, mcL_l, mcQ_q, hg_hp, hp_hp, List.getD_cons_zero, List.getD_cons_succ, List.set_cons_zero, List.set_cons_succ, List.length_cons, List.length_nil, Nat.reduceAdd, Nat.reduceLT, Nat.reduceEqDiff, Nat.lt_add_one, decide_true, decide_false, Bool.and_true, Bool.true_and, Bool.and_false, Bool.false_and, Bool.false_eq_true, if_true, if_false, ↓reduceIte, Option.bind_some, Option.bind_none, kont_v, kont_n, l, i1, io']
theorem m_bo0 {io wl pl sp wa se bc sv bq : Int32} (h0 : hg h 55 = oB 12 (MO io wl pl sp wa se bc sv bq)) (h1 : hg h 56 = iA 16450 S) {f8 : Nat → Int32} (hS : ∀ i, i < 18 → S (628 + i) = f8 i) (hP : PRS f8) : ∀ (d i : Nat) (f g : Nat → Int32) (a4 : Value), i + d = 12 → ∃ f' g', ev X 227 6 [.ref 55, .int (-1), .int 0, .int (nI i), a4] [] (RE h f g) = some (some (.int (nI (bo (mgv f8) (ORL.drop 1) (12, mgv f8 12)).1)), (RE h f' g'))
  | 0, i, f, g, a4, e => by
    have e : i = 12 := by omega
    subst e
    have l : nI 12 < 223 := by decide
    have i1 : nI 12 + 1 = nI 13 := nI_add 12 1
    have io' := m_ord (X := X) (h := RE h f g) (k := 12) (by decide)
    rw [if_pos (by decide)] at io'
    obtain ⟨f1, g1, mg⟩ := m_mg (X := X) h0 h1 hS hP (k := 12) (by decide) f g
    obtain ⟨f2, g2, ih⟩ := m_bo (X := X) h0 h1 hS hP 210 13 (12, mgv f8 12) f1 g1 (.int (mgv f8 12)) (by decide) (by show 12 < 223; decide)
    rw [show ORL.filter (fun k => decide (13 ≤ k)) = ORL.drop 1 by decide] at ih
    refine ⟨f2, g2, ?_⟩
    rw [← ih, s227_6]
    simp only [s227_0, s227_1, s227_2, s227_3, s227_4, s227_5, s227_7, s227_10, s227_13, s227_14, s227_17, s227_20, s227_21, s227_22, s227_25, s227_27, s227_28, s227_29, s227_32, s227_34, s227_35, s227_38, s227_39, s227_40, s227_42, s227_43, s227_46, s227_49, s227_50, okF, okA, mcC_o, mcF_o, mcT_i, mcT_l, mcT_z, mcT_q, mcN_i, mcN_l, mcN_z, mcN_q, mcI_i, mcI_z, mcL_l, mcQ_q, hg_hp, hp_hp, List.getD_cons_zero, List.getD_cons_succ, List.set_cons_zero, List.set_cons_succ, List.length_cons, List.length_nil, Nat.reduceAdd, Nat.reduceLT, Nat.reduceEqDiff, Nat.lt_add_one, decide_true, decide_false, Bool.and_true, Bool.true_and, Bool.and_false, Bool.false_and, Bool.false_eq_true, if_true, if_false, ↓reduceIte, Option.bind_some, Option.bind_none, kont_v, kont_n, l, i1, io', one0, mg, eq_self, (RE_off (B := h) (f := f) (s := g) (k := 55) (by decide) (by decide)).trans h0]
  | d + 1, i, f, g, a4, e => by
    have l : nI i < 223 := nI_lt (a := i) (b := 223) (by omega) (by decide)
    have i1 : nI i + 1 = nI (i + 1) := nI_add i 1
    have io' := m_ord (X := X) (h := RE h f g) (k := i) (by omega)
    have k : ¬ i ∈ ORL := by
      have : ∀ i, i < 12 → ¬ i ∈ ORL := by decide
      exact this i (by omega)
    rw [if_neg k] at io'
    obtain ⟨f2, g2, ih⟩ := m_bo0 h0 h1 hS hP d (i + 1) f g a4 (by omega)
    refine ⟨f2, g2, ?_⟩
    rw [← ih, s227_6]
    simp only [s227_0, s227_1, s227_2, s227_3, s227_4, s227_5, s227_7, s227_10, s227_13, s227_14, s227_17, s227_20, s227_21, s227_22, s227_25, s227_27, s227_28, s227_29, s227_32, s227_34, s227_35, s227_38, s227_39, s227_40, s227_42, s227_43, s227_46, s227_49, s227_50, okF, okA, mcC_o, mcF_o, mcT_i, mcT_l, mcT_z, mcT_q, mcN_i, mcN_l, mcN_z, mcN_q, mcI_i, mcI_z, mcL_l, mcQ_q, hg_hp, hp_hp, List.getD_cons_zero, List.getD_cons_succ, List.set_cons_zero, List.set_cons_succ, List.length_cons, List.length_nil, Nat.reduceAdd, Nat.reduceLT, Nat.reduceEqDiff, Nat.lt_add_one, decide_true, decide_false, Bool.and_true, Bool.true_and, Bool.and_false, Bool.false_and, Bool.false_eq_true, if_true, if_false, ↓reduceIte, Option.bind_some, Option.bind_none, kont_v, kont_n, l, i1, io']
theorem S_bestOrder (I : INVD t h D S IM KP) : SAME X t h 142 [.ref 0] 227 [.ref 55, .float 0, .float 0, .float 0, .float 0] := by
  have I' := I
  obtain ⟨L, F, M, R, N, G⟩ := I
  have hP : PRS (D.2.1 8) := N.2.2.2.2.2.2.1
  obtain ⟨A, h52⟩ := F.c52
  obtain ⟨r0, -⟩ := roF1
  have o0 : inR 0 6 = true := by decide
  have c0 : (0 : Int32).toNatClampNeg = 0 := rfl
  obtain ⟨A1, mg⟩ := c_mg (X := X) L F hP (k := 12) (by decide) A
  obtain ⟨A2, lp⟩ := c_bo (X := X) L F hP 5 1 (12, mgv (D.2.1 8) 12) A1 (.float 0) (by decide)
  rw [hp_self h52] at mg
  rw [show nI 12 = 12 from rfl] at mg
  rw [show nI 1 = 1 from rfl] at lp
  have e12 : nI (12, mgv (D.2.1 8) 12).1 = 12 := rfl
  rw [e12] at lp
  have K : COK h (hp h 52 (iA 18 A2)) := (COK.refl F).put (k := 52) (by decide) ⟨_, rfl⟩
  refine step_ok I' (D' := D) (v := .int (nI (bo (mgv (D.2.1 8)) (ORL.drop 1) (12, mgv (D.2.1 8) 12)).1)) ⟨_, by simp only [s142_0, s142_1, s142_4, s142_7, s97_0, s97_3, s97_4, s97_4_r1, s97_4_r2, s97_4_r3, s97_5, s97_6, s97_7, s97_8, s97_11, s97_12, s97_13, s97_15, s97_19, s97_22, s97_23, s97_26, s97_27, s97_27_r1, s97_27_r2, s97_27_r3, s97_28, s97_31, s97_33, s97_35, s97_36, s97_39, s97_42, s97_43, s97_43_r1, s97_43_r2, s97_43_r3, s97_44, s97_45, s97_47, s97_48, s97_51, s97_54, s97_55, okF, okA, mcC_o, mcF_o, mcT_i, mcT_l, mcT_z, mcT_q, mcN_i, mcN_l, mcN_z, mcN_q, mcI_i, mcI_z, mcL_l, mcQ_q, hg_hp, hp_hp, List.getD_cons_zero, List.getD_cons_succ, List.set_cons_zero, List.set_cons_succ, List.length_cons, List.length_nil, Nat.reduceAdd, Nat.reduceLT, Nat.reduceEqDiff, Nat.lt_add_one, decide_true, decide_false, Bool.and_true, Bool.true_and, Bool.and_false, Bool.false_and, Bool.false_eq_true, if_true, if_false, ↓reduceIte, Option.bind_some, Option.bind_none, kont_v, kont_n, F.c0, F.c51, r0, o0, c0, mg, lp], K, hp_lg L (by decide)⟩ (fun h' F' M' => ?_) R (N.mono (by omega))
  obtain ⟨io, wl, pl, sp, wa, se, bc, sv, bq, h0⟩ := F'.c55
  obtain ⟨f, h84⟩ := F'.c84
  obtain ⟨s, h85⟩ := F'.c85
  have hS : ∀ i, i < 18 → S (628 + i) = D.2.1 8 i := fun c hc => R.s (i := 8) (by decide) (by decide) hc rfl
  have es : RE h' f s = h' := by
    unfold RE
    rw [hp_self h84, hp_self h85]
  obtain ⟨f', s', lp⟩ := m_bo0 (X := X) h0 M'.1 hS hP 12 0 f s (.float 0) (by decide)
  rw [es, nI_0] at lp
  refine ⟨_, ?_, RE_MOK F' (f := f') (s := s'), M'.same (fun k h1 h2 => RE_off (by omega) (by omega))⟩
  simp only [s227_0, s227_1, s227_2, s227_3, s227_4, s227_5, s227_7, s227_10, s227_13, s227_14, s227_17, s227_20, s227_21, s227_22, s227_25, s227_27, s227_28, s227_29, s227_32, s227_34, s227_35, s227_38, s227_39, s227_40, s227_42, s227_43, s227_46, s227_49, s227_50, okF, okA, mcC_o, mcF_o, mcT_i, mcT_l, mcT_z, mcT_q, mcN_i, mcN_l, mcN_z, mcN_q, mcI_i, mcI_z, mcL_l, mcQ_q, hg_hp, hp_hp, List.getD_cons_zero, List.getD_cons_succ, List.set_cons_zero, List.set_cons_succ, List.length_cons, List.length_nil, Nat.reduceAdd, Nat.reduceLT, Nat.reduceEqDiff, Nat.lt_add_one, decide_true, decide_false, Bool.and_true, Bool.true_and, Bool.and_false, Bool.false_and, Bool.false_eq_true, if_true, if_false, ↓reduceIte, Option.bind_some, Option.bind_none, kont_v, kont_n, lp]
end BES

-- CONTRACTS of TouchLeague$Table
/-- what get answers -/
def tget (cap w : Int32) (f : Nat → Int32) (r q : Int32) : Int32 := if r < 0 then 0 else if r < cap then if q < 0 then 0 else if q < w then f (r * w + q).toNatClampNeg else 0 else 0
/-- a table's object and its row of numbers; N numbers, enough for each row and column -/
def tok (cap w : Int32) (N : Nat) : Prop := ∀ r q : Int32, ¬ r < 0 → r < cap → ¬ q < 0 → q < w → inR (r * w + q) N = true
theorem tb_has {X : MX} {h : MH} {t c : Nat} {r cap w rows : Int32} (ht : hg h t = oB 10 [.int cap, .int w, .ref c, .int rows]) : ev X 104 0 [.ref t, .int r] [] h = some (some (.int (if r < 0 then 0 else if r < rows then 1 else 0)), h) := by
  simp only [s104_0, s104_1, s104_4, s104_5, s104_6, s104_9, s104_12, s104_13, s104_16, s104_17, okF, okA, mcC_o, mcF_o, mcT_i, mcT_l, mcT_z, mcT_q, mcN_i, mcN_l, mcN_z, mcN_q, mcI_i, mcI_z, mcL_l, mcQ_q, hg_hp, hp_hp, List.getD_cons_zero, List.getD_cons_succ, List.set_cons_zero, List.set_cons_succ, List.length_cons, List.length_nil, Nat.reduceAdd, Nat.reduceLT, Nat.reduceEqDiff, Nat.lt_add_one, decide_true, decide_false, Bool.and_true, Bool.true_and, Bool.and_false, Bool.false_and, Bool.false_eq_true, if_true, if_false, ↓reduceIte, Option.bind_some, Option.bind_none, kont_v, kont_n, ht]
  by_cases h1 : r < 0
  · simp [h1]
  · by_cases h2 : r < rows
    · simp [h1, h2]
    · simp [h1, h2]
theorem tb_isFull {X : MX} {h : MH} {t c : Nat} {cap w rows : Int32} (ht : hg h t = oB 10 [.int cap, .int w, .ref c, .int rows]) : ev X 101 0 [.ref t] [] h = some (some (.int (if rows < cap then 0 else 1)), h) := by
  simp only [s101_0, s101_1, s101_4, s101_5, s101_8, s101_11, s101_12, s101_15, s101_16, okF, okA, mcC_o, mcF_o, mcT_i, mcT_l, mcT_z, mcT_q, mcN_i, mcN_l, mcN_z, mcN_q, mcI_i, mcI_z, mcL_l, mcQ_q, hg_hp, hp_hp, List.getD_cons_zero, List.getD_cons_succ, List.set_cons_zero, List.set_cons_succ, List.length_cons, List.length_nil, Nat.reduceAdd, Nat.reduceLT, Nat.reduceEqDiff, Nat.lt_add_one, decide_true, decide_false, Bool.and_true, Bool.true_and, Bool.and_false, Bool.false_and, Bool.false_eq_true, if_true, if_false, ↓reduceIte, Option.bind_some, Option.bind_none, kont_v, kont_n, ht]
  by_cases h1 : rows < cap
  · simp [h1]
  · simp [h1]
theorem tb_get {X : MX} {h : MH} {t c N : Nat} {r q cap w rows : Int32} {f : Nat → Int32} (ht : hg h t = oB 10 [.int cap, .int w, .ref c, .int rows]) (hc : hg h c = iA N f) (ho : tok cap w N) : ev X 103 0 [.ref t, .int r, .int q, .float 0] [] h = some (some (.int (tget cap w f r q)), h) := by
  simp only [s103_0, s103_1, s103_4, s103_5, s103_6, s103_9, s103_12, s103_13, s103_16, s103_17, s103_18, s103_21, s103_24, s103_25, s103_28, s103_29, s103_30, s103_31, s103_34, s103_35, s103_38, s103_39, s103_40, s103_43, s103_44, s103_45, s103_46, s103_47, s103_50, s103_51, okF, okA, mcC_o, mcF_o, mcT_i, mcT_l, mcT_z, mcT_q, mcN_i, mcN_l, mcN_z, mcN_q, mcI_i, mcI_z, mcL_l, mcQ_q, hg_hp, hp_hp, List.getD_cons_zero, List.getD_cons_succ, List.set_cons_zero, List.set_cons_succ, List.length_cons, List.length_nil, Nat.reduceAdd, Nat.reduceLT, Nat.reduceEqDiff, Nat.lt_add_one, decide_true, decide_false, Bool.and_true, Bool.true_and, Bool.and_false, Bool.false_and, Bool.false_eq_true, if_true, if_false, ↓reduceIte, Option.bind_some, Option.bind_none, kont_v, kont_n, ht, hc]
  unfold tget
  by_cases h1 : r < 0
  · simp [h1]
  · by_cases h2 : r < cap
    · by_cases h3 : q < 0
      · simp [h1, h2, h3]
      · by_cases h4 : q < w
        · have := ho r q h1 h2 h3 h4
          simp [h1, h2, h3, h4, this]
        · simp [h1, h2, h3, h4]
    · simp [h1, h2]
/-- what set lays -/
def tset (cap w : Int32) (f : Nat → Int32) (r q x : Int32) : Nat → Int32 := if r < 0 then f else if r < cap then if q < 0 then f else if q < w then upd f (r * w + q).toNatClampNeg x else f else f
theorem hp_self {h : MH} {a : Nat} {c : MC} (hc : hg h a = c) : hp h a c = h := by
  obtain ⟨n, s, f⟩ := h
  unfold hp
  simp only [Prod.mk.injEq, true_and]
  funext j
  split
  · rename_i e; rw [e]; exact hc.symm
  · rfl
theorem tb_set {X : MX} {h : MH} {t c N : Nat} {r q x cap w rows : Int32} {f : Nat → Int32} (ht : hg h t = oB 10 [.int cap, .int w, .ref c, .int rows]) (hc : hg h c = iA N f) (ho : tok cap w N) : ev X 102 0 [.ref t, .int r, .int q, .int x] [] h = some (none, hp h c (iA N (tset cap w f r q x))) := by
  simp only [s102_0, s102_1, s102_4, s102_5, s102_6, s102_9, s102_12, s102_13, s102_16, s102_17, s102_18, s102_21, s102_24, s102_25, s102_28, s102_29, s102_30, s102_33, s102_34, s102_35, s102_36, s102_37, s102_38, okF, okA, mcC_o, mcF_o, mcT_i, mcT_l, mcT_z, mcT_q, mcN_i, mcN_l, mcN_z, mcN_q, mcI_i, mcI_z, mcL_l, mcQ_q, hg_hp, hp_hp, List.getD_cons_zero, List.getD_cons_succ, List.set_cons_zero, List.set_cons_succ, List.length_cons, List.length_nil, Nat.reduceAdd, Nat.reduceLT, Nat.reduceEqDiff, Nat.lt_add_one, decide_true, decide_false, Bool.and_true, Bool.true_and, Bool.and_false, Bool.false_and, Bool.false_eq_true, if_true, if_false, ↓reduceIte, Option.bind_some, Option.bind_none, kont_v, kont_n, ht, hc]
  unfold tset
  by_cases h1 : r < 0
  · simp [h1, hp_self hc]
  · by_cases h2 : r < cap
    · by_cases h3 : q < 0
      · simp [h1, h2, h3, hp_self hc]
      · by_cases h4 : q < w
        · have := ho r q h1 h2 h3 h4
          simp [h1, h2, h3, h4, this]
        · simp [h1, h2, h3, h4, hp_self hc]
    · simp [h1, h2, hp_self hc]
theorem tb_raise {X : MX} {h : MH} {t c N : Nat} {r q x cap w rows : Int32} {f : Nat → Int32} (ht : hg h t = oB 10 [.int cap, .int w, .ref c, .int rows]) (hc : hg h c = iA N f) (ho : tok cap w N) : ev X 105 0 [.ref t, .int r, .int q, .int x] [] h = some (none, hp h c (iA N (tset cap w f r q (tget cap w f r q + x)))) := by
  simp only [s105_0, s105_1, s105_2, s105_3, s105_4, s105_5, s105_6, s105_9, s105_10, s105_11, s105_14, okF, okA, mcC_o, mcF_o, mcT_i, mcT_l, mcT_z, mcT_q, mcN_i, mcN_l, mcN_z, mcN_q, mcI_i, mcI_z, mcL_l, mcQ_q, hg_hp, hp_hp, List.getD_cons_zero, List.getD_cons_succ, List.set_cons_zero, List.set_cons_succ, List.length_cons, List.length_nil, Nat.reduceAdd, Nat.reduceLT, Nat.reduceEqDiff, Nat.lt_add_one, decide_true, decide_false, Bool.and_true, Bool.true_and, Bool.and_false, Bool.false_and, Bool.false_eq_true, if_true, if_false, ↓reduceIte, Option.bind_some, Option.bind_none, kont_v, kont_n, ht, tb_get ht hc ho, tb_set ht hc ho]
-- NUMBERS
theorem tok_n {C W : Nat} (hC : C < 2 ^ 31) (hW : W < 2 ^ 31) (hN : C * W < 2 ^ 31) : tok (nI C) (nI W) (C * W) := by
  intro r q h1 h2 h3 h4
  obtain ⟨r', hr, rfl⟩ := nI_of h1
  obtain ⟨q', hq, rfl⟩ := nI_of h3
  have a := (nI_ltI hr hC).mp h2
  have b := (nI_ltI hq hW).mp h4
  rw [nI_mul, nI_add]
  refine inR_n ?_ hN
  calc r' * W + q' < r' * W + W := by omega
    _ = (r' + 1) * W := by rw [Nat.add_mul, Nat.one_mul]
    _ ≤ C * W := Nat.mul_le_mul_right W a
theorem cell_lt {C W r q : Nat} (hr : r < C) (hq : q < W) : r * W + q < C * W := by
  calc r * W + q < r * W + W := by omega
    _ = (r + 1) * W := by rw [Nat.add_mul, Nat.one_mul]
    _ ≤ C * W := Nat.mul_le_mul_right W hr
theorem tget_n {C W r q : Nat} {f : Nat → Int32} (hC : C < 2 ^ 31) (hW : W < 2 ^ 31) (hN : C * W < 2 ^ 31) (hr : r < C) (hq : q < W) : tget (nI C) (nI W) f (nI r) (nI q) = f (r * W + q) := by
  unfold tget
  have h1 := cell_lt hr hq
  rw [if_neg (nI_pos (by omega)), if_pos (nI_lt hr hC), if_neg (nI_pos (by omega)), if_pos (nI_lt hq hW), nI_mul, nI_add, nI_clamp (by omega)]
theorem tset_n {C W r q : Nat} {f : Nat → Int32} {x : Int32} (hC : C < 2 ^ 31) (hW : W < 2 ^ 31) (hN : C * W < 2 ^ 31) (hr : r < C) (hq : q < W) : tset (nI C) (nI W) f (nI r) (nI q) x = upd f (r * W + q) x := by
  unfold tset
  have h1 := cell_lt hr hq
  rw [if_neg (nI_pos (by omega)), if_pos (nI_lt hr hC), if_neg (nI_pos (by omega)), if_pos (nI_lt hq hW), nI_mul, nI_add, nI_clamp (by omega)]
/-- a table: capacity C, width W, R rows, numbers f; t its object, c its array -/
def TAB (h : MH) (t c C W R : Nat) (f : Nat → Int32) : Prop := hg h t = oB 10 [.int (nI C), .int (nI W), .ref c, .int (nI R)] ∧ hg h c = iA (C * W) f ∧ C < 2 ^ 31 ∧ W < 2 ^ 31 ∧ C * W < 2 ^ 31 ∧ t ≠ c
theorem TAB.ok {h : MH} {t c C W R : Nat} {f : Nat → Int32} (T : TAB h t c C W R f) : tok (nI C) (nI W) (C * W) := tok_n T.2.2.1 T.2.2.2.1 T.2.2.2.2.1
section TBL
variable {X : MX} {h : MH} {t c C W R : Nat} {f : Nat → Int32}
theorem TAB.get (T : TAB h t c C W R f) {r q : Nat} (hr : r < C) (hq : q < W) : ev X 103 0 [.ref t, .int (nI r), .int (nI q), .float 0] [] h = some (some (.int (f (r * W + q))), h) := by
  rw [tb_get T.1 T.2.1 T.ok, tget_n T.2.2.1 T.2.2.2.1 T.2.2.2.2.1 hr hq]
theorem TAB.set (T : TAB h t c C W R f) {r q : Nat} {x : Int32} (hr : r < C) (hq : q < W) : ev X 102 0 [.ref t, .int (nI r), .int (nI q), .int x] [] h = some (none, hp h c (iA (C * W) (upd f (r * W + q) x))) := by
  rw [tb_set T.1 T.2.1 T.ok, tset_n T.2.2.1 T.2.2.2.1 T.2.2.2.2.1 hr hq]
theorem TAB.raise (T : TAB h t c C W R f) {r q : Nat} {x : Int32} (hr : r < C) (hq : q < W) : ev X 105 0 [.ref t, .int (nI r), .int (nI q), .int x] [] h = some (none, hp h c (iA (C * W) (upd f (r * W + q) (f (r * W + q) + x)))) := by
  rw [tb_raise T.1 T.2.1 T.ok, tget_n T.2.2.1 T.2.2.2.1 T.2.2.2.2.1 hr hq, tset_n T.2.2.1 T.2.2.2.1 T.2.2.2.2.1 hr hq]
theorem TAB.has (T : TAB h t c C W R f) (hR : R < 2 ^ 31) {r : Int32} : ev X 104 0 [.ref t, .int r] [] h = some (some (.int (if r < 0 then 0 else if r < nI R then 1 else 0)), h) := tb_has T.1
theorem TAB.isFull (T : TAB h t c C W R f) (hR : R ≤ C) : ev X 101 0 [.ref t] [] h = some (some (.int (if R = C then 1 else 0)), h) := by
  rw [tb_isFull T.1]
  by_cases e : R = C
  · rw [if_pos e, e, if_neg (nI_nlt (Nat.le_refl _) T.2.2.1)]
  · rw [if_neg e, if_pos (nI_lt (by omega) T.2.2.1)]
theorem TAB.put (T : TAB h t c C W R f) (g : Nat → Int32) : TAB (hp h c (iA (C * W) g)) t c C W R g := by
  obtain ⟨h1, h2, h3, h4, h5, h6⟩ := T
  refine ⟨?_, ?_, h3, h4, h5, h6⟩
  · rw [hg_hp, if_neg h6]; exact h1
  · rw [hg_hp, if_pos rfl]
theorem TAB.rows (T : TAB h t c C W R f) (R' : Nat) : TAB (hp h t (oB 10 [.int (nI C), .int (nI W), .ref c, .int (nI R')])) t c C W R' f := by
  obtain ⟨h1, h2, h3, h4, h5, h6⟩ := T
  refine ⟨?_, ?_, h3, h4, h5, h6⟩
  · rw [hg_hp, if_pos rfl]
  · rw [hg_hp, if_neg (Ne.symm h6)]; exact h2
theorem TAB.off (T : TAB h t c C W R f) {a : Nat} {d : MC} (h1 : a ≠ t) (h2 : a ≠ c) : TAB (hp h a d) t c C W R f := by
  obtain ⟨q1, q2, h3, h4, h5, h6⟩ := T
  refine ⟨?_, ?_, h3, h4, h5, h6⟩
  · rw [hg_hp, if_neg (Ne.symm h1)]; exact q1
  · rw [hg_hp, if_neg (Ne.symm h2)]; exact q2
end TBL
/-- row R from column k on is 0 -/
def tzr (W R k : Nat) (f : Nat → Int32) : Nat → Int32 := fun i => if R * W + k ≤ i ∧ i < R * W + W then 0 else f i
theorem tzr_end (W R : Nat) (f : Nat → Int32) : tzr W R W f = f := by
  funext i
  unfold tzr
  rw [if_neg (by omega)]
theorem tzr_step {W R k : Nat} (f : Nat → Int32) (hk : k < W) : tzr W R (k + 1) (upd f (R * W + k) 0) = tzr W R k f := by
  funext i
  unfold tzr upd
  by_cases h1 : R * W + (k + 1) ≤ i ∧ i < R * W + W
  · rw [if_pos h1, if_pos (by omega)]
  · rw [if_neg h1]
    by_cases h2 : i = R * W + k
    · rw [if_pos h2, if_pos (by omega)]
    · rw [if_neg h2, if_neg (by omega)]
theorem tb_add_loop {X : MX} {t c C W R Q : Nat} (hR : R < C) : ∀ (n k : Nat) (h : MH) (f : Nat → Int32), k + n = W → TAB h t c C W Q f → ev X 100 26 [.ref t, .int (nI R), .int (nI k)] [] h = some (some (.int (nI R)), hp h c (iA (C * W) (tzr W R k f)))
  | 0, k, h, f, hk, T => by
    have e : k = W := by omega
    subst e
    have h0 := nI_nlt (Nat.le_refl k) T.2.2.2.1
    rw [tzr_end, hp_self T.2.1]
    simp only [s100_0, s100_1, s100_4, s100_7, s100_8, s100_9, s100_10, s100_13, s100_14, s100_15, s100_16, s100_19, s100_20, s100_21, s100_24, s100_25, s100_26, s100_27, s100_28, s100_31, s100_34, s100_35, s100_36, s100_37, s100_38, s100_41, s100_44, s100_47, s100_48, okF, okA, mcC_o, mcF_o, mcT_i, mcT_l, mcT_z, mcT_q, mcN_i, mcN_l, mcN_z, mcN_q, mcI_i, mcI_z, mcL_l, mcQ_q, hg_hp, hp_hp, List.getD_cons_zero, List.getD_cons_succ, List.set_cons_zero, List.set_cons_succ, List.length_cons, List.length_nil, Nat.reduceAdd, Nat.reduceLT, Nat.reduceEqDiff, Nat.lt_add_one, decide_true, decide_false, Bool.and_true, Bool.true_and, Bool.and_false, Bool.false_and, Bool.false_eq_true, if_true, if_false, ↓reduceIte, Option.bind_some, Option.bind_none, kont_v, kont_n, T.1, h0]
  | n + 1, k, h, f, hk, T => by
    have hkw : k < W := by omega
    have h0 := nI_lt hkw T.2.2.2.1
    have ih := tb_add_loop (X := X) hR n (k + 1) (hp h c (iA (C * W) (upd f (R * W + k) 0))) (upd f (R * W + k) 0) (by omega) (T.put _)
    rw [hp_hp, tzr_step f hkw] at ih
    rw [s100_26]
    have hs := T.set (X := X) (x := 0) hR hkw
    simp only [s100_0, s100_1, s100_4, s100_7, s100_8, s100_9, s100_10, s100_13, s100_14, s100_15, s100_16, s100_19, s100_20, s100_21, s100_24, s100_25, s100_27, s100_28, s100_31, s100_34, s100_35, s100_36, s100_37, s100_38, s100_41, s100_44, s100_47, s100_48, okF, okA, mcC_o, mcF_o, mcT_i, mcT_l, mcT_z, mcT_q, mcN_i, mcN_l, mcN_z, mcN_q, mcI_i, mcI_z, mcL_l, mcQ_q, hg_hp, hp_hp, List.getD_cons_zero, List.getD_cons_succ, List.set_cons_zero, List.set_cons_succ, List.length_cons, List.length_nil, Nat.reduceAdd, Nat.reduceLT, Nat.reduceEqDiff, Nat.lt_add_one, decide_true, decide_false, Bool.and_true, Bool.true_and, Bool.and_false, Bool.false_and, Bool.false_eq_true, if_true, if_false, ↓reduceIte, Option.bind_some, Option.bind_none, kont_v, kont_n, T.1, h0, hs, nI_1]
    exact ih
theorem TAB.add {X : MX} {h : MH} {t c C W R : Nat} {f : Nat → Int32} (T : TAB h t c C W R f) (hR : R < C) : ev X 100 0 [.ref t, .float 0, .float 0] [] h = some (some (.int (nI R)), hp (hp h t (oB 10 [.int (nI C), .int (nI W), .ref c, .int (nI (R + 1))])) c (iA (C * W) (tzr W R 0 f))) := by
  have hf := T.isFull (X := X) (by omega)
  rw [if_neg (by omega)] at hf
  have ih := tb_add_loop (X := X) (W := W) hR W 0 _ f (by omega) (T.rows (R + 1))
  rw [nI_0] at ih
  simp only [s100_0, s100_1, s100_4, s100_7, s100_8, s100_9, s100_10, s100_13, s100_14, s100_15, s100_16, s100_19, s100_20, s100_21, s100_24, s100_25, s100_27, s100_28, s100_31, s100_34, s100_35, s100_36, s100_37, s100_38, s100_41, s100_44, s100_47, s100_48, okF, okA, mcC_o, mcF_o, mcT_i, mcT_l, mcT_z, mcT_q, mcN_i, mcN_l, mcN_z, mcN_q, mcI_i, mcI_z, mcL_l, mcQ_q, hg_hp, hp_hp, List.getD_cons_zero, List.getD_cons_succ, List.set_cons_zero, List.set_cons_succ, List.length_cons, List.length_nil, Nat.reduceAdd, Nat.reduceLT, Nat.reduceEqDiff, Nat.lt_add_one, decide_true, decide_false, Bool.and_true, Bool.true_and, Bool.and_false, Bool.false_and, Bool.false_eq_true, if_true, if_false, ↓reduceIte, Option.bind_some, Option.bind_none, kont_v, kont_n, T.1, hf, nI_1]
  exact ih

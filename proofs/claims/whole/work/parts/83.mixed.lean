-- DIGEST: numbers mixed in
def mx (g : Nat → Int32) (v : Int64) : Nat → Int64
  | 0 => v
  | k + 1 => 31 * mx g v k + (g k).toInt64
theorem mx_add {g : Nat → Int32} {v : Int64} {a : Nat} : ∀ b, mx g v (a + b) = mx (fun k => g (a + k)) (mx g v a) b
  | 0 => rfl
  | b + 1 => by
    show 31 * mx g v (a + b) + (g (a + b)).toInt64 = _
    rw [mx_add b]
    rfl
theorem mx_congr {g g' : Nat → Int32} {v : Int64} : ∀ n, (∀ k, k < n → g k = g' k) → mx g v n = mx g' v n
  | 0, _ => rfl
  | n + 1, h => by
    show 31 * mx g v n + (g n).toInt64 = 31 * mx g' v n + (g' n).toInt64
    rw [mx_congr n (fun k hk => h k (by omega)), h n (by omega)]
/-- the first c columns of the rows, w columns each -/
def mr (f : Nat → Int32) (w c : Nat) (v : Int64) : Nat → Int64
  | 0 => v
  | r + 1 => mx (fun k => f (r * w + k)) (mr f w c v r) c
theorem mr_mx {f : Nat → Int32} {w : Nat} {v : Int64} : ∀ r, mr f w w v r = mx f v (w * r)
  | 0 => by rw [Nat.mul_zero]; rfl
  | r + 1 => by
    rw [Nat.mul_succ, mx_add, ← mr_mx r, Nat.mul_comm w r]
    rfl
section MIX
variable {X : MX} {t : Nat} {h H : MH} {D : LD} {S IM KP : Nat → Int32}
theorem m_mix_lp {io wl pl sp wa se bc sv bq : Int32} (h0 : hg h 55 = oB 12 (MO io wl pl sp wa se bc sv bq)) (h1 : hg h 56 = iA 16450 S) {a n : Nat} (ha : a + n ≤ 16450) {v : Int64} {a1 a2 : Value} : ∀ (d i : Nat), i + d = n → ev X 240 6 [.ref 55, a1, a2, .int (nI a), .int (nI n), .long (mx (fun k => S (a + k)) v i), .float 0, .int (nI i)] [] h = some (some (.long (mx (fun k => S (a + k)) v n)), (h))
  | 0, i, e => by
    have e : i = n := by omega
    have l := nI_nlt (Nat.le_refl n) (show n < 2 ^ 31 by omega)
    subst e
    rw [s240_6]
    simp only [s240_0, s240_1, s240_3, s240_4, s240_8, s240_10, s240_13, s240_16, s240_18, s240_19, s240_20, s240_23, s240_24, s240_26, s240_27, s240_28, s240_29, s240_30, s240_32, s240_35, s240_38, s240_40, okF, okA, mcC_o, mcF_o, mcT_i, mcT_l, mcT_z, mcT_q, mcN_i, mcN_l, mcN_z, mcN_q, mcI_i, mcI_z, mcL_l, mcQ_q, hg_hp, hp_hp, List.getD_cons_zero, List.getD_cons_succ, List.set_cons_zero, List.set_cons_succ, List.length_cons, List.length_nil, Nat.reduceAdd, Nat.reduceLT, Nat.reduceEqDiff, Nat.lt_add_one, decide_true, decide_false, Bool.and_true, Bool.true_and, Bool.and_false, Bool.false_and, Bool.false_eq_true, if_true, if_false, ↓reduceIte, Option.bind_some, Option.bind_none, kont_v, kont_n, l]
  | d + 1, i, e => by
    have l := nI_lt (show i < n by omega) (show n < 2 ^ 31 by omega)
    have p1 : nI i + 1 = nI (i + 1) := nI_add i 1
    have ih := m_mix_lp h0 h1 ha (v := v) (a1 := a1) (a2 := a2) d (i + 1) (by omega)
    have er : mx (fun k => S (a + k)) v (i + 1) = 31 * mx (fun k => S (a + k)) v i + (S (a + i)).toInt64 := rfl
    rw [← ih, er, s240_6]
    simp (disch := omega) only [s240_0, s240_1, s240_3, s240_4, s240_8, s240_10, s240_13, s240_16, s240_18, s240_19, s240_20, s240_23, s240_24, s240_26, s240_27, s240_28, s240_29, s240_30, s240_32, s240_35, s240_38, s240_40, okF, okA, mcC_o, mcF_o, mcT_i, mcT_l, mcT_z, mcT_q, mcN_i, mcN_l, mcN_z, mcN_q, mcI_i, mcI_z, mcL_l, mcQ_q, hg_hp, hp_hp, List.getD_cons_zero, List.getD_cons_succ, List.set_cons_zero, List.set_cons_succ, List.length_cons, List.length_nil, Nat.reduceAdd, Nat.reduceLT, Nat.reduceEqDiff, Nat.lt_add_one, decide_true, decide_false, Bool.and_true, Bool.true_and, Bool.and_false, Bool.false_and, Bool.false_eq_true, if_true, if_false, ↓reduceIte, Option.bind_some, Option.bind_none, kont_v, kont_n, MO_len, MO_0, h0, h1, l, p1, nI_add, nI_clamp, inR_n]
theorem m_mixed {io wl pl sp wa se bc sv bq : Int32} (h0 : hg h 55 = oB 12 (MO io wl pl sp wa se bc sv bq)) (h1 : hg h 56 = iA 16450 S) {a n : Nat} (ha : a + n ≤ 16450) {v : Int64} : (ev X 240 0 [.ref 55, .long v, .float 0, .int (nI a), .int (nI n), .float 0, .float 0, .float 0] [] (h)) = some (some (.long (mx (fun k => S (a + k)) v n)), (h)) := by
  have lp := m_mix_lp (X := X) h0 h1 ha (v := v) (a1 := .long v) (a2 := .float 0) n 0 (by omega)
  rw [show mx (fun k => S (a + k)) v 0 = v from rfl, nI_0] at lp
  simp only [s240_0, s240_1, s240_3, s240_4, s240_8, s240_10, s240_13, s240_16, s240_18, s240_19, s240_20, s240_23, s240_24, s240_26, s240_27, s240_28, s240_29, s240_30, s240_32, s240_35, s240_38, s240_40, okF, okA, mcC_o, mcF_o, mcT_i, mcT_l, mcT_z, mcT_q, mcN_i, mcN_l, mcN_z, mcN_q, mcI_i, mcI_z, mcL_l, mcQ_q, hg_hp, hp_hp, List.getD_cons_zero, List.getD_cons_succ, List.set_cons_zero, List.set_cons_succ, List.length_cons, List.length_nil, Nat.reduceAdd, Nat.reduceLT, Nat.reduceEqDiff, Nat.lt_add_one, decide_true, decide_false, Bool.and_true, Bool.true_and, Bool.and_false, Bool.false_and, Bool.false_eq_true, if_true, if_false, ↓reduceIte, Option.bind_some, Option.bind_none, kont_v, kont_n, lp]
theorem c_mix_in {tt c C W R : Nat} {f : Nat → Int32} (T : TAB h tt c C W R f) {n r : Nat} (hn : n ≤ W) (hr : r < C) (hW : W < 2 ^ 31) {v : Int64} : ∀ (d i : Nat), i + d = n → ev X 107 15 [.ref tt, .long (mx (fun k => f (r * W + k)) v i), .float 0, .int (nI n), .int (nI r), .int (nI i)] [] h = ev X 107 43 [.ref tt, .long (mx (fun k => f (r * W + k)) v n), .float 0, .int (nI n), .int (nI r), .int (nI n)] [] h
  | 0, i, e => by
    have e : i = n := by omega
    have l := nI_nlt (Nat.le_refl n) (show n < 2 ^ 31 by omega)
    subst e
    rw [s107_15]
    simp only [s107_0, s107_1, s107_5, s107_6, s107_9, s107_12, s107_13, s107_17, s107_18, s107_21, s107_24, s107_25, s107_26, s107_27, s107_29, s107_31, s107_34, s107_35, s107_36, s107_37, s107_40, s107_46, s107_49, s107_50, okF, okA, mcC_o, mcF_o, mcT_i, mcT_l, mcT_z, mcT_q, mcN_i, mcN_l, mcN_z, mcN_q, mcI_i, mcI_z, mcL_l, mcQ_q, hg_hp, hp_hp, List.getD_cons_zero, List.getD_cons_succ, List.set_cons_zero, List.set_cons_succ, List.length_cons, List.length_nil, Nat.reduceAdd, Nat.reduceLT, Nat.reduceEqDiff, Nat.lt_add_one, decide_true, decide_false, Bool.and_true, Bool.true_and, Bool.and_false, Bool.false_and, Bool.false_eq_true, if_true, if_false, ↓reduceIte, Option.bind_some, Option.bind_none, kont_v, kont_n, l]
  | d + 1, i, e => by
    have l := nI_lt (show i < n by omega) (show n < 2 ^ 31 by omega)
    have p1 : nI i + 1 = nI (i + 1) := nI_add i 1
    have g := T.get (X := X) (r := r) (q := i) hr (by omega)
    have ih := c_mix_in T hn hr hW (v := v) d (i + 1) (by omega)
    have er : mx (fun k => f (r * W + k)) v (i + 1) = 31 * mx (fun k => f (r * W + k)) v i + (f (r * W + i)).toInt64 := rfl
    rw [← ih, er, s107_15]
    simp only [s107_0, s107_1, s107_5, s107_6, s107_9, s107_12, s107_13, s107_17, s107_18, s107_21, s107_24, s107_25, s107_26, s107_27, s107_29, s107_31, s107_34, s107_35, s107_36, s107_37, s107_40, s107_46, s107_49, s107_50, okF, okA, mcC_o, mcF_o, mcT_i, mcT_l, mcT_z, mcT_q, mcN_i, mcN_l, mcN_z, mcN_q, mcI_i, mcI_z, mcL_l, mcQ_q, hg_hp, hp_hp, List.getD_cons_zero, List.getD_cons_succ, List.set_cons_zero, List.set_cons_succ, List.length_cons, List.length_nil, Nat.reduceAdd, Nat.reduceLT, Nat.reduceEqDiff, Nat.lt_add_one, decide_true, decide_false, Bool.and_true, Bool.true_and, Bool.and_false, Bool.false_and, Bool.false_eq_true, if_true, if_false, ↓reduceIte, Option.bind_some, Option.bind_none, kont_v, kont_n, T.1, l, p1, g]
theorem c_mix_lp {tt c C W R : Nat} {f : Nat → Int32} (T : TAB h tt c C W R f) {n : Nat} (hn : n ≤ W) (hR : R ≤ C) (hC : C < 2 ^ 31) (hW : W < 2 ^ 31) {v : Int64} : ∀ (d r : Nat) (a5 : Value), r + d = R → ev X 107 3 [.ref tt, .long (mr f W n v r), .float 0, .int (nI n), .int (nI r), a5] [] h = some (some (.long (mr f W n v R)), (h))
  | 0, r, a5, e => by
    have e : r = R := by omega
    have l := nI_nlt (Nat.le_refl R) (show R < 2 ^ 31 by omega)
    subst e
    rw [s107_3]
    simp only [s107_0, s107_1, s107_5, s107_6, s107_9, s107_12, s107_13, s107_17, s107_18, s107_21, s107_24, s107_25, s107_26, s107_27, s107_29, s107_31, s107_34, s107_35, s107_36, s107_37, s107_40, s107_43, s107_46, s107_49, s107_50, okF, okA, mcC_o, mcF_o, mcT_i, mcT_l, mcT_z, mcT_q, mcN_i, mcN_l, mcN_z, mcN_q, mcI_i, mcI_z, mcL_l, mcQ_q, hg_hp, hp_hp, List.getD_cons_zero, List.getD_cons_succ, List.set_cons_zero, List.set_cons_succ, List.length_cons, List.length_nil, Nat.reduceAdd, Nat.reduceLT, Nat.reduceEqDiff, Nat.lt_add_one, decide_true, decide_false, Bool.and_true, Bool.true_and, Bool.and_false, Bool.false_and, Bool.false_eq_true, if_true, if_false, ↓reduceIte, Option.bind_some, Option.bind_none, kont_v, kont_n, T.1, l]
  | d + 1, r, a5, e => by
    have l := nI_lt (show r < R by omega) (show R < 2 ^ 31 by omega)
    have p1 : nI r + 1 = nI (r + 1) := nI_add r 1
    have lp := c_mix_in (X := X) T hn (r := r) (by omega) hW (v := mr f W n v r) n 0 (by omega)
    rw [show mx (fun k => f (r * W + k)) (mr f W n v r) 0 = mr f W n v r from rfl, nI_0] at lp
    have ih := c_mix_lp T hn hR hC hW (v := v) d (r + 1) (.int (nI n)) (by omega)
    rw [← ih, show mr f W n v (r + 1) = mx (fun k => f (r * W + k)) (mr f W n v r) n from rfl, s107_3]
    simp only [s107_0, s107_1, s107_5, s107_6, s107_9, s107_12, s107_13, s107_17, s107_18, s107_21, s107_24, s107_25, s107_26, s107_27, s107_29, s107_31, s107_34, s107_35, s107_36, s107_37, s107_40, s107_43, s107_46, s107_49, s107_50, okF, okA, mcC_o, mcF_o, mcT_i, mcT_l, mcT_z, mcT_q, mcN_i, mcN_l, mcN_z, mcN_q, mcI_i, mcI_z, mcL_l, mcQ_q, hg_hp, hp_hp, List.getD_cons_zero, List.getD_cons_succ, List.set_cons_zero, List.set_cons_succ, List.length_cons, List.length_nil, Nat.reduceAdd, Nat.reduceLT, Nat.reduceEqDiff, Nat.lt_add_one, decide_true, decide_false, Bool.and_true, Bool.true_and, Bool.and_false, Bool.false_and, Bool.false_eq_true, if_true, if_false, ↓reduceIte, Option.bind_some, Option.bind_none, kont_v, kont_n, T.1, l, p1, lp]
theorem c_mixedInto {tt c C W R : Nat} {f : Nat → Int32} (T : TAB h tt c C W R f) {n : Nat} (hn : n ≤ W) (hR : R ≤ C) {v : Int64} : (ev X 107 0 [.ref tt, .long v, .float 0, .int (nI n), .float 0, .float 0] [] (h)) = some (some (.long (mr f W n v R)), (h)) := by
  have lp := c_mix_lp (X := X) T hn hR T.2.2.1 T.2.2.2.1 (v := v) R 0 (.float 0) (by omega)
  rw [show mr f W n v 0 = v from rfl, nI_0] at lp
  simp only [s107_0, s107_1, s107_5, s107_6, s107_9, s107_12, s107_13, s107_17, s107_18, s107_21, s107_24, s107_25, s107_26, s107_27, s107_29, s107_31, s107_34, s107_35, s107_36, s107_37, s107_40, s107_43, s107_46, s107_49, s107_50, okF, okA, mcC_o, mcF_o, mcT_i, mcT_l, mcT_z, mcT_q, mcN_i, mcN_l, mcN_z, mcN_q, mcI_i, mcI_z, mcL_l, mcQ_q, hg_hp, hp_hp, List.getD_cons_zero, List.getD_cons_succ, List.set_cons_zero, List.set_cons_succ, List.length_cons, List.length_nil, Nat.reduceAdd, Nat.reduceLT, Nat.reduceEqDiff, Nat.lt_add_one, decide_true, decide_false, Bool.and_true, Bool.true_and, Bool.and_false, Bool.false_and, Bool.false_eq_true, if_true, if_false, ↓reduceIte, Option.bind_some, Option.bind_none, kont_v, kont_n, lp]
end MIX

-- DIGEST: the texts mixed in
def tmx (f : Nat → Int32) (v : Int64) : Nat → Int64
  | 0 => v
  | x + 1 => mx (fun k => f (x * 51 + k)) (tmx f v x) (1 + fnn (f (x * 51)))
section MX2
variable {X : MX} {t : Nat} {h H : MH} {D : LD} {S IM KP : Nat → Int32}
theorem c_tx_in (L : LG h 1 D) (F : FIX h) {x m : Nat} (hx : x < 4) (hm : m ≤ 50) {v : Int64} : ∀ (d p : Nat), p + d = m → ev X 37 37 [.ref 23, .long (mx (fun k => D.2.1 4 (x * 51 + k)) v (1 + p)), .float 0, .int (nI x), .int (nI m), .int (nI p)] [] h = ev X 37 70 [.ref 23, .long (mx (fun k => D.2.1 4 (x * 51 + k)) v (1 + m)), .float 0, .int (nI x), .int (nI m), .int (nI m)] [] h
  | 0, p, e => by
    have e : p = m := by omega
    have l := nI_nlt (Nat.le_refl m) (show m < 2 ^ 31 by omega)
    subst e
    rw [s37_37]
    simp only [s37_0, s37_1, s37_3, s37_4, s37_7, s37_10, s37_13, s37_14, s37_17, s37_18, s37_19, s37_22, s37_24, s37_27, s37_28, s37_29, s37_31, s37_32, s37_33, s37_34, s37_35, s37_39, s37_41, s37_44, s37_47, s37_48, s37_49, s37_50, s37_53, s37_54, s37_55, s37_57, s37_58, s37_61, s37_62, s37_63, s37_64, s37_67, s37_73, s37_76, s37_77, okF, okA, mcC_o, mcF_o, mcT_i, mcT_l, mcT_z, mcT_q, mcN_i, mcN_l, mcN_z, mcN_q, mcI_i, mcI_z, mcL_l, mcQ_q, hg_hp, hp_hp, List.getD_cons_zero, List.getD_cons_succ, List.set_cons_zero, List.set_cons_succ, List.length_cons, List.length_nil, Nat.reduceAdd, Nat.reduceLT, Nat.reduceEqDiff, Nat.lt_add_one, decide_true, decide_false, Bool.and_true, Bool.true_and, Bool.and_false, Bool.false_and, Bool.false_eq_true, if_true, if_false, ↓reduceIte, Option.bind_some, Option.bind_none, kont_v, kont_n, l]
  | d + 1, p, e => by
    obtain ⟨a, b, e', w, v', e23⟩ := F.c23
    have l := nI_lt (show p < m by omega) (show m < 2 ^ 31 by omega)
    have p1 : nI p + 1 = nI (p + 1) := nI_add p 1
    have p2 : 1 + nI p = nI (1 + p) := nI_add 1 p
    have g := (lt4 L).get (X := X) (r := x) (q := 1 + p) hx (by omega)
    have ih := c_tx_in L F hx hm (v := v) d (p + 1) (by omega)
    have er : mx (fun k => D.2.1 4 (x * 51 + k)) v (1 + (p + 1)) = 31 * mx (fun k => D.2.1 4 (x * 51 + k)) v (1 + p) + (D.2.1 4 (x * 51 + (1 + p))).toInt64 := rfl
    rw [← ih, er, s37_37]
    simp only [s37_0, s37_1, s37_3, s37_4, s37_7, s37_10, s37_13, s37_14, s37_17, s37_18, s37_19, s37_22, s37_24, s37_27, s37_28, s37_29, s37_31, s37_32, s37_33, s37_34, s37_35, s37_39, s37_41, s37_44, s37_47, s37_48, s37_49, s37_50, s37_53, s37_54, s37_55, s37_57, s37_58, s37_61, s37_62, s37_63, s37_64, s37_67, s37_73, s37_76, s37_77, okF, okA, mcC_o, mcF_o, mcT_i, mcT_l, mcT_z, mcT_q, mcN_i, mcN_l, mcN_z, mcN_q, mcI_i, mcI_z, mcL_l, mcQ_q, hg_hp, hp_hp, List.getD_cons_zero, List.getD_cons_succ, List.set_cons_zero, List.set_cons_succ, List.length_cons, List.length_nil, Nat.reduceAdd, Nat.reduceLT, Nat.reduceEqDiff, Nat.lt_add_one, decide_true, decide_false, Bool.and_true, Bool.true_and, Bool.and_false, Bool.false_and, Bool.false_eq_true, if_true, if_false, ↓reduceIte, Option.bind_some, Option.bind_none, kont_v, kont_n, e23, FOO, (lt4 L).1, l, p1, p2, g]
theorem c_tx_lp (L : LG h 1 D) (F : FIX h) (h4 : D.1 4 = 4) (hT : ∀ x, x < 4 → ∃ m, m ≤ 50 ∧ D.2.1 4 (x * 51) = nI m) {v : Int64} : ∀ (d x : Nat) (a4 a5 : Value), x + d = 4 → ev X 37 2 [.ref 23, .long (tmx (D.2.1 4) v x), .float 0, .int (nI x), a4, a5] [] h = some (some (.long (tmx (D.2.1 4) v 4)), (h))
  | 0, x, a4, a5, e => by
    obtain ⟨a, b, e', w, v', e23⟩ := F.c23
    have e : x = 4 := by omega
    have l : ¬ nI 4 < nI 4 := by decide
    subst e
    rw [s37_2]
    simp only [s37_0, s37_1, s37_3, s37_4, s37_7, s37_10, s37_13, s37_14, s37_17, s37_18, s37_19, s37_22, s37_24, s37_27, s37_28, s37_29, s37_31, s37_32, s37_33, s37_34, s37_35, s37_39, s37_41, s37_44, s37_47, s37_48, s37_49, s37_50, s37_53, s37_54, s37_55, s37_57, s37_58, s37_61, s37_62, s37_63, s37_64, s37_67, s37_70, s37_73, s37_76, s37_77, okF, okA, mcC_o, mcF_o, mcT_i, mcT_l, mcT_z, mcT_q, mcN_i, mcN_l, mcN_z, mcN_q, mcI_i, mcI_z, mcL_l, mcQ_q, hg_hp, hp_hp, List.getD_cons_zero, List.getD_cons_succ, List.set_cons_zero, List.set_cons_succ, List.length_cons, List.length_nil, Nat.reduceAdd, Nat.reduceLT, Nat.reduceEqDiff, Nat.lt_add_one, decide_true, decide_false, Bool.and_true, Bool.true_and, Bool.and_false, Bool.false_and, Bool.false_eq_true, if_true, if_false, ↓reduceIte, Option.bind_some, Option.bind_none, kont_v, kont_n, e23, FOO, (lt4 L).1, h4, l]
  | d + 1, x, a4, a5, e => by
    obtain ⟨a, b, e', w, v', e23⟩ := F.c23
    have l : nI x < nI 4 := nI_lt (show x < 4 by omega) (by decide)
    have p1 : nI x + 1 = nI (x + 1) := nI_add x 1
    obtain ⟨m, hm, em⟩ := hT x (by omega)
    have g : (ev X 103 0 [.ref 10, .int (nI x), .int 0, .float 0] [] (h)) = some (some (.int (nI m)), (h)) := by
      have := (lt4 L).get (X := X) (r := x) (q := 0) (by omega) (by decide)
      rw [Nat.add_zero, em] at this
      exact this
    have lp := c_tx_in (X := X) L F (x := x) (by omega) hm (v := tmx (D.2.1 4) v x) m 0 (by omega)
    have e1 : mx (fun k => D.2.1 4 (x * 51 + k)) (tmx (D.2.1 4) v x) (1 + 0) = 31 * tmx (D.2.1 4) v x + (nI m).toInt64 := by
      show 31 * tmx (D.2.1 4) v x + (D.2.1 4 (x * 51 + 0)).toInt64 = _
      rw [Nat.add_zero, em]
    rw [e1, nI_0] at lp
    have ih := c_tx_lp L F h4 hT (v := v) d (x + 1) (.int (nI m)) (.int (nI m)) (by omega)
    have er : tmx (D.2.1 4) v (x + 1) = mx (fun k => D.2.1 4 (x * 51 + k)) (tmx (D.2.1 4) v x) (1 + m) := by
      show mx _ _ (1 + fnn (D.2.1 4 (x * 51))) = _
      rw [em, fnn_n (by omega)]
    rw [← ih, er, s37_2]
    simp only [s37_0, s37_1, s37_3, s37_4, s37_7, s37_10, s37_13, s37_14, s37_17, s37_18, s37_19, s37_22, s37_24, s37_27, s37_28, s37_29, s37_31, s37_32, s37_33, s37_34, s37_35, s37_39, s37_41, s37_44, s37_47, s37_48, s37_49, s37_50, s37_53, s37_54, s37_55, s37_57, s37_58, s37_61, s37_62, s37_63, s37_64, s37_67, s37_70, s37_73, s37_76, s37_77, okF, okA, mcC_o, mcF_o, mcT_i, mcT_l, mcT_z, mcT_q, mcN_i, mcN_l, mcN_z, mcN_q, mcI_i, mcI_z, mcL_l, mcQ_q, hg_hp, hp_hp, List.getD_cons_zero, List.getD_cons_succ, List.set_cons_zero, List.set_cons_succ, List.length_cons, List.length_nil, Nat.reduceAdd, Nat.reduceLT, Nat.reduceEqDiff, Nat.lt_add_one, decide_true, decide_false, Bool.and_true, Bool.true_and, Bool.and_false, Bool.false_and, Bool.false_eq_true, if_true, if_false, ↓reduceIte, Option.bind_some, Option.bind_none, kont_v, kont_n, e23, FOO, (lt4 L).1, h4, l, p1, g, lp]
theorem c_texts (L : LG h 1 D) (F : FIX h) (h4 : D.1 4 = 4) (hT : ∀ x, x < 4 → ∃ m, m ≤ 50 ∧ D.2.1 4 (x * 51) = nI m) {v : Int64} : (ev X 37 0 [.ref 23, .long v, .float 0, .float 0, .float 0, .float 0] [] (h)) = some (some (.long (tmx (D.2.1 4) v 4)), (h)) := by
  have lp := c_tx_lp (X := X) L F h4 hT (v := v) 4 0 (.float 0) (.float 0) (by omega)
  rw [show tmx (D.2.1 4) v 0 = v from rfl, nI_0] at lp
  simp only [s37_0, s37_1, s37_3, s37_4, s37_7, s37_10, s37_13, s37_14, s37_17, s37_18, s37_19, s37_22, s37_24, s37_27, s37_28, s37_29, s37_31, s37_32, s37_33, s37_34, s37_35, s37_39, s37_41, s37_44, s37_47, s37_48, s37_49, s37_50, s37_53, s37_54, s37_55, s37_57, s37_58, s37_61, s37_62, s37_63, s37_64, s37_67, s37_70, s37_73, s37_76, s37_77, okF, okA, mcC_o, mcF_o, mcT_i, mcT_l, mcT_z, mcT_q, mcN_i, mcN_l, mcN_z, mcN_q, mcI_i, mcI_z, mcL_l, mcQ_q, hg_hp, hp_hp, List.getD_cons_zero, List.getD_cons_succ, List.set_cons_zero, List.set_cons_succ, List.length_cons, List.length_nil, Nat.reduceAdd, Nat.reduceLT, Nat.reduceEqDiff, Nat.lt_add_one, decide_true, decide_false, Bool.and_true, Bool.true_and, Bool.and_false, Bool.false_and, Bool.false_eq_true, if_true, if_false, ↓reduceIte, Option.bind_some, Option.bind_none, kont_v, kont_n, lp]
end MX2

-- IMAGES: a league into another
section CP3
variable {X : MX}
theorem c_copy {h : MH} {b s : Nat} {D D2 : LD} (hbs : b + 19 ≤ s ∨ s + 19 ≤ b) (L : LG h b D) (L2 : LG h s D2) : ∃ h', (ev X 49 0 [.ref b, .ref s] [] (h)) = some (none, h') ∧ h'.1 = h.1 ∧ h'.2.1 = h.2.1 ∧ (∀ j, j < b ∨ b + 19 ≤ j → hg h' j = hg h j) ∧ LG h' b (D2.1, fun i => cpf (tcap i * twid i) (D2.2.1 i) (D.2.1 i), D2.2.2) := by
  have C0 : CPK h h b D D2 0 := ⟨rfl, rfl, fun _ _ => rfl, fun i hi => absurd hi (by omega), fun i _ hi => L.tab i hi⟩
  obtain ⟨h1, e0, C1⟩ := cp_step (X := X) (k := 0) (by decide) hbs L2 C0
  have e0 : (ev X 106 0 [.ref (b + 1), .ref (s + 1)] [] (h)) = some (none, h1) := e0
  obtain ⟨h2, e1, C2⟩ := cp_step (X := X) (k := 1) (by decide) hbs L2 C1
  have e1 : (ev X 106 0 [.ref (b + 3), .ref (s + 3)] [] (h1)) = some (none, h2) := e1
  obtain ⟨h3, e2, C3⟩ := cp_step (X := X) (k := 2) (by decide) hbs L2 C2
  have e2 : (ev X 106 0 [.ref (b + 5), .ref (s + 5)] [] (h2)) = some (none, h3) := e2
  obtain ⟨h4, e3, C4⟩ := cp_step (X := X) (k := 3) (by decide) hbs L2 C3
  have e3 : (ev X 106 0 [.ref (b + 7), .ref (s + 7)] [] (h3)) = some (none, h4) := e3
  obtain ⟨h5, e4, C5⟩ := cp_step (X := X) (k := 4) (by decide) hbs L2 C4
  have e4 : (ev X 106 0 [.ref (b + 9), .ref (s + 9)] [] (h4)) = some (none, h5) := e4
  obtain ⟨h6, e5, C6⟩ := cp_step (X := X) (k := 5) (by decide) hbs L2 C5
  have e5 : (ev X 106 0 [.ref (b + 11), .ref (s + 11)] [] (h5)) = some (none, h6) := e5
  obtain ⟨h7, e6, C7⟩ := cp_step (X := X) (k := 6) (by decide) hbs L2 C6
  have e6 : (ev X 106 0 [.ref (b + 13), .ref (s + 13)] [] (h6)) = some (none, h7) := e6
  obtain ⟨h8, e7, C8⟩ := cp_step (X := X) (k := 7) (by decide) hbs L2 C7
  have e7 : (ev X 106 0 [.ref (b + 15), .ref (s + 15)] [] (h7)) = some (none, h8) := e7
  obtain ⟨h9, e8, C9⟩ := cp_step (X := X) (k := 8) (by decide) hbs L2 C8
  have e8 : (ev X 106 0 [.ref (b + 17), .ref (s + 17)] [] (h8)) = some (none, h9) := e8
  have x0 : hg h b = hg h b := C0.2.2.1 b (Or.inl (by omega))
  have y0 : hg h s = hg h s := C0.2.2.1 s (by omega)
  have p0 := (C0.2.2.2.2 0 (by decide) (by decide)).1
  have p0 : mcC (hg h (b + 1)) = 10 := congrArg mcC p0
  have x1 : hg h1 b = hg h b := C1.2.2.1 b (Or.inl (by omega))
  have y1 : hg h1 s = hg h s := C1.2.2.1 s (by omega)
  have p1 := (C1.2.2.2.2 1 (by decide) (by decide)).1
  have p1 : mcC (hg h1 (b + 3)) = 10 := congrArg mcC p1
  have x2 : hg h2 b = hg h b := C2.2.2.1 b (Or.inl (by omega))
  have y2 : hg h2 s = hg h s := C2.2.2.1 s (by omega)
  have p2 := (C2.2.2.2.2 2 (by decide) (by decide)).1
  have p2 : mcC (hg h2 (b + 5)) = 10 := congrArg mcC p2
  have x3 : hg h3 b = hg h b := C3.2.2.1 b (Or.inl (by omega))
  have y3 : hg h3 s = hg h s := C3.2.2.1 s (by omega)
  have p3 := (C3.2.2.2.2 3 (by decide) (by decide)).1
  have p3 : mcC (hg h3 (b + 7)) = 10 := congrArg mcC p3
  have x4 : hg h4 b = hg h b := C4.2.2.1 b (Or.inl (by omega))
  have y4 : hg h4 s = hg h s := C4.2.2.1 s (by omega)
  have p4 := (C4.2.2.2.2 4 (by decide) (by decide)).1
  have p4 : mcC (hg h4 (b + 9)) = 10 := congrArg mcC p4
  have x5 : hg h5 b = hg h b := C5.2.2.1 b (Or.inl (by omega))
  have y5 : hg h5 s = hg h s := C5.2.2.1 s (by omega)
  have p5 := (C5.2.2.2.2 5 (by decide) (by decide)).1
  have p5 : mcC (hg h5 (b + 11)) = 10 := congrArg mcC p5
  have x6 : hg h6 b = hg h b := C6.2.2.1 b (Or.inl (by omega))
  have y6 : hg h6 s = hg h s := C6.2.2.1 s (by omega)
  have p6 := (C6.2.2.2.2 6 (by decide) (by decide)).1
  have p6 : mcC (hg h6 (b + 13)) = 10 := congrArg mcC p6
  have x7 : hg h7 b = hg h b := C7.2.2.1 b (Or.inl (by omega))
  have y7 : hg h7 s = hg h s := C7.2.2.1 s (by omega)
  have p7 := (C7.2.2.2.2 7 (by decide) (by decide)).1
  have p7 : mcC (hg h7 (b + 15)) = 10 := congrArg mcC p7
  have x8 : hg h8 b = hg h b := C8.2.2.1 b (Or.inl (by omega))
  have y8 : hg h8 s = hg h s := C8.2.2.1 s (by omega)
  have p8 := (C8.2.2.2.2 8 (by decide) (by decide)).1
  have p8 : mcC (hg h8 (b + 17)) = 10 := congrArg mcC p8
  have x9 : hg h9 b = hg h b := C9.2.2.1 b (Or.inl (by omega))
  have y9 : hg h9 s = hg h s := C9.2.2.1 s (by omega)
  have n1 : ¬ b = s := by omega
  refine ⟨hp h9 b (oB 4 [.ref (b + 1), .ref (b + 3), .ref (b + 5), .ref (b + 7), .ref (b + 9), .ref (b + 11), .ref (b + 13), .ref (b + 15), .ref (b + 17), .int D2.2.2]), ?_, C9.1, C9.2.1, fun j hj => ?_, ?_, fun i hi => ⟨?_, (L2.2 i hi).2⟩⟩
  · simp only [s49_0, s49_1, s49_4, s49_5, s49_8, s49_11, s49_12, s49_15, s49_16, s49_19, s49_22, s49_23, s49_26, s49_27, s49_30, s49_33, s49_34, s49_37, s49_38, s49_41, s49_44, s49_45, s49_48, s49_49, s49_52, s49_55, s49_56, s49_59, s49_60, s49_63, s49_66, s49_67, s49_70, s49_71, s49_74, s49_77, s49_78, s49_81, s49_82, s49_85, s49_88, s49_89, s49_92, s49_93, s49_96, s49_99, s49_100, s49_101, s49_104, s49_107, okF, okA, mcC_o, mcF_o, mcT_i, mcT_l, mcT_z, mcT_q, mcN_i, mcN_l, mcN_z, mcN_q, mcI_i, mcI_z, mcL_l, mcQ_q, hg_hp, hp_hp, List.getD_cons_zero, List.getD_cons_succ, List.set_cons_zero, List.set_cons_succ, List.length_cons, List.length_nil, Nat.reduceAdd, Nat.reduceLT, Nat.reduceEqDiff, Nat.lt_add_one, decide_true, decide_false, Bool.and_true, Bool.true_and, Bool.and_false, Bool.false_and, Bool.false_eq_true, if_true, if_false, ↓reduceIte, Option.bind_some, Option.bind_none, kont_v, kont_n, x1, y1, x2, y2, x3, y3, x4, y4, x5, y5, x6, y6, x7, y7, x8, y8, x9, y9, L.1, L2.1, e0, e1, e2, e3, e4, e5, e6, e7, e8, p0, p1, p2, p3, p4, p5, p6, p7, p8]
  · rw [hg_hp, if_neg (by omega)]; exact C9.2.2.1 j (by omega)
  · rw [hg_hp, if_pos rfl]
  · exact (C9.2.2.2.1 i hi).same (by rw [hg_hp, if_neg (by omega)]) (by rw [hg_hp, if_neg (by omega)])
end CP3

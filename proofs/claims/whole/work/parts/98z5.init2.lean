-- INIT 2: the class is made
theorem in_T {X : MX} : ∃ (hB hC h1 : MH), LG hB 1 D00 ∧ hB.1 = 20 ∧ hB.2.1 = 2937 ∧ (∀ j, j ≠ 0 → hg hC j = hg hB j) ∧ hC.2.1 = 2937 ∧ ev X 108 0 [.ref 0] [] (hnw h00 (ini 11) (nfs 11)) = some (none, h1) ∧ GB hC 20 0 11 [.ref 1, .ref 20, .ref 21, .ref 22, .ref 31, .ref 23, .ref 37, .ref 40, .ref 46, .ref 51, .ref 53] (qA 2 (fun _ => none) :: oB 5 [.ref 2, .int 0, .int 0, .int 0, .int 0, .int 0, .int 0, .int 0] :: oB 1 [.ref 6] :: oB 2 [.ref 10, .ref 24, .ref 25, .ref 26, .ref 27, .ref 28, .ref 29, .ref 30, .int 0, .int 0, .int 0, .int 0, .long 0] :: iA 50 (fun _ => 0) :: iA 7 (fun _ => 0) :: lA 9 (fun _ => 0) :: lA 9 (fun _ => 0) :: zA 9 (fun _ => 0) :: zA 9 (fun _ => 0) :: iA 9 (fun _ => 0) :: oB 6 [.ref 1, .ref 22, .ref 23, .ref 32, .ref 34, .ref 35, .ref 36, .int 0] :: oB 10 [.int (nI 16), .int (nI 6), .ref 33, .int (nI 0)] :: iA 96 (fun _ => 0) :: iA 7 (fun _ => 0) :: iA 7 (fun _ => 0) :: lA 7 (fun _ => 0) :: oB 3 [.ref 1, .ref 22, .ref 38, .ref 39] :: iA 16 (fun _ => 0) :: iA 16 (fun _ => 0) :: oB 0 [.ref 1, .ref 41, .ref 42, .ref 43, .ref 44, .int 0, .int 0, .int 0] :: iA 12 (fun _ => 0) :: iA 12 (fun _ => 0) :: iA 12 (fun _ => 0) :: oB 10 [.int (nI 12), .int (nI 12), .ref 45, .int (nI 0)] :: iA 144 (fun _ => 0) :: oB 8 [.ref 1, .ref 47, .ref 48, .ref 49, .ref 50, .int 0] :: iA 8 (fun _ => 0) :: iA 8 (fun _ => 0) :: iA 8 (fun _ => 0) :: iA 256 (fun _ => 0) :: oB 9 [.ref 18, .ref 52] :: iA 18 (fun _ => 0) :: oB 7 [.ref 1, .ref 54] :: iA 10 (fun _ => 0) :: [] : List MC) 801 h1 := by
  have z0 : hg (hnw (hnw h00 (ini 11) (nfs 11)) (ini 4) (nfs 4)) 1 = ini 4 := rfl
  have z1 : (hnw (hnw h00 (ini 11) (nfs 11)) (ini 4) (nfs 4)).1 = 1 + 1 := rfl
  have zzA : (hnw h00 (ini 11) (nfs 11)).1 = 1 := rfl
  obtain ⟨hB, l1, l2, l3, l4, l5⟩ := c_league (X := X) (h := hnw (hnw h00 (ini 11) (nfs 11)) (ini 4) (nfs 4)) (b := 1) z1 z0
  have l3 : hB.2.1 = 2937 := by
    rw [l3, hnw_2, hnw_2, nfs_11, nfs_4]
    rfl
  have c0 : hg hB 0 = oB 11 [.null, .null, .null, .null, .null, .null, .null, .null, .null, .null, .null] := by
    rw [l4 0 (by decide), ← ini_11]
    rfl
  have lc : hg hB 1 = oB 4 [.ref 2, .ref 4, .ref 6, .ref 8, .ref 10, .ref 12, .ref 14, .ref 16, .ref 18, .int 5] := l5.1
  obtain ⟨hC, eC⟩ : ∃ hC : MH, hC = hp hB 0 (oB 11 [.ref 1, .null, .null, .null, .null, .null, .null, .null, .null, .null, .null]) := ⟨_, rfl⟩
  have cC : hg hC 0 = oB 11 [.ref 1, .null, .null, .null, .null, .null, .null, .null, .null, .null, .null] := by rw [eC, hg_hp, if_pos rfl]
  have oC : ∀ j, j ≠ 0 → hg hC j = hg hB j := fun j hj => by rw [eC, hg_hp, if_neg hj]
  have LC : hg hC 1 = oB 4 [.ref 2, .ref 4, .ref 6, .ref 8, .ref 10, .ref 12, .ref 14, .ref 16, .ref 18, .int 5] := (oC 1 (by decide)).trans lc
  have G0 := GB.start (n := 20) cC (by rw [eC, hp_1, l2])
  have e0 : ev X 108 0 [.ref 0] [] (hnw h00 (ini 11) (nfs 11)) = ev X 108 15 [.ref 0] [] hC := by
    simp only [s108_0, s108_1, s108_4, s108_5, s108_8, s108_9, s108_12, okF, okA, mcC_o, mcF_o, mcT_i, mcT_l, mcT_z, mcT_q, mcN_i, mcN_l, mcN_z, mcN_q, mcI_i, mcI_z, mcL_l, mcQ_q, hg_hp, hp_hp, List.getD_cons_zero, List.getD_cons_succ, List.set_cons_zero, List.set_cons_succ, List.length_cons, List.length_nil, Nat.reduceAdd, Nat.reduceLT, Nat.reduceEqDiff, Nat.lt_add_one, decide_true, decide_false, Bool.and_true, Bool.true_and, Bool.and_false, Bool.false_and, Bool.false_eq_true, if_true, if_false, ↓reduceIte, Option.bind_some, Option.bind_none, kont_v, kont_n, zzA, l1, c0, eC]
  have hb : 0 < 20 := by decide
  have A0 := G0.add hb (qA 2 (fun _ => none)) 2
  have d0 : hC.1 = 20 := G0.1
  have k0 := A0.2.2.1
  have G1 := A0.pf hb [.ref 1, .ref 20, .null, .null, .null, .null, .null, .null, .null, .null, .null]
  generalize eh1 : hp (hnw hC (qA 2 (fun _ => none)) 2) 0 (oB 11 [.ref 1, .ref 20, .null, .null, .null, .null, .null, .null, .null, .null, .null]) = h1 at G1
  have e1 : ev X 108 15 [.ref 0] [] hC = ev X 108 23 [.ref 0] [] h1 := by
    simp only [s108_15, s108_16, s108_17, s108_20, okF, okA, mcC_o, mcF_o, mcT_i, mcT_l, mcT_z, mcT_q, mcN_i, mcN_l, mcN_z, mcN_q, mcI_i, mcI_z, mcL_l, mcQ_q, hg_hp, hp_hp, List.getD_cons_zero, List.getD_cons_succ, List.set_cons_zero, List.set_cons_succ, List.length_cons, List.length_nil, Nat.reduceAdd, Nat.reduceLT, Nat.reduceEqDiff, Nat.lt_add_one, decide_true, decide_false, Bool.and_true, Bool.true_and, Bool.and_false, Bool.false_and, Bool.false_eq_true, if_true, if_false, ↓reduceIte, Option.bind_some, Option.bind_none, kont_v, kont_n, d0, k0, eh1]
  have G1 : GB hC 20 0 11 [.ref 1, .ref 20, .null, .null, .null, .null, .null, .null, .null, .null, .null] (qA 2 (fun _ => none) :: [] : List MC) 2 h1 := G1
  have A1 := G1.add hb (ini 5) (nfs 5)
  have d1 : h1.1 = 21 := G1.1
  have k1 := A1.2.2.1
  have lg1 : hg (hnw h1 (ini 5) (nfs 5)) 1 = oB 4 [.ref 2, .ref 4, .ref 6, .ref 8, .ref 10, .ref 12, .ref 14, .ref 16, .ref 18, .int 5] := (A1.2.2.2.1 1 (by decide) (by decide)).trans LC
  obtain ⟨g1, t1, J1⟩ := n_Phrases (X := X) (h := hnw h1 (ini 5) (nfs 5)) (n := 22) (b := 21) (p1 := 2) (by rw [hg_hnw, if_pos d1.symm]) (by rw [hnw_1, d1]) (by decide)
  have S1 := G1.sub hb (show GB (hnw h1 (ini 5) (nfs 5)) (h1.1 + 1) h1.1 5 [.ref 2, .int 0, .int 0, .int 0, .int 0, .int 0, .int 0, .int 0] ([] : List MC) 0 g1 by rw [d1]; exact J1)
  rw [nfs_5] at S1
  have m1 := S1.2.2.1
  have G2 := S1.pf hb [.ref 1, .ref 20, .ref 21, .null, .null, .null, .null, .null, .null, .null, .null]
  generalize eh2 : hp g1 0 (oB 11 [.ref 1, .ref 20, .ref 21, .null, .null, .null, .null, .null, .null, .null, .null]) = h2 at G2
  have e2 : ev X 108 23 [.ref 0] [] h1 = ev X 108 41 [.ref 0] [] h2 := by
    simp only [s108_23, s108_24, s108_27, s108_28, s108_29, s108_32, s108_35, s108_38, okF, okA, mcC_o, mcF_o, mcT_i, mcT_l, mcT_z, mcT_q, mcN_i, mcN_l, mcN_z, mcN_q, mcI_i, mcI_z, mcL_l, mcQ_q, hg_hp, hp_hp, List.getD_cons_zero, List.getD_cons_succ, List.set_cons_zero, List.set_cons_succ, List.length_cons, List.length_nil, Nat.reduceAdd, Nat.reduceLT, Nat.reduceEqDiff, Nat.lt_add_one, decide_true, decide_false, Bool.and_true, Bool.true_and, Bool.and_false, Bool.false_and, Bool.false_eq_true, if_true, if_false, ↓reduceIte, Option.bind_some, Option.bind_none, kont_v, kont_n, d1, k1, lg1, t1, m1, eh2]
  have G2 : GB hC 20 0 11 [.ref 1, .ref 20, .ref 21, .null, .null, .null, .null, .null, .null, .null, .null] (qA 2 (fun _ => none) :: oB 5 [.ref 2, .int 0, .int 0, .int 0, .int 0, .int 0, .int 0, .int 0] :: [] : List MC) 10 h2 := G2
  have A2 := G2.add hb (ini 1) (nfs 1)
  have d2 : h2.1 = 22 := G2.1
  have k2 := A2.2.2.1
  have lg2 : hg (hnw h2 (ini 1) (nfs 1)) 1 = oB 4 [.ref 2, .ref 4, .ref 6, .ref 8, .ref 10, .ref 12, .ref 14, .ref 16, .ref 18, .int 5] := (A2.2.2.2.1 1 (by decide) (by decide)).trans LC
  obtain ⟨g2, t2, J2⟩ := n_Bouts (X := X) (h := hnw h2 (ini 1) (nfs 1)) (n := 23) (b := 22) (p1 := 6) (by rw [hg_hnw, if_pos d2.symm]) (by rw [hnw_1, d2]) (by decide)
  have S2 := G2.sub hb (show GB (hnw h2 (ini 1) (nfs 1)) (h2.1 + 1) h2.1 1 [.ref 6] ([] : List MC) 0 g2 by rw [d2]; exact J2)
  rw [nfs_1] at S2
  have m2 := S2.2.2.1
  have G3 := S2.pf hb [.ref 1, .ref 20, .ref 21, .ref 22, .null, .null, .null, .null, .null, .null, .null]
  generalize eh3 : hp g2 0 (oB 11 [.ref 1, .ref 20, .ref 21, .ref 22, .null, .null, .null, .null, .null, .null, .null]) = h3 at G3
  have e3 : ev X 108 41 [.ref 0] [] h2 = ev X 108 59 [.ref 0] [] h3 := by
    simp only [s108_41, s108_42, s108_45, s108_46, s108_47, s108_50, s108_53, s108_56, okF, okA, mcC_o, mcF_o, mcT_i, mcT_l, mcT_z, mcT_q, mcN_i, mcN_l, mcN_z, mcN_q, mcI_i, mcI_z, mcL_l, mcQ_q, hg_hp, hp_hp, List.getD_cons_zero, List.getD_cons_succ, List.set_cons_zero, List.set_cons_succ, List.length_cons, List.length_nil, Nat.reduceAdd, Nat.reduceLT, Nat.reduceEqDiff, Nat.lt_add_one, decide_true, decide_false, Bool.and_true, Bool.true_and, Bool.and_false, Bool.false_and, Bool.false_eq_true, if_true, if_false, ↓reduceIte, Option.bind_some, Option.bind_none, kont_v, kont_n, d2, k2, lg2, t2, m2, eh3]
  have G3 : GB hC 20 0 11 [.ref 1, .ref 20, .ref 21, .ref 22, .null, .null, .null, .null, .null, .null, .null] (qA 2 (fun _ => none) :: oB 5 [.ref 2, .int 0, .int 0, .int 0, .int 0, .int 0, .int 0, .int 0] :: oB 1 [.ref 6] :: [] : List MC) 11 h3 := G3
  have A3 := G3.add hb (ini 2) (nfs 2)
  have d3 : h3.1 = 23 := G3.1
  have k3 := A3.2.2.1
  have lg3 : hg (hnw h3 (ini 2) (nfs 2)) 1 = oB 4 [.ref 2, .ref 4, .ref 6, .ref 8, .ref 10, .ref 12, .ref 14, .ref 16, .ref 18, .int 5] := (A3.2.2.2.1 1 (by decide) (by decide)).trans LC
  obtain ⟨g3, t3, J3⟩ := n_Formula (X := X) (h := hnw h3 (ini 2) (nfs 2)) (n := 24) (b := 23) (p1 := 10) (by rw [hg_hnw, if_pos d3.symm]) (by rw [hnw_1, d3]) (by decide)
  have S3 := G3.sub hb (show GB (hnw h3 (ini 2) (nfs 2)) (h3.1 + 1) h3.1 2 [.ref 10, .ref 24, .ref 25, .ref 26, .ref 27, .ref 28, .ref 29, .ref 30, .int 0, .int 0, .int 0, .int 0, .long 0] ([iA 50 (fun _ => 0), iA 7 (fun _ => 0), lA 9 (fun _ => 0), lA 9 (fun _ => 0), zA 9 (fun _ => 0), zA 9 (fun _ => 0), iA 9 (fun _ => 0)] : List MC) 102 g3 by rw [d3]; exact J3)
  rw [nfs_2] at S3
  have m3 := S3.2.2.1
  have G4 := S3.pf hb [.ref 1, .ref 20, .ref 21, .ref 22, .null, .ref 23, .null, .null, .null, .null, .null]
  generalize eh4 : hp g3 0 (oB 11 [.ref 1, .ref 20, .ref 21, .ref 22, .null, .ref 23, .null, .null, .null, .null, .null]) = h4 at G4
  have e4 : ev X 108 59 [.ref 0] [] h3 = ev X 108 77 [.ref 0] [] h4 := by
    simp only [s108_59, s108_60, s108_63, s108_64, s108_65, s108_68, s108_71, s108_74, okF, okA, mcC_o, mcF_o, mcT_i, mcT_l, mcT_z, mcT_q, mcN_i, mcN_l, mcN_z, mcN_q, mcI_i, mcI_z, mcL_l, mcQ_q, hg_hp, hp_hp, List.getD_cons_zero, List.getD_cons_succ, List.set_cons_zero, List.set_cons_succ, List.length_cons, List.length_nil, Nat.reduceAdd, Nat.reduceLT, Nat.reduceEqDiff, Nat.lt_add_one, decide_true, decide_false, Bool.and_true, Bool.true_and, Bool.and_false, Bool.false_and, Bool.false_eq_true, if_true, if_false, ↓reduceIte, Option.bind_some, Option.bind_none, kont_v, kont_n, d3, k3, lg3, t3, m3, eh4]
  have G4 : GB hC 20 0 11 [.ref 1, .ref 20, .ref 21, .ref 22, .null, .ref 23, .null, .null, .null, .null, .null] (qA 2 (fun _ => none) :: oB 5 [.ref 2, .int 0, .int 0, .int 0, .int 0, .int 0, .int 0, .int 0] :: oB 1 [.ref 6] :: oB 2 [.ref 10, .ref 24, .ref 25, .ref 26, .ref 27, .ref 28, .ref 29, .ref 30, .int 0, .int 0, .int 0, .int 0, .long 0] :: iA 50 (fun _ => 0) :: iA 7 (fun _ => 0) :: lA 9 (fun _ => 0) :: lA 9 (fun _ => 0) :: zA 9 (fun _ => 0) :: zA 9 (fun _ => 0) :: iA 9 (fun _ => 0) :: [] : List MC) 126 h4 := G4
  have A4 := G4.add hb (ini 6) (nfs 6)
  have d4 : h4.1 = 31 := G4.1
  have k4 := A4.2.2.1
  have lg4 : hg (hnw h4 (ini 6) (nfs 6)) 1 = oB 4 [.ref 2, .ref 4, .ref 6, .ref 8, .ref 10, .ref 12, .ref 14, .ref 16, .ref 18, .int 5] := (A4.2.2.2.1 1 (by decide) (by decide)).trans LC
  obtain ⟨g4, t4, J4⟩ := n_Pools (X := X) (h := hnw h4 (ini 6) (nfs 6)) (n := 32) (b := 31) (p1 := 1) (p2 := 22) (p3 := 23) (by rw [hg_hnw, if_pos d4.symm]) (by rw [hnw_1, d4]) (by decide)
  have S4 := G4.sub hb (show GB (hnw h4 (ini 6) (nfs 6)) (h4.1 + 1) h4.1 6 [.ref 1, .ref 22, .ref 23, .ref 32, .ref 34, .ref 35, .ref 36, .int 0] ([oB 10 [.int (nI 16), .int (nI 6), .ref 33, .int (nI 0)], iA 96 (fun _ => 0), iA 7 (fun _ => 0), iA 7 (fun _ => 0), lA 7 (fun _ => 0)] : List MC) 121 g4 by rw [d4]; exact J4)
  rw [nfs_6] at S4
  have m4 := S4.2.2.1
  have G5 := S4.pf hb [.ref 1, .ref 20, .ref 21, .ref 22, .ref 31, .ref 23, .null, .null, .null, .null, .null]
  generalize eh5 : hp g4 0 (oB 11 [.ref 1, .ref 20, .ref 21, .ref 22, .ref 31, .ref 23, .null, .null, .null, .null, .null]) = h5 at G5
  have e5 : ev X 108 77 [.ref 0] [] h4 = ev X 108 100 [.ref 0] [] h5 := by
    simp only [s108_77, s108_78, s108_81, s108_82, s108_83, s108_86, s108_87, s108_90, s108_91, s108_94, s108_97, okF, okA, mcC_o, mcF_o, mcT_i, mcT_l, mcT_z, mcT_q, mcN_i, mcN_l, mcN_z, mcN_q, mcI_i, mcI_z, mcL_l, mcQ_q, hg_hp, hp_hp, List.getD_cons_zero, List.getD_cons_succ, List.set_cons_zero, List.set_cons_succ, List.length_cons, List.length_nil, Nat.reduceAdd, Nat.reduceLT, Nat.reduceEqDiff, Nat.lt_add_one, decide_true, decide_false, Bool.and_true, Bool.true_and, Bool.and_false, Bool.false_and, Bool.false_eq_true, if_true, if_false, ↓reduceIte, Option.bind_some, Option.bind_none, kont_v, kont_n, d4, k4, lg4, t4, m4, eh5]
  have G5 : GB hC 20 0 11 [.ref 1, .ref 20, .ref 21, .ref 22, .ref 31, .ref 23, .null, .null, .null, .null, .null] (qA 2 (fun _ => none) :: oB 5 [.ref 2, .int 0, .int 0, .int 0, .int 0, .int 0, .int 0, .int 0] :: oB 1 [.ref 6] :: oB 2 [.ref 10, .ref 24, .ref 25, .ref 26, .ref 27, .ref 28, .ref 29, .ref 30, .int 0, .int 0, .int 0, .int 0, .long 0] :: iA 50 (fun _ => 0) :: iA 7 (fun _ => 0) :: lA 9 (fun _ => 0) :: lA 9 (fun _ => 0) :: zA 9 (fun _ => 0) :: zA 9 (fun _ => 0) :: iA 9 (fun _ => 0) :: oB 6 [.ref 1, .ref 22, .ref 23, .ref 32, .ref 34, .ref 35, .ref 36, .int 0] :: oB 10 [.int (nI 16), .int (nI 6), .ref 33, .int (nI 0)] :: iA 96 (fun _ => 0) :: iA 7 (fun _ => 0) :: iA 7 (fun _ => 0) :: lA 7 (fun _ => 0) :: [] : List MC) 255 h5 := G5
  have A5 := G5.add hb (ini 3) (nfs 3)
  have d5 : h5.1 = 37 := G5.1
  have k5 := A5.2.2.1
  have lg5 : hg (hnw h5 (ini 3) (nfs 3)) 1 = oB 4 [.ref 2, .ref 4, .ref 6, .ref 8, .ref 10, .ref 12, .ref 14, .ref 16, .ref 18, .int 5] := (A5.2.2.2.1 1 (by decide) (by decide)).trans LC
  obtain ⟨g5, t5, J5⟩ := n_Ladders (X := X) (h := hnw h5 (ini 3) (nfs 3)) (n := 38) (b := 37) (p1 := 1) (p2 := 22) (by rw [hg_hnw, if_pos d5.symm]) (by rw [hnw_1, d5]) (by decide)
  have S5 := G5.sub hb (show GB (hnw h5 (ini 3) (nfs 3)) (h5.1 + 1) h5.1 3 [.ref 1, .ref 22, .ref 38, .ref 39] ([iA 16 (fun _ => 0), iA 16 (fun _ => 0)] : List MC) 32 g5 by rw [d5]; exact J5)
  rw [nfs_3] at S5
  have m5 := S5.2.2.1
  have G6 := S5.pf hb [.ref 1, .ref 20, .ref 21, .ref 22, .ref 31, .ref 23, .ref 37, .null, .null, .null, .null]
  generalize eh6 : hp g5 0 (oB 11 [.ref 1, .ref 20, .ref 21, .ref 22, .ref 31, .ref 23, .ref 37, .null, .null, .null, .null]) = h6 at G6
  have e6 : ev X 108 100 [.ref 0] [] h5 = ev X 108 119 [.ref 0] [] h6 := by
    simp only [s108_100, s108_101, s108_104, s108_105, s108_106, s108_109, s108_110, s108_113, s108_116, okF, okA, mcC_o, mcF_o, mcT_i, mcT_l, mcT_z, mcT_q, mcN_i, mcN_l, mcN_z, mcN_q, mcI_i, mcI_z, mcL_l, mcQ_q, hg_hp, hp_hp, List.getD_cons_zero, List.getD_cons_succ, List.set_cons_zero, List.set_cons_succ, List.length_cons, List.length_nil, Nat.reduceAdd, Nat.reduceLT, Nat.reduceEqDiff, Nat.lt_add_one, decide_true, decide_false, Bool.and_true, Bool.true_and, Bool.and_false, Bool.false_and, Bool.false_eq_true, if_true, if_false, ↓reduceIte, Option.bind_some, Option.bind_none, kont_v, kont_n, d5, k5, lg5, t5, m5, eh6]
  have G6 : GB hC 20 0 11 [.ref 1, .ref 20, .ref 21, .ref 22, .ref 31, .ref 23, .ref 37, .null, .null, .null, .null] (qA 2 (fun _ => none) :: oB 5 [.ref 2, .int 0, .int 0, .int 0, .int 0, .int 0, .int 0, .int 0] :: oB 1 [.ref 6] :: oB 2 [.ref 10, .ref 24, .ref 25, .ref 26, .ref 27, .ref 28, .ref 29, .ref 30, .int 0, .int 0, .int 0, .int 0, .long 0] :: iA 50 (fun _ => 0) :: iA 7 (fun _ => 0) :: lA 9 (fun _ => 0) :: lA 9 (fun _ => 0) :: zA 9 (fun _ => 0) :: zA 9 (fun _ => 0) :: iA 9 (fun _ => 0) :: oB 6 [.ref 1, .ref 22, .ref 23, .ref 32, .ref 34, .ref 35, .ref 36, .int 0] :: oB 10 [.int (nI 16), .int (nI 6), .ref 33, .int (nI 0)] :: iA 96 (fun _ => 0) :: iA 7 (fun _ => 0) :: iA 7 (fun _ => 0) :: lA 7 (fun _ => 0) :: oB 3 [.ref 1, .ref 22, .ref 38, .ref 39] :: iA 16 (fun _ => 0) :: iA 16 (fun _ => 0) :: [] : List MC) 291 h6 := G6
  have A6 := G6.add hb (ini 0) (nfs 0)
  have d6 : h6.1 = 40 := G6.1
  have k6 := A6.2.2.1
  have lg6 : hg (hnw h6 (ini 0) (nfs 0)) 1 = oB 4 [.ref 2, .ref 4, .ref 6, .ref 8, .ref 10, .ref 12, .ref 14, .ref 16, .ref 18, .int 5] := (A6.2.2.2.1 1 (by decide) (by decide)).trans LC
  obtain ⟨g6, t6, J6⟩ := n_Apart (X := X) (h := hnw h6 (ini 0) (nfs 0)) (n := 41) (b := 40) (p1 := 1) (by rw [hg_hnw, if_pos d6.symm]) (by rw [hnw_1, d6]) (by decide)
  have S6 := G6.sub hb (show GB (hnw h6 (ini 0) (nfs 0)) (h6.1 + 1) h6.1 0 [.ref 1, .ref 41, .ref 42, .ref 43, .ref 44, .int 0, .int 0, .int 0] ([iA 12 (fun _ => 0), iA 12 (fun _ => 0), iA 12 (fun _ => 0), oB 10 [.int (nI 12), .int (nI 12), .ref 45, .int (nI 0)], iA 144 (fun _ => 0)] : List MC) 184 g6 by rw [d6]; exact J6)
  rw [nfs_0] at S6
  have m6 := S6.2.2.1
  have G7 := S6.pf hb [.ref 1, .ref 20, .ref 21, .ref 22, .ref 31, .ref 23, .ref 37, .ref 40, .null, .null, .null]
  generalize eh7 : hp g6 0 (oB 11 [.ref 1, .ref 20, .ref 21, .ref 22, .ref 31, .ref 23, .ref 37, .ref 40, .null, .null, .null]) = h7 at G7
  have e7 : ev X 108 119 [.ref 0] [] h6 = ev X 108 134 [.ref 0] [] h7 := by
    simp only [s108_119, s108_120, s108_123, s108_124, s108_125, s108_128, s108_131, okF, okA, mcC_o, mcF_o, mcT_i, mcT_l, mcT_z, mcT_q, mcN_i, mcN_l, mcN_z, mcN_q, mcI_i, mcI_z, mcL_l, mcQ_q, hg_hp, hp_hp, List.getD_cons_zero, List.getD_cons_succ, List.set_cons_zero, List.set_cons_succ, List.length_cons, List.length_nil, Nat.reduceAdd, Nat.reduceLT, Nat.reduceEqDiff, Nat.lt_add_one, decide_true, decide_false, Bool.and_true, Bool.true_and, Bool.and_false, Bool.false_and, Bool.false_eq_true, if_true, if_false, ↓reduceIte, Option.bind_some, Option.bind_none, kont_v, kont_n, d6, k6, lg6, t6, m6, eh7]
  have G7 : GB hC 20 0 11 [.ref 1, .ref 20, .ref 21, .ref 22, .ref 31, .ref 23, .ref 37, .ref 40, .null, .null, .null] (qA 2 (fun _ => none) :: oB 5 [.ref 2, .int 0, .int 0, .int 0, .int 0, .int 0, .int 0, .int 0] :: oB 1 [.ref 6] :: oB 2 [.ref 10, .ref 24, .ref 25, .ref 26, .ref 27, .ref 28, .ref 29, .ref 30, .int 0, .int 0, .int 0, .int 0, .long 0] :: iA 50 (fun _ => 0) :: iA 7 (fun _ => 0) :: lA 9 (fun _ => 0) :: lA 9 (fun _ => 0) :: zA 9 (fun _ => 0) :: zA 9 (fun _ => 0) :: iA 9 (fun _ => 0) :: oB 6 [.ref 1, .ref 22, .ref 23, .ref 32, .ref 34, .ref 35, .ref 36, .int 0] :: oB 10 [.int (nI 16), .int (nI 6), .ref 33, .int (nI 0)] :: iA 96 (fun _ => 0) :: iA 7 (fun _ => 0) :: iA 7 (fun _ => 0) :: lA 7 (fun _ => 0) :: oB 3 [.ref 1, .ref 22, .ref 38, .ref 39] :: iA 16 (fun _ => 0) :: iA 16 (fun _ => 0) :: oB 0 [.ref 1, .ref 41, .ref 42, .ref 43, .ref 44, .int 0, .int 0, .int 0] :: iA 12 (fun _ => 0) :: iA 12 (fun _ => 0) :: iA 12 (fun _ => 0) :: oB 10 [.int (nI 12), .int (nI 12), .ref 45, .int (nI 0)] :: iA 144 (fun _ => 0) :: [] : List MC) 483 h7 := G7
  have A7 := G7.add hb (ini 8) (nfs 8)
  have d7 : h7.1 = 46 := G7.1
  have k7 := A7.2.2.1
  have lg7 : hg (hnw h7 (ini 8) (nfs 8)) 1 = oB 4 [.ref 2, .ref 4, .ref 6, .ref 8, .ref 10, .ref 12, .ref 14, .ref 16, .ref 18, .int 5] := (A7.2.2.2.1 1 (by decide) (by decide)).trans LC
  obtain ⟨g7, t7, J7⟩ := n_Referees (X := X) (h := hnw h7 (ini 8) (nfs 8)) (n := 47) (b := 46) (p1 := 1) (by rw [hg_hnw, if_pos d7.symm]) (by rw [hnw_1, d7]) (by decide)
  have S7 := G7.sub hb (show GB (hnw h7 (ini 8) (nfs 8)) (h7.1 + 1) h7.1 8 [.ref 1, .ref 47, .ref 48, .ref 49, .ref 50, .int 0] ([iA 8 (fun _ => 0), iA 8 (fun _ => 0), iA 8 (fun _ => 0), iA 256 (fun _ => 0)] : List MC) 280 g7 by rw [d7]; exact J7)
  rw [nfs_8] at S7
  have m7 := S7.2.2.1
  have G8 := S7.pf hb [.ref 1, .ref 20, .ref 21, .ref 22, .ref 31, .ref 23, .ref 37, .ref 40, .ref 46, .null, .null]
  generalize eh8 : hp g7 0 (oB 11 [.ref 1, .ref 20, .ref 21, .ref 22, .ref 31, .ref 23, .ref 37, .ref 40, .ref 46, .null, .null]) = h8 at G8
  have e8 : ev X 108 134 [.ref 0] [] h7 = ev X 108 149 [.ref 0] [] h8 := by
    simp only [s108_134, s108_135, s108_138, s108_139, s108_140, s108_143, s108_146, okF, okA, mcC_o, mcF_o, mcT_i, mcT_l, mcT_z, mcT_q, mcN_i, mcN_l, mcN_z, mcN_q, mcI_i, mcI_z, mcL_l, mcQ_q, hg_hp, hp_hp, List.getD_cons_zero, List.getD_cons_succ, List.set_cons_zero, List.set_cons_succ, List.length_cons, List.length_nil, Nat.reduceAdd, Nat.reduceLT, Nat.reduceEqDiff, Nat.lt_add_one, decide_true, decide_false, Bool.and_true, Bool.true_and, Bool.and_false, Bool.false_and, Bool.false_eq_true, if_true, if_false, ↓reduceIte, Option.bind_some, Option.bind_none, kont_v, kont_n, d7, k7, lg7, t7, m7, eh8]
  have G8 : GB hC 20 0 11 [.ref 1, .ref 20, .ref 21, .ref 22, .ref 31, .ref 23, .ref 37, .ref 40, .ref 46, .null, .null] (qA 2 (fun _ => none) :: oB 5 [.ref 2, .int 0, .int 0, .int 0, .int 0, .int 0, .int 0, .int 0] :: oB 1 [.ref 6] :: oB 2 [.ref 10, .ref 24, .ref 25, .ref 26, .ref 27, .ref 28, .ref 29, .ref 30, .int 0, .int 0, .int 0, .int 0, .long 0] :: iA 50 (fun _ => 0) :: iA 7 (fun _ => 0) :: lA 9 (fun _ => 0) :: lA 9 (fun _ => 0) :: zA 9 (fun _ => 0) :: zA 9 (fun _ => 0) :: iA 9 (fun _ => 0) :: oB 6 [.ref 1, .ref 22, .ref 23, .ref 32, .ref 34, .ref 35, .ref 36, .int 0] :: oB 10 [.int (nI 16), .int (nI 6), .ref 33, .int (nI 0)] :: iA 96 (fun _ => 0) :: iA 7 (fun _ => 0) :: iA 7 (fun _ => 0) :: lA 7 (fun _ => 0) :: oB 3 [.ref 1, .ref 22, .ref 38, .ref 39] :: iA 16 (fun _ => 0) :: iA 16 (fun _ => 0) :: oB 0 [.ref 1, .ref 41, .ref 42, .ref 43, .ref 44, .int 0, .int 0, .int 0] :: iA 12 (fun _ => 0) :: iA 12 (fun _ => 0) :: iA 12 (fun _ => 0) :: oB 10 [.int (nI 12), .int (nI 12), .ref 45, .int (nI 0)] :: iA 144 (fun _ => 0) :: oB 8 [.ref 1, .ref 47, .ref 48, .ref 49, .ref 50, .int 0] :: iA 8 (fun _ => 0) :: iA 8 (fun _ => 0) :: iA 8 (fun _ => 0) :: iA 256 (fun _ => 0) :: [] : List MC) 769 h8 := G8
  have A8 := G8.add hb (ini 9) (nfs 9)
  have d8 : h8.1 = 51 := G8.1
  have k8 := A8.2.2.1
  have lg8 : hg (hnw h8 (ini 9) (nfs 9)) 1 = oB 4 [.ref 2, .ref 4, .ref 6, .ref 8, .ref 10, .ref 12, .ref 14, .ref 16, .ref 18, .int 5] := (A8.2.2.2.1 1 (by decide) (by decide)).trans LC
  obtain ⟨g8, t8, J8⟩ := n_Relays (X := X) (h := hnw h8 (ini 9) (nfs 9)) (n := 52) (b := 51) (p1 := 18) (by rw [hg_hnw, if_pos d8.symm]) (by rw [hnw_1, d8]) (by decide)
  have S8 := G8.sub hb (show GB (hnw h8 (ini 9) (nfs 9)) (h8.1 + 1) h8.1 9 [.ref 18, .ref 52] ([iA 18 (fun _ => 0)] : List MC) 18 g8 by rw [d8]; exact J8)
  rw [nfs_9] at S8
  have m8 := S8.2.2.1
  have G9 := S8.pf hb [.ref 1, .ref 20, .ref 21, .ref 22, .ref 31, .ref 23, .ref 37, .ref 40, .ref 46, .ref 51, .null]
  generalize eh9 : hp g8 0 (oB 11 [.ref 1, .ref 20, .ref 21, .ref 22, .ref 31, .ref 23, .ref 37, .ref 40, .ref 46, .ref 51, .null]) = h9 at G9
  have e9 : ev X 108 149 [.ref 0] [] h8 = ev X 108 167 [.ref 0] [] h9 := by
    simp only [s108_149, s108_150, s108_153, s108_154, s108_155, s108_158, s108_161, s108_164, okF, okA, mcC_o, mcF_o, mcT_i, mcT_l, mcT_z, mcT_q, mcN_i, mcN_l, mcN_z, mcN_q, mcI_i, mcI_z, mcL_l, mcQ_q, hg_hp, hp_hp, List.getD_cons_zero, List.getD_cons_succ, List.set_cons_zero, List.set_cons_succ, List.length_cons, List.length_nil, Nat.reduceAdd, Nat.reduceLT, Nat.reduceEqDiff, Nat.lt_add_one, decide_true, decide_false, Bool.and_true, Bool.true_and, Bool.and_false, Bool.false_and, Bool.false_eq_true, if_true, if_false, ↓reduceIte, Option.bind_some, Option.bind_none, kont_v, kont_n, d8, k8, lg8, t8, m8, eh9]
  have G9 : GB hC 20 0 11 [.ref 1, .ref 20, .ref 21, .ref 22, .ref 31, .ref 23, .ref 37, .ref 40, .ref 46, .ref 51, .null] (qA 2 (fun _ => none) :: oB 5 [.ref 2, .int 0, .int 0, .int 0, .int 0, .int 0, .int 0, .int 0] :: oB 1 [.ref 6] :: oB 2 [.ref 10, .ref 24, .ref 25, .ref 26, .ref 27, .ref 28, .ref 29, .ref 30, .int 0, .int 0, .int 0, .int 0, .long 0] :: iA 50 (fun _ => 0) :: iA 7 (fun _ => 0) :: lA 9 (fun _ => 0) :: lA 9 (fun _ => 0) :: zA 9 (fun _ => 0) :: zA 9 (fun _ => 0) :: iA 9 (fun _ => 0) :: oB 6 [.ref 1, .ref 22, .ref 23, .ref 32, .ref 34, .ref 35, .ref 36, .int 0] :: oB 10 [.int (nI 16), .int (nI 6), .ref 33, .int (nI 0)] :: iA 96 (fun _ => 0) :: iA 7 (fun _ => 0) :: iA 7 (fun _ => 0) :: lA 7 (fun _ => 0) :: oB 3 [.ref 1, .ref 22, .ref 38, .ref 39] :: iA 16 (fun _ => 0) :: iA 16 (fun _ => 0) :: oB 0 [.ref 1, .ref 41, .ref 42, .ref 43, .ref 44, .int 0, .int 0, .int 0] :: iA 12 (fun _ => 0) :: iA 12 (fun _ => 0) :: iA 12 (fun _ => 0) :: oB 10 [.int (nI 12), .int (nI 12), .ref 45, .int (nI 0)] :: iA 144 (fun _ => 0) :: oB 8 [.ref 1, .ref 47, .ref 48, .ref 49, .ref 50, .int 0] :: iA 8 (fun _ => 0) :: iA 8 (fun _ => 0) :: iA 8 (fun _ => 0) :: iA 256 (fun _ => 0) :: oB 9 [.ref 18, .ref 52] :: iA 18 (fun _ => 0) :: [] : List MC) 789 h9 := G9
  have A9 := G9.add hb (ini 7) (nfs 7)
  have d9 : h9.1 = 53 := G9.1
  have k9 := A9.2.2.1
  have lg9 : hg (hnw h9 (ini 7) (nfs 7)) 1 = oB 4 [.ref 2, .ref 4, .ref 6, .ref 8, .ref 10, .ref 12, .ref 14, .ref 16, .ref 18, .int 5] := (A9.2.2.2.1 1 (by decide) (by decide)).trans LC
  obtain ⟨g9, t9, J9⟩ := n_Rankings (X := X) (h := hnw h9 (ini 7) (nfs 7)) (n := 54) (b := 53) (p1 := 1) (by rw [hg_hnw, if_pos d9.symm]) (by rw [hnw_1, d9]) (by decide)
  have S9 := G9.sub hb (show GB (hnw h9 (ini 7) (nfs 7)) (h9.1 + 1) h9.1 7 [.ref 1, .ref 54] ([iA 10 (fun _ => 0)] : List MC) 10 g9 by rw [d9]; exact J9)
  rw [nfs_7] at S9
  have m9 := S9.2.2.1
  have G10 := S9.pf hb [.ref 1, .ref 20, .ref 21, .ref 22, .ref 31, .ref 23, .ref 37, .ref 40, .ref 46, .ref 51, .ref 53]
  generalize eh10 : hp g9 0 (oB 11 [.ref 1, .ref 20, .ref 21, .ref 22, .ref 31, .ref 23, .ref 37, .ref 40, .ref 46, .ref 51, .ref 53]) = h10 at G10
  have e10 : ev X 108 167 [.ref 0] [] h9 = ev X 108 182 [.ref 0] [] h10 := by
    simp only [s108_167, s108_168, s108_171, s108_172, s108_173, s108_176, s108_179, okF, okA, mcC_o, mcF_o, mcT_i, mcT_l, mcT_z, mcT_q, mcN_i, mcN_l, mcN_z, mcN_q, mcI_i, mcI_z, mcL_l, mcQ_q, hg_hp, hp_hp, List.getD_cons_zero, List.getD_cons_succ, List.set_cons_zero, List.set_cons_succ, List.length_cons, List.length_nil, Nat.reduceAdd, Nat.reduceLT, Nat.reduceEqDiff, Nat.lt_add_one, decide_true, decide_false, Bool.and_true, Bool.true_and, Bool.and_false, Bool.false_and, Bool.false_eq_true, if_true, if_false, ↓reduceIte, Option.bind_some, Option.bind_none, kont_v, kont_n, d9, k9, lg9, t9, m9, eh10]
  have G10 : GB hC 20 0 11 [.ref 1, .ref 20, .ref 21, .ref 22, .ref 31, .ref 23, .ref 37, .ref 40, .ref 46, .ref 51, .ref 53] (qA 2 (fun _ => none) :: oB 5 [.ref 2, .int 0, .int 0, .int 0, .int 0, .int 0, .int 0, .int 0] :: oB 1 [.ref 6] :: oB 2 [.ref 10, .ref 24, .ref 25, .ref 26, .ref 27, .ref 28, .ref 29, .ref 30, .int 0, .int 0, .int 0, .int 0, .long 0] :: iA 50 (fun _ => 0) :: iA 7 (fun _ => 0) :: lA 9 (fun _ => 0) :: lA 9 (fun _ => 0) :: zA 9 (fun _ => 0) :: zA 9 (fun _ => 0) :: iA 9 (fun _ => 0) :: oB 6 [.ref 1, .ref 22, .ref 23, .ref 32, .ref 34, .ref 35, .ref 36, .int 0] :: oB 10 [.int (nI 16), .int (nI 6), .ref 33, .int (nI 0)] :: iA 96 (fun _ => 0) :: iA 7 (fun _ => 0) :: iA 7 (fun _ => 0) :: lA 7 (fun _ => 0) :: oB 3 [.ref 1, .ref 22, .ref 38, .ref 39] :: iA 16 (fun _ => 0) :: iA 16 (fun _ => 0) :: oB 0 [.ref 1, .ref 41, .ref 42, .ref 43, .ref 44, .int 0, .int 0, .int 0] :: iA 12 (fun _ => 0) :: iA 12 (fun _ => 0) :: iA 12 (fun _ => 0) :: oB 10 [.int (nI 12), .int (nI 12), .ref 45, .int (nI 0)] :: iA 144 (fun _ => 0) :: oB 8 [.ref 1, .ref 47, .ref 48, .ref 49, .ref 50, .int 0] :: iA 8 (fun _ => 0) :: iA 8 (fun _ => 0) :: iA 8 (fun _ => 0) :: iA 256 (fun _ => 0) :: oB 9 [.ref 18, .ref 52] :: iA 18 (fun _ => 0) :: oB 7 [.ref 1, .ref 54] :: iA 10 (fun _ => 0) :: [] : List MC) 801 h10 := G10
  have er : ev X 108 182 [.ref 0] [] h10 = some (none, h10) := s108_182
  exact ⟨hB, hC, h10, l5, l2, l3, oC, by rw [eC, hp_2, l3], (e0.trans (e1.trans (e2.trans (e3.trans (e4.trans (e5.trans (e6.trans (e7.trans (e8.trans (e9.trans (e10.trans er))))))))))), G10⟩

-- INIT 3: the start
theorem FC_T : ∀ i, i < 35 → FC (20 + i) ((qA 2 (fun _ => none) :: oB 5 [.ref 2, .int 0, .int 0, .int 0, .int 0, .int 0, .int 0, .int 0] :: oB 1 [.ref 6] :: oB 2 [.ref 10, .ref 24, .ref 25, .ref 26, .ref 27, .ref 28, .ref 29, .ref 30, .int 0, .int 0, .int 0, .int 0, .long 0] :: iA 50 (fun _ => 0) :: iA 7 (fun _ => 0) :: lA 9 (fun _ => 0) :: lA 9 (fun _ => 0) :: zA 9 (fun _ => 0) :: zA 9 (fun _ => 0) :: iA 9 (fun _ => 0) :: oB 6 [.ref 1, .ref 22, .ref 23, .ref 32, .ref 34, .ref 35, .ref 36, .int 0] :: oB 10 [.int (nI 16), .int (nI 6), .ref 33, .int (nI 0)] :: iA 96 (fun _ => 0) :: iA 7 (fun _ => 0) :: iA 7 (fun _ => 0) :: lA 7 (fun _ => 0) :: oB 3 [.ref 1, .ref 22, .ref 38, .ref 39] :: iA 16 (fun _ => 0) :: iA 16 (fun _ => 0) :: oB 0 [.ref 1, .ref 41, .ref 42, .ref 43, .ref 44, .int 0, .int 0, .int 0] :: iA 12 (fun _ => 0) :: iA 12 (fun _ => 0) :: iA 12 (fun _ => 0) :: oB 10 [.int (nI 12), .int (nI 12), .ref 45, .int (nI 0)] :: iA 144 (fun _ => 0) :: oB 8 [.ref 1, .ref 47, .ref 48, .ref 49, .ref 50, .int 0] :: iA 8 (fun _ => 0) :: iA 8 (fun _ => 0) :: iA 8 (fun _ => 0) :: iA 256 (fun _ => 0) :: oB 9 [.ref 18, .ref 52] :: iA 18 (fun _ => 0) :: oB 7 [.ref 1, .ref 54] :: iA 10 (fun _ => 0) :: [] : List MC).getD i mjunk) := by
  intro i hi
  rcases (by omega : i = 0 ∨ i = 1 ∨ i = 2 ∨ i = 3 ∨ i = 4 ∨ i = 5 ∨ i = 6 ∨ i = 7 ∨ i = 8 ∨ i = 9 ∨ i = 10 ∨ i = 11 ∨ i = 12 ∨ i = 13 ∨ i = 14 ∨ i = 15 ∨ i = 16 ∨ i = 17 ∨ i = 18 ∨ i = 19 ∨ i = 20 ∨ i = 21 ∨ i = 22 ∨ i = 23 ∨ i = 24 ∨ i = 25 ∨ i = 26 ∨ i = 27 ∨ i = 28 ∨ i = 29 ∨ i = 30 ∨ i = 31 ∨ i = 32 ∨ i = 33 ∨ i = 34) with rfl | rfl | rfl | rfl | rfl | rfl | rfl | rfl | rfl | rfl | rfl | rfl | rfl | rfl | rfl | rfl | rfl | rfl | rfl | rfl | rfl | rfl | rfl | rfl | rfl | rfl | rfl | rfl | rfl | rfl | rfl | rfl | rfl | rfl | rfl
  · exact trivial
  · exact ⟨0, (0, 0, 0, 0, 0, 0), rfl⟩
  · exact rfl
  · exact ⟨0, 0, 0, 0, 0, rfl⟩
  · exact ⟨_, rfl⟩
  · exact ⟨_, rfl⟩
  · exact ⟨_, rfl⟩
  · exact ⟨_, rfl⟩
  · exact ⟨_, rfl⟩
  · exact ⟨_, rfl⟩
  · exact ⟨_, rfl⟩
  · exact ⟨0, rfl⟩
  · exact ⟨0, rfl⟩
  · exact ⟨_, rfl⟩
  · exact ⟨_, rfl⟩
  · exact ⟨_, rfl⟩
  · exact ⟨_, rfl⟩
  · exact rfl
  · exact ⟨_, rfl⟩
  · exact ⟨_, rfl⟩
  · exact ⟨0, 0, 0, rfl⟩
  · exact ⟨_, rfl⟩
  · exact ⟨_, rfl⟩
  · exact ⟨_, rfl⟩
  · exact ⟨0, rfl⟩
  · exact ⟨_, rfl⟩
  · exact ⟨0, rfl⟩
  · exact ⟨_, rfl⟩
  · exact ⟨_, rfl⟩
  · exact ⟨_, rfl⟩
  · exact ⟨_, rfl⟩
  · exact rfl
  · exact ⟨_, rfl⟩
  · exact rfl
  · exact ⟨_, rfl⟩
theorem FC_M : ∀ i, i < 32 → 0 < i → FC (56 + i) ((iA 16450 (fun _ => 0) :: iA 32900 (fun _ => 0) :: zA 2 (fun _ => 0) :: iA 2 (fun _ => 0) :: iA 2 (fun _ => 0) :: iA 2 (fun _ => 0) :: iA 2 (fun _ => 0) :: iA 2 (fun _ => 0) :: iA 16 (fun _ => 0) :: iA 16 (fun _ => 0) :: iA 16 (fun _ => 0) :: iA 16 (fun _ => 0) :: iA 16 (fun _ => 0) :: iA 16 (fun _ => 0) :: iA 16 (fun _ => 0) :: iA 16 (fun _ => 0) :: iA 60 (fun _ => 0) :: iA 60 (fun _ => 0) :: iA 60 (fun _ => 0) :: lA 60 (fun _ => 0) :: lA 16 (fun _ => 0) :: iA 16 (fun _ => 0) :: iA 16 (fun _ => 0) :: iA 12 (fun _ => 0) :: iA 12 (fun _ => 0) :: iA 8 (fun _ => 0) :: iA 8 (fun _ => 0) :: iA 8 (fun _ => 0) :: iA 9 (fun _ => 0) :: iA 9 (fun _ => 0) :: lA 62 (fun _ => 0) :: iA 10 (fun _ => 0) :: [] : List MC).getD i mjunk) := by
  intro i hi h0
  rcases (by omega : i = 0 ∨ i = 1 ∨ i = 2 ∨ i = 3 ∨ i = 4 ∨ i = 5 ∨ i = 6 ∨ i = 7 ∨ i = 8 ∨ i = 9 ∨ i = 10 ∨ i = 11 ∨ i = 12 ∨ i = 13 ∨ i = 14 ∨ i = 15 ∨ i = 16 ∨ i = 17 ∨ i = 18 ∨ i = 19 ∨ i = 20 ∨ i = 21 ∨ i = 22 ∨ i = 23 ∨ i = 24 ∨ i = 25 ∨ i = 26 ∨ i = 27 ∨ i = 28 ∨ i = 29 ∨ i = 30 ∨ i = 31) with rfl | rfl | rfl | rfl | rfl | rfl | rfl | rfl | rfl | rfl | rfl | rfl | rfl | rfl | rfl | rfl | rfl | rfl | rfl | rfl | rfl | rfl | rfl | rfl | rfl | rfl | rfl | rfl | rfl | rfl | rfl | rfl
  · exact absurd h0 (by decide)
  · exact trivial
  · exact trivial
  · exact ⟨_, rfl⟩
  · exact ⟨_, rfl⟩
  · exact ⟨_, rfl⟩
  · exact ⟨_, rfl⟩
  · exact ⟨_, rfl⟩
  · exact ⟨_, rfl⟩
  · exact ⟨_, rfl⟩
  · exact ⟨_, rfl⟩
  · exact ⟨_, rfl⟩
  · exact ⟨_, rfl⟩
  · exact ⟨_, rfl⟩
  · exact ⟨_, rfl⟩
  · exact ⟨_, rfl⟩
  · exact ⟨_, rfl⟩
  · exact ⟨_, rfl⟩
  · exact ⟨_, rfl⟩
  · exact ⟨_, rfl⟩
  · exact ⟨_, rfl⟩
  · exact ⟨_, rfl⟩
  · exact ⟨_, rfl⟩
  · exact ⟨_, rfl⟩
  · exact ⟨_, rfl⟩
  · exact ⟨_, rfl⟩
  · exact ⟨_, rfl⟩
  · exact ⟨_, rfl⟩
  · exact ⟨_, rfl⟩
  · exact ⟨_, rfl⟩
  · exact ⟨_, rfl⟩
  · exact ⟨_, rfl⟩
theorem REL_0 : REL D00 (upd (fun _ => 0) 7 5) := by
  refine ⟨?_, upd_eq, rfl, ?_, fun b hb => absurd hb (by show ¬ b < 0; omega)⟩
  · intro i hi h4
    have q : ∀ i, i < 8 → scnt i ≠ 7 := by decide
    have q2 : ∀ i, i < 8 → i ≠ 4 → D00.1 i = 0 := by decide
    rw [upd_ne (q i hi), q2 i hi h4]
    rfl
  · intro i hi h2 j hj
    have q : ∀ i, i < 9 → 10 ≤ soff i := by decide
    have := q i hi
    rw [upd_ne (by omega)]
    rfl
theorem RNG_0 : RNG 0 D00 := by
  refine ⟨fun i hi => absurd hi (by show ¬ i < 0; omega), fun i hi => absurd hi (by show ¬ i < 0; omega), fun i hi => absurd hi (by show ¬ i < 0; omega), fun x hx => ⟨0, by omega, rfl, fun c hc => absurd hc (by omega)⟩, fun i hi => absurd hi (by show ¬ i < 0; omega), fun i hi => absurd hi (by show ¬ i < 0; omega), fun c hc => ⟨0, by omega, rfl⟩, ⟨5, by omega, by omega, rfl⟩, fun i hi => absurd hi (by show ¬ i < 0; omega)⟩
theorem in_start {X : MX} : ∃ h0 : MH, ev X 263 0 [.retAddr 0, .float 0, .float 0, .float 0] [] h00 = ev X 263 18 [.retAddr 0, .ref 0, .ref 55, .int 0] [] h0 ∧ INV 0 h0 := by
  obtain ⟨hB, hC, hT, l1, l2, l3, oC, lC, eT, GT⟩ := in_T (X := X)
  have d1 : hT.1 = 55 := GT.1
  have s1 : hT.2.1 = 2937 + 801 := by rw [GT.2.1, lC]
  obtain ⟨hZ, eZ, GZ⟩ := n_Model (X := X) (h := hnw hT (ini 12) (nfs 12)) (n := 56) (b := 55) (by rw [hg_hnw, if_pos d1.symm]) (by rw [hnw_1, d1]) (by decide)
  have z1 : hZ.1 = 88 := GZ.1
  have z2 : hZ.2.1 = 2937 + 801 + 41 + 49916 := by
    rw [GZ.2.1, hnw_2, s1, nfs_12]
  have z55 : hg hZ 55 = oB 12 (MO 0 0 0 0 0 0 0 0 0) := GZ.2.2.1
  have zM : ∀ i, i < 32 → hg hZ (56 + i) = (iA 16450 (fun _ => 0) :: iA 32900 (fun _ => 0) :: zA 2 (fun _ => 0) :: iA 2 (fun _ => 0) :: iA 2 (fun _ => 0) :: iA 2 (fun _ => 0) :: iA 2 (fun _ => 0) :: iA 2 (fun _ => 0) :: iA 16 (fun _ => 0) :: iA 16 (fun _ => 0) :: iA 16 (fun _ => 0) :: iA 16 (fun _ => 0) :: iA 16 (fun _ => 0) :: iA 16 (fun _ => 0) :: iA 16 (fun _ => 0) :: iA 16 (fun _ => 0) :: iA 60 (fun _ => 0) :: iA 60 (fun _ => 0) :: iA 60 (fun _ => 0) :: lA 60 (fun _ => 0) :: lA 16 (fun _ => 0) :: iA 16 (fun _ => 0) :: iA 16 (fun _ => 0) :: iA 12 (fun _ => 0) :: iA 12 (fun _ => 0) :: iA 8 (fun _ => 0) :: iA 8 (fun _ => 0) :: iA 8 (fun _ => 0) :: iA 9 (fun _ => 0) :: iA 9 (fun _ => 0) :: lA 62 (fun _ => 0) :: iA 10 (fun _ => 0) :: [] : List MC).getD i mjunk := GZ.2.2.2.2
  have zT : ∀ j, j < 55 → hg hZ j = hg hT j := fun j hj => by
    rw [GZ.2.2.2.1 j (by omega) (by omega), hg_hnw, if_neg (by omega)]
  have tT : ∀ i, i < 35 → hg hT (20 + i) = (qA 2 (fun _ => none) :: oB 5 [.ref 2, .int 0, .int 0, .int 0, .int 0, .int 0, .int 0, .int 0] :: oB 1 [.ref 6] :: oB 2 [.ref 10, .ref 24, .ref 25, .ref 26, .ref 27, .ref 28, .ref 29, .ref 30, .int 0, .int 0, .int 0, .int 0, .long 0] :: iA 50 (fun _ => 0) :: iA 7 (fun _ => 0) :: lA 9 (fun _ => 0) :: lA 9 (fun _ => 0) :: zA 9 (fun _ => 0) :: zA 9 (fun _ => 0) :: iA 9 (fun _ => 0) :: oB 6 [.ref 1, .ref 22, .ref 23, .ref 32, .ref 34, .ref 35, .ref 36, .int 0] :: oB 10 [.int (nI 16), .int (nI 6), .ref 33, .int (nI 0)] :: iA 96 (fun _ => 0) :: iA 7 (fun _ => 0) :: iA 7 (fun _ => 0) :: lA 7 (fun _ => 0) :: oB 3 [.ref 1, .ref 22, .ref 38, .ref 39] :: iA 16 (fun _ => 0) :: iA 16 (fun _ => 0) :: oB 0 [.ref 1, .ref 41, .ref 42, .ref 43, .ref 44, .int 0, .int 0, .int 0] :: iA 12 (fun _ => 0) :: iA 12 (fun _ => 0) :: iA 12 (fun _ => 0) :: oB 10 [.int (nI 12), .int (nI 12), .ref 45, .int (nI 0)] :: iA 144 (fun _ => 0) :: oB 8 [.ref 1, .ref 47, .ref 48, .ref 49, .ref 50, .int 0] :: iA 8 (fun _ => 0) :: iA 8 (fun _ => 0) :: iA 8 (fun _ => 0) :: iA 256 (fun _ => 0) :: oB 9 [.ref 18, .ref 52] :: iA 18 (fun _ => 0) :: oB 7 [.ref 1, .ref 54] :: iA 10 (fun _ => 0) :: [] : List MC).getD i mjunk := GT.2.2.2.2
  have tB : ∀ j, 0 < j → j < 20 → hg hT j = hg hB j := fun j h0 hj => by
    rw [GT.2.2.2.1 j hj (by omega), oC j (by omega)]
  have z56 : hg hZ 56 = iA 16450 (fun _ => 0) := zM 0 (by decide)
  obtain ⟨hE, eE⟩ : ∃ hE : MH, hE = hp hZ 56 (iA 16450 (upd (fun _ => 0) 7 5)) := ⟨_, rfl⟩
  have oE : ∀ j, j ≠ 56 → hg hE j = hg hZ j := fun j hj => by rw [eE, hg_hp, if_neg hj]
  have E56 : hg hE 56 = iA 16450 (upd (fun _ => 0) 7 5) := by rw [eE, hg_hp, if_pos rfl]
  have r7 : inR 7 16450 = true := by decide
  have c7 : (7 : Int32).toNatClampNeg = 7 := by decide
  have eM : ev X 153 255 [.ref 55] [] hZ = some (none, hE) := by
    rw [eE]
    simp only [s153_255, s153_256, s153_259, s153_261, s153_262, s153_263, okF, okA, mcC_o, mcF_o, mcT_i, mcT_l, mcT_z, mcT_q, mcN_i, mcN_l, mcN_z, mcN_q, mcI_i, mcI_z, mcL_l, mcQ_q, hg_hp, hp_hp, List.getD_cons_zero, List.getD_cons_succ, List.set_cons_zero, List.set_cons_succ, List.length_cons, List.length_nil, Nat.reduceAdd, Nat.reduceLT, Nat.reduceEqDiff, Nat.lt_add_one, decide_true, decide_false, Bool.and_true, Bool.true_and, Bool.and_false, Bool.false_and, Bool.false_eq_true, if_true, if_false, ↓reduceIte, Option.bind_some, Option.bind_none, kont_v, kont_n, z55, MO_len, MO_0, z56, r7, c7]
  have zA0 : h00.1 = 0 := rfl
  refine ⟨hE, ?_, D00, upd (fun _ => 0) 7 5, fun _ => 0, fun _ => 0, ?_, ?_, ⟨E56, (oE 57 (by decide)).trans (zM 1 (by decide)), (oE 58 (by decide)).trans (zM 2 (by decide))⟩, REL_0, RNG_0, ?_⟩
  · simp only [s263_0, s263_3, s263_4, s263_7, s263_8, s263_11, s263_12, s263_15, s263_16, s263_17, okF, okA, mcC_o, mcF_o, mcT_i, mcT_l, mcT_z, mcT_q, mcN_i, mcN_l, mcN_z, mcN_q, mcI_i, mcI_z, mcL_l, mcQ_q, hg_hp, hp_hp, List.getD_cons_zero, List.getD_cons_succ, List.set_cons_zero, List.set_cons_succ, List.length_cons, List.length_nil, Nat.reduceAdd, Nat.reduceLT, Nat.reduceEqDiff, Nat.lt_add_one, decide_true, decide_false, Bool.and_true, Bool.true_and, Bool.and_false, Bool.false_and, Bool.false_eq_true, if_true, if_false, ↓reduceIte, Option.bind_some, Option.bind_none, kont_v, kont_n, zA0, eT, d1, eZ, eM]
  · exact l1.same (fun k k1 k2 => by rw [oE k (by omega), zT k (by omega), tB k (by omega) (by omega)])
  · intro k
    by_cases k0 : k = 0
    · subst k0
      rw [oE 0 (by decide), zT 0 (by decide)]
      exact GT.2.2.1
    by_cases k1 : k < 20
    · exact FC_lg k (by omega) k1
    by_cases k2 : k < 55
    · obtain ⟨i, rfl⟩ : ∃ i, k = 20 + i := ⟨k - 20, by omega⟩
      rw [oE _ (by omega), zT _ (by omega), tT i (by omega)]
      exact FC_T i (by omega)
    by_cases k3 : k = 55
    · subst k3
      rw [oE 55 (by decide), z55]
      exact ⟨0, 0, 0, 0, 0, 0, 0, 0, 0, rfl⟩
    by_cases k4 : k = 56
    · subst k4
      exact trivial
    by_cases k5 : k < 88
    · obtain ⟨i, rfl⟩ : ∃ i, k = 56 + i := ⟨k - 56, by omega⟩
      rw [oE _ (by omega), zM i (by omega)]
      exact FC_M i (by omega) (by omega)
    · exact FC_big (by omega)
  · refine ⟨fun _ => none, ?_, fun i hi => Or.inl ⟨rfl, rfl⟩, (fun a b ha hb => by cases ha), ?_, ?_⟩
    · rw [oE 20 (by decide), zT 20 (by decide)]
      exact tT 0 (by decide)
    · rw [eE, hp_1, z1]
      rfl
    · rw [eE, hp_2, z2]
      show _ ≤ 100000 + 10000 * 0
      omega
theorem law_ok : LawOk := fun X hX => law_fin hX in_start

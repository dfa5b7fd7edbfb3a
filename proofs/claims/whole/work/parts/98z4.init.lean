-- INIT: the objects of the start
theorem ini_11 : ini 11 = oB 11 [.null, .null, .null, .null, .null, .null, .null, .null, .null, .null, .null] := by rfl
theorem nfs_11 : nfs 11 = 11 := by rfl
theorem ini_0 : ini 0 = oB 0 [.null, .null, .null, .null, .null, .int 0, .int 0, .int 0] := by rfl
theorem nfs_0 : nfs 0 = 8 := by rfl
theorem ini_1 : ini 1 = oB 1 [.null] := by rfl
theorem nfs_1 : nfs 1 = 1 := by rfl
theorem ini_2 : ini 2 = oB 2 [.null, .null, .null, .null, .null, .null, .null, .null, .int 0, .int 0, .int 0, .int 0, .long 0] := by rfl
theorem nfs_2 : nfs 2 = 13 := by rfl
theorem ini_3 : ini 3 = oB 3 [.null, .null, .null, .null] := by rfl
theorem nfs_3 : nfs 3 = 4 := by rfl
theorem ini_5 : ini 5 = oB 5 [.null, .int 0, .int 0, .int 0, .int 0, .int 0, .int 0, .int 0] := by rfl
theorem nfs_5 : nfs 5 = 8 := by rfl
theorem ini_6 : ini 6 = oB 6 [.null, .null, .null, .null, .null, .null, .null, .int 0] := by rfl
theorem nfs_6 : nfs 6 = 8 := by rfl
theorem ini_7 : ini 7 = oB 7 [.null, .null] := by rfl
theorem nfs_7 : nfs 7 = 2 := by rfl
theorem ini_8 : ini 8 = oB 8 [.null, .null, .null, .null, .null, .int 0] := by rfl
theorem nfs_8 : nfs 8 = 6 := by rfl
theorem ini_9 : ini 9 = oB 9 [.null, .null] := by rfl
theorem nfs_9 : nfs 9 = 2 := by rfl
theorem ini_12 : ini 12 = oB 12 [.null, .null, .null, .null, .null, .null, .null, .null, .int 0, .int 0, .null, .null, .null, .null, .null, .null, .int 0, .null, .null, .int 0, .null, .null, .int 0, .null, .null, .null, .int 0, .null, .null, .null, .null, .int 0, .int 0, .null, .null, .null, .int 0, .null, .null, .null, .null] := by rfl
theorem nfs_12 : nfs 12 = 41 := by rfl
/-- an object at b is being filled: cs are the cells made since h0, of n cells -/
def GB (h0 : MH) (n b c : Nat) (fs : List Value) (cs : List MC) (sz : Nat) (h : MH) : Prop := h.1 = n + cs.length ∧ h.2.1 = h0.2.1 + sz ∧ hg h b = oB c fs ∧ (∀ j, j < n → j ≠ b → hg h j = hg h0 j) ∧ ∀ i, i < cs.length → hg h (n + i) = cs.getD i mjunk
theorem GB.start {h : MH} {n b c : Nat} {fs : List Value} (e : hg h b = oB c fs) (en : h.1 = n) : GB h n b c fs [] 0 h := ⟨en, rfl, e, fun _ _ _ => rfl, fun i hi => absurd hi (by show ¬ i < 0; omega)⟩
theorem GB.pf {h0 h : MH} {n b c sz : Nat} {fs : List Value} {cs : List MC} (G : GB h0 n b c fs cs sz h) (hb : b < n) (fs' : List Value) : GB h0 n b c fs' cs sz (hp h b (oB c fs')) := ⟨G.1, G.2.1, by rw [hg_hp, if_pos rfl], fun j h1 h2 => by rw [hg_hp, if_neg h2]; exact G.2.2.2.1 j h1 h2, fun i hi => by rw [hg_hp, if_neg (by omega)]; exact G.2.2.2.2 i hi⟩
theorem getD_l {l m : List MC} {i : Nat} (h : i < l.length) : (l ++ m).getD i mjunk = l.getD i mjunk := by
  rw [List.getD_eq_getElem?_getD, List.getD_eq_getElem?_getD, List.getElem?_append_left h]
theorem getD_r {l m : List MC} {i : Nat} (h : l.length ≤ i) : (l ++ m).getD i mjunk = m.getD (i - l.length) mjunk := by
  rw [List.getD_eq_getElem?_getD, List.getD_eq_getElem?_getD, List.getElem?_append_right h]
theorem GB.add {h0 h : MH} {n b c sz : Nat} {fs : List Value} {cs : List MC} (G : GB h0 n b c fs cs sz h) (hb : b < n) (d : MC) (z : Nat) : GB h0 n b c fs (cs ++ [d]) (sz + z) (hnw h d z) := by
  obtain ⟨g1, g2, g3, g4, g5⟩ := G
  refine ⟨by rw [hnw_1, g1, List.length_append]; rfl, by rw [hnw_2, g2, Nat.add_assoc], by rw [hg_hnw, if_neg (by omega)]; exact g3, fun j h1 h2 => by rw [hg_hnw, if_neg (by omega)]; exact g4 j h1 h2, fun i hi => ?_⟩
  rw [List.length_append] at hi
  have hi : i < cs.length + 1 := hi
  rw [hg_hnw]
  by_cases z : i < cs.length
  · rw [if_neg (by omega), getD_l z]; exact g5 i z
  · rw [if_pos (by omega), getD_r (by omega), show i - cs.length = 0 by omega]; rfl
theorem GB.sub {h0 h h2 : MH} {n b c sz c2 sz2 z : Nat} {fs fs2 : List Value} {cs cs2 : List MC} {d : MC} (G : GB h0 n b c fs cs sz h) (hb : b < n) (G2 : GB (hnw h d z) (h.1 + 1) h.1 c2 fs2 cs2 sz2 h2) : GB h0 n b c fs (cs ++ (oB c2 fs2 :: cs2)) (sz + z + sz2) h2 := by
  obtain ⟨g1, g2, g3, g4, g5⟩ := G
  obtain ⟨k1, k2, k3, k4, k5⟩ := G2
  refine ⟨by rw [k1, g1, List.length_append, List.length_cons]; omega, by rw [k2, hnw_2, g2]; omega, ?_, fun j h1 h2 => ?_, fun i hi => ?_⟩
  · rw [k4 b (by omega) (by omega), hg_hnw, if_neg (by omega)]; exact g3
  · rw [k4 j (by omega) (by omega), hg_hnw, if_neg (by omega)]; exact g4 j h1 h2
  · rw [List.length_append, List.length_cons] at hi
    by_cases z : i < cs.length
    · rw [getD_l z, k4 (n + i) (by omega) (by omega), hg_hnw, if_neg (by omega)]; exact g5 i z
    · rw [getD_r (by omega)]
      by_cases w : i = cs.length
      · rw [show n + i = h.1 by omega, show i - cs.length = 0 by omega]; exact k3
      · have := k5 (i - cs.length - 1) (by omega)
        rw [show h.1 + 1 + (i - cs.length - 1) = n + i by omega] at this
        rw [this, show i - cs.length = (i - cs.length - 1) + 1 by omega]
        rfl
theorem GB.okF {h0 h : MH} {n b c sz k : Nat} {fs : List Value} {cs : List MC} (G : GB h0 n b c fs cs sz h) (hk : k < fs.length) : okF (hg h b) c k = true := by
  rw [G.2.2.1]
  unfold Jvm.Pilot.CTouchLeagueLaw_law_r7155_831c6a.okF
  rw [mcC_o, mcF_o, decide_eq_true rfl, decide_eq_true hk]
  rfl
theorem GB.mcF {h0 h : MH} {n b c sz : Nat} {fs : List Value} {cs : List MC} (G : GB h0 n b c fs cs sz h) : mcF (hg h b) = fs := by
  rw [G.2.2.1, mcF_o]
theorem GB.tab {h0 h : MH} {n b c sz C W N : Nat} {fs : List Value} {cs : List MC} (G : GB h0 n b c fs cs sz h) (hb : b < n) (hN : C * W = N) : GB h0 n b c fs (cs ++ [oB 10 [.int (nI C), .int (nI W), .ref (h.1 + 1), .int (nI 0)], iA N (fun _ => 0)]) (sz + (4 + N)) (tnw h C W) := by
  subst hN
  have := (G.add hb (oB 10 [.int (nI C), .int (nI W), .ref (h.1 + 1), .int (nI 0)]) 4).add hb (iA (C * W) (fun _ => 0)) (C * W)
  rw [List.append_assoc, Nat.add_assoc] at this
  exact this
theorem okl_2 : okN 2 = true := by decide
theorem cll_2 : (2 : Int32).toNatClampNeg = 2 := by decide
theorem okl_7 : okN 7 = true := by decide
theorem cll_7 : (7 : Int32).toNatClampNeg = 7 := by decide
theorem okl_8 : okN 8 = true := by decide
theorem cll_8 : (8 : Int32).toNatClampNeg = 8 := by decide
theorem okl_9 : okN 9 = true := by decide
theorem cll_9 : (9 : Int32).toNatClampNeg = 9 := by decide
theorem okl_10 : okN 10 = true := by decide
theorem cll_10 : (10 : Int32).toNatClampNeg = 10 := by decide
theorem okl_12 : okN 12 = true := by decide
theorem cll_12 : (12 : Int32).toNatClampNeg = 12 := by decide
theorem okl_16 : okN 16 = true := by decide
theorem cll_16 : (16 : Int32).toNatClampNeg = 16 := by decide
theorem okl_18 : okN 18 = true := by decide
theorem cll_18 : (18 : Int32).toNatClampNeg = 18 := by decide
theorem okl_50 : okN 50 = true := by decide
theorem cll_50 : (50 : Int32).toNatClampNeg = 50 := by decide
theorem okl_60 : okN 60 = true := by decide
theorem cll_60 : (60 : Int32).toNatClampNeg = 60 := by decide
theorem okl_62 : okN 62 = true := by decide
theorem cll_62 : (62 : Int32).toNatClampNeg = 62 := by decide
theorem okl_256 : okN 256 = true := by decide
theorem cll_256 : (256 : Int32).toNatClampNeg = 256 := by decide
theorem okl_16450 : okN 16450 = true := by decide
theorem cll_16450 : (16450 : Int32).toNatClampNeg = 16450 := by decide
theorem okl_32900 : okN 32900 = true := by decide
theorem cll_32900 : (32900 : Int32).toNatClampNeg = 32900 := by decide
theorem i0_0 {X : MX} {h0 h : MH} {n b sz p1 : Nat} {fs : List Value} {cs : List MC} (G : GB h0 n b 0 fs cs sz h) (hb : b < n) (hl : fs.length = 8) (hm : cs.length = 0) : ∃ h1 : MH, ev X 0 4 [.ref b, .ref p1] [] h = ev X 0 12 [.ref b, .ref p1] [] h1 ∧ GB h0 n b 0 (fs.set 1 (.ref (n + 0))) (cs ++ [iA 12 (fun _ => 0)]) (sz + 12) h1 := by
  have A := G.add hb (iA 12 (fun _ => 0)) 12
  have o := A.okF (k := 1) (by omega)
  have f := A.mcF
  have e1 : h.1 = n + 0 := by rw [G.1, hm]
  exact ⟨_, by simp only [s0_4, s0_5, s0_7, s0_9, okl_12, cll_12, o, f, e1, if_true, ↓reduceIte], A.pf hb _⟩
theorem i0_1 {X : MX} {h0 h : MH} {n b sz p1 : Nat} {fs : List Value} {cs : List MC} (G : GB h0 n b 0 fs cs sz h) (hb : b < n) (hl : fs.length = 8) (hm : cs.length = 1) : ∃ h1 : MH, ev X 0 12 [.ref b, .ref p1] [] h = ev X 0 20 [.ref b, .ref p1] [] h1 ∧ GB h0 n b 0 (fs.set 2 (.ref (n + 1))) (cs ++ [iA 12 (fun _ => 0)]) (sz + 12) h1 := by
  have A := G.add hb (iA 12 (fun _ => 0)) 12
  have o := A.okF (k := 2) (by omega)
  have f := A.mcF
  have e1 : h.1 = n + 1 := by rw [G.1, hm]
  exact ⟨_, by simp only [s0_12, s0_13, s0_15, s0_17, okl_12, cll_12, o, f, e1, if_true, ↓reduceIte], A.pf hb _⟩
theorem i0_2 {X : MX} {h0 h : MH} {n b sz p1 : Nat} {fs : List Value} {cs : List MC} (G : GB h0 n b 0 fs cs sz h) (hb : b < n) (hl : fs.length = 8) (hm : cs.length = 2) : ∃ h1 : MH, ev X 0 20 [.ref b, .ref p1] [] h = ev X 0 28 [.ref b, .ref p1] [] h1 ∧ GB h0 n b 0 (fs.set 3 (.ref (n + 2))) (cs ++ [iA 12 (fun _ => 0)]) (sz + 12) h1 := by
  have A := G.add hb (iA 12 (fun _ => 0)) 12
  have o := A.okF (k := 3) (by omega)
  have f := A.mcF
  have e1 : h.1 = n + 2 := by rw [G.1, hm]
  exact ⟨_, by simp only [s0_20, s0_21, s0_23, s0_25, okl_12, cll_12, o, f, e1, if_true, ↓reduceIte], A.pf hb _⟩
theorem i0_3 {X : MX} {h0 h : MH} {n b sz p1 : Nat} {fs : List Value} {cs : List MC} (G : GB h0 n b 0 fs cs sz h) (hb : b < n) (hl : fs.length = 8) (hm : cs.length = 3) : ∃ h1 : MH, ev X 0 28 [.ref b, .ref p1] [] h = ev X 0 43 [.ref b, .ref p1] [] h1 ∧ GB h0 n b 0 (fs.set 4 (.ref (n + 3))) (cs ++ [oB 10 [.int (nI 12), .int (nI 12), .ref (n + 3 + 1), .int (nI 0)], iA 144 (fun _ => 0)]) (sz + 148) h1 := by
  have A := G.tab hb (C := 12) (W := 12) (N := 144) rfl
  have o := A.okF (k := 4) (by omega)
  have f := A.mcF
  have e1 : h.1 = n + 3 := by rw [G.1, hm]
  have t : ev X 98 0 [.ref h.1, .int 12, .int 12] [] (hnw h (ini 10) (nfs 10)) = some (none, tnw h 12 12) := tb_new (X := X) (h := h) (C := 12) (W := 12) (by decide) (by decide) (by decide)
  have B := A.pf hb (fs.set 4 (.ref (n + 3)))
  rw [e1] at B
  refine ⟨_, ?_, B⟩
  rw [← e1]
  simp only [s0_28, s0_29, s0_32, s0_33, s0_35, s0_37, s0_40, t, o, f, Option.bind_some, kont_n, if_true, ↓reduceIte]
theorem i0_4 {X : MX} {h0 h : MH} {n b sz p1 : Nat} {fs : List Value} {cs : List MC} (G : GB h0 n b 0 fs cs sz h) (hb : b < n) (hl : fs.length = 8) : ∃ h1 : MH, ev X 0 43 [.ref b, .ref p1] [] h = ev X 0 48 [.ref b, .ref p1] [] h1 ∧ GB h0 n b 0 (fs.set 0 (.ref p1)) cs sz h1 := by
  have o := G.okF (k := 0) (by omega)
  have f := G.mcF
  exact ⟨_, by simp only [s0_43, s0_44, s0_45, o, f, if_true, ↓reduceIte], G.pf hb _⟩
theorem n_Apart {X : MX} {h : MH} {n b p1 : Nat} (e0 : hg h b = ini 0) (en : h.1 = n) (hb : b < n) : ∃ h1 : MH, ev X 0 0 [.ref b, .ref p1] [] h = some (none, h1) ∧ GB h n b 0 [.ref p1, .ref (n + 0), .ref (n + 1), .ref (n + 2), .ref (n + 3), .int 0, .int 0, .int 0] ([iA 12 (fun _ => 0), iA 12 (fun _ => 0), iA 12 (fun _ => 0), oB 10 [.int (nI 12), .int (nI 12), .ref (n + 3 + 1), .int (nI 0)], iA 144 (fun _ => 0)] : List MC) 184 h1 := by
  rw [ini_0] at e0
  have G0 := GB.start e0 en
  obtain ⟨h1, e1, G1⟩ := i0_0 (X := X) (p1 := p1) G0 hb rfl rfl
  have G1 : GB h n b 0 [.null, .ref (n + 0), .null, .null, .null, .int 0, .int 0, .int 0] ([iA 12 (fun _ => 0)] : List MC) 12 h1 := G1
  obtain ⟨h2, e2, G2⟩ := i0_1 (X := X) (p1 := p1) G1 hb rfl rfl
  have G2 : GB h n b 0 [.null, .ref (n + 0), .ref (n + 1), .null, .null, .int 0, .int 0, .int 0] ([iA 12 (fun _ => 0), iA 12 (fun _ => 0)] : List MC) 24 h2 := G2
  obtain ⟨h3, e3, G3⟩ := i0_2 (X := X) (p1 := p1) G2 hb rfl rfl
  have G3 : GB h n b 0 [.null, .ref (n + 0), .ref (n + 1), .ref (n + 2), .null, .int 0, .int 0, .int 0] ([iA 12 (fun _ => 0), iA 12 (fun _ => 0), iA 12 (fun _ => 0)] : List MC) 36 h3 := G3
  obtain ⟨h4, e4, G4⟩ := i0_3 (X := X) (p1 := p1) G3 hb rfl rfl
  have G4 : GB h n b 0 [.null, .ref (n + 0), .ref (n + 1), .ref (n + 2), .ref (n + 3), .int 0, .int 0, .int 0] ([iA 12 (fun _ => 0), iA 12 (fun _ => 0), iA 12 (fun _ => 0), oB 10 [.int (nI 12), .int (nI 12), .ref (n + 3 + 1), .int (nI 0)], iA 144 (fun _ => 0)] : List MC) 184 h4 := G4
  obtain ⟨h5, e5, G5⟩ := i0_4 (X := X) (p1 := p1) G4 hb rfl
  have G5 : GB h n b 0 [.ref p1, .ref (n + 0), .ref (n + 1), .ref (n + 2), .ref (n + 3), .int 0, .int 0, .int 0] ([iA 12 (fun _ => 0), iA 12 (fun _ => 0), iA 12 (fun _ => 0), oB 10 [.int (nI 12), .int (nI 12), .ref (n + 3 + 1), .int (nI 0)], iA 144 (fun _ => 0)] : List MC) 184 h5 := G5
  have el : ev X 0 48 [.ref b, .ref p1] [] h5 = some (none, h5) := s0_48
  have es : ev X 0 0 [.ref b, .ref p1] [] h = ev X 0 4 [.ref b, .ref p1] [] h := by rw [s0_0, s0_1]
  exact ⟨h5, es.trans (e1.trans (e2.trans (e3.trans (e4.trans (e5.trans el))))), G5⟩
theorem i7_0 {X : MX} {h0 h : MH} {n b sz p1 : Nat} {fs : List Value} {cs : List MC} (G : GB h0 n b 1 fs cs sz h) (hb : b < n) (hl : fs.length = 1) : ∃ h1 : MH, ev X 7 4 [.ref b, .ref p1] [] h = ev X 7 9 [.ref b, .ref p1] [] h1 ∧ GB h0 n b 1 (fs.set 0 (.ref p1)) cs sz h1 := by
  have o := G.okF (k := 0) (by omega)
  have f := G.mcF
  exact ⟨_, by simp only [s7_4, s7_5, s7_6, o, f, if_true, ↓reduceIte], G.pf hb _⟩
theorem n_Bouts {X : MX} {h : MH} {n b p1 : Nat} (e0 : hg h b = ini 1) (en : h.1 = n) (hb : b < n) : ∃ h1 : MH, ev X 7 0 [.ref b, .ref p1] [] h = some (none, h1) ∧ GB h n b 1 [.ref p1] ([] : List MC) 0 h1 := by
  rw [ini_1] at e0
  have G0 := GB.start e0 en
  obtain ⟨h1, e1, G1⟩ := i7_0 (X := X) (p1 := p1) G0 hb rfl
  have G1 : GB h n b 1 [.ref p1] ([] : List MC) 0 h1 := G1
  have el : ev X 7 9 [.ref b, .ref p1] [] h1 = some (none, h1) := s7_9
  have es : ev X 7 0 [.ref b, .ref p1] [] h = ev X 7 4 [.ref b, .ref p1] [] h := by rw [s7_0, s7_1]
  exact ⟨h1, es.trans (e1.trans el), G1⟩
theorem i23_0 {X : MX} {h0 h : MH} {n b sz p1 : Nat} {fs : List Value} {cs : List MC} (G : GB h0 n b 2 fs cs sz h) (hb : b < n) (hl : fs.length = 13) (hm : cs.length = 0) : ∃ h1 : MH, ev X 23 4 [.ref b, .ref p1] [] h = ev X 23 12 [.ref b, .ref p1] [] h1 ∧ GB h0 n b 2 (fs.set 1 (.ref (n + 0))) (cs ++ [iA 50 (fun _ => 0)]) (sz + 50) h1 := by
  have A := G.add hb (iA 50 (fun _ => 0)) 50
  have o := A.okF (k := 1) (by omega)
  have f := A.mcF
  have e1 : h.1 = n + 0 := by rw [G.1, hm]
  exact ⟨_, by simp only [s23_4, s23_5, s23_7, s23_9, okl_50, cll_50, o, f, e1, if_true, ↓reduceIte], A.pf hb _⟩
theorem i23_1 {X : MX} {h0 h : MH} {n b sz p1 : Nat} {fs : List Value} {cs : List MC} (G : GB h0 n b 2 fs cs sz h) (hb : b < n) (hl : fs.length = 13) (hm : cs.length = 1) : ∃ h1 : MH, ev X 23 12 [.ref b, .ref p1] [] h = ev X 23 20 [.ref b, .ref p1] [] h1 ∧ GB h0 n b 2 (fs.set 2 (.ref (n + 1))) (cs ++ [iA 7 (fun _ => 0)]) (sz + 7) h1 := by
  have A := G.add hb (iA 7 (fun _ => 0)) 7
  have o := A.okF (k := 2) (by omega)
  have f := A.mcF
  have e1 : h.1 = n + 1 := by rw [G.1, hm]
  exact ⟨_, by simp only [s23_12, s23_13, s23_15, s23_17, okl_7, cll_7, o, f, e1, if_true, ↓reduceIte], A.pf hb _⟩
theorem i23_2 {X : MX} {h0 h : MH} {n b sz p1 : Nat} {fs : List Value} {cs : List MC} (G : GB h0 n b 2 fs cs sz h) (hb : b < n) (hl : fs.length = 13) (hm : cs.length = 2) : ∃ h1 : MH, ev X 23 20 [.ref b, .ref p1] [] h = ev X 23 28 [.ref b, .ref p1] [] h1 ∧ GB h0 n b 2 (fs.set 3 (.ref (n + 2))) (cs ++ [lA 9 (fun _ => 0)]) (sz + 9) h1 := by
  have A := G.add hb (lA 9 (fun _ => 0)) 9
  have o := A.okF (k := 3) (by omega)
  have f := A.mcF
  have e1 : h.1 = n + 2 := by rw [G.1, hm]
  exact ⟨_, by simp only [s23_20, s23_21, s23_23, s23_25, okl_9, cll_9, o, f, e1, if_true, ↓reduceIte], A.pf hb _⟩
theorem i23_3 {X : MX} {h0 h : MH} {n b sz p1 : Nat} {fs : List Value} {cs : List MC} (G : GB h0 n b 2 fs cs sz h) (hb : b < n) (hl : fs.length = 13) (hm : cs.length = 3) : ∃ h1 : MH, ev X 23 28 [.ref b, .ref p1] [] h = ev X 23 36 [.ref b, .ref p1] [] h1 ∧ GB h0 n b 2 (fs.set 4 (.ref (n + 3))) (cs ++ [lA 9 (fun _ => 0)]) (sz + 9) h1 := by
  have A := G.add hb (lA 9 (fun _ => 0)) 9
  have o := A.okF (k := 4) (by omega)
  have f := A.mcF
  have e1 : h.1 = n + 3 := by rw [G.1, hm]
  exact ⟨_, by simp only [s23_28, s23_29, s23_31, s23_33, okl_9, cll_9, o, f, e1, if_true, ↓reduceIte], A.pf hb _⟩
theorem i23_4 {X : MX} {h0 h : MH} {n b sz p1 : Nat} {fs : List Value} {cs : List MC} (G : GB h0 n b 2 fs cs sz h) (hb : b < n) (hl : fs.length = 13) (hm : cs.length = 4) : ∃ h1 : MH, ev X 23 36 [.ref b, .ref p1] [] h = ev X 23 44 [.ref b, .ref p1] [] h1 ∧ GB h0 n b 2 (fs.set 5 (.ref (n + 4))) (cs ++ [zA 9 (fun _ => 0)]) (sz + 9) h1 := by
  have A := G.add hb (zA 9 (fun _ => 0)) 9
  have o := A.okF (k := 5) (by omega)
  have f := A.mcF
  have e1 : h.1 = n + 4 := by rw [G.1, hm]
  exact ⟨_, by simp only [s23_36, s23_37, s23_39, s23_41, okl_9, cll_9, o, f, e1, if_true, ↓reduceIte], A.pf hb _⟩
theorem i23_5 {X : MX} {h0 h : MH} {n b sz p1 : Nat} {fs : List Value} {cs : List MC} (G : GB h0 n b 2 fs cs sz h) (hb : b < n) (hl : fs.length = 13) (hm : cs.length = 5) : ∃ h1 : MH, ev X 23 44 [.ref b, .ref p1] [] h = ev X 23 52 [.ref b, .ref p1] [] h1 ∧ GB h0 n b 2 (fs.set 6 (.ref (n + 5))) (cs ++ [zA 9 (fun _ => 0)]) (sz + 9) h1 := by
  have A := G.add hb (zA 9 (fun _ => 0)) 9
  have o := A.okF (k := 6) (by omega)
  have f := A.mcF
  have e1 : h.1 = n + 5 := by rw [G.1, hm]
  exact ⟨_, by simp only [s23_44, s23_45, s23_47, s23_49, okl_9, cll_9, o, f, e1, if_true, ↓reduceIte], A.pf hb _⟩
theorem i23_6 {X : MX} {h0 h : MH} {n b sz p1 : Nat} {fs : List Value} {cs : List MC} (G : GB h0 n b 2 fs cs sz h) (hb : b < n) (hl : fs.length = 13) (hm : cs.length = 6) : ∃ h1 : MH, ev X 23 52 [.ref b, .ref p1] [] h = ev X 23 60 [.ref b, .ref p1] [] h1 ∧ GB h0 n b 2 (fs.set 7 (.ref (n + 6))) (cs ++ [iA 9 (fun _ => 0)]) (sz + 9) h1 := by
  have A := G.add hb (iA 9 (fun _ => 0)) 9
  have o := A.okF (k := 7) (by omega)
  have f := A.mcF
  have e1 : h.1 = n + 6 := by rw [G.1, hm]
  exact ⟨_, by simp only [s23_52, s23_53, s23_55, s23_57, okl_9, cll_9, o, f, e1, if_true, ↓reduceIte], A.pf hb _⟩
theorem i23_7 {X : MX} {h0 h : MH} {n b sz p1 : Nat} {fs : List Value} {cs : List MC} (G : GB h0 n b 2 fs cs sz h) (hb : b < n) (hl : fs.length = 13) : ∃ h1 : MH, ev X 23 60 [.ref b, .ref p1] [] h = ev X 23 65 [.ref b, .ref p1] [] h1 ∧ GB h0 n b 2 (fs.set 0 (.ref p1)) cs sz h1 := by
  have o := G.okF (k := 0) (by omega)
  have f := G.mcF
  exact ⟨_, by simp only [s23_60, s23_61, s23_62, o, f, if_true, ↓reduceIte], G.pf hb _⟩
theorem n_Formula {X : MX} {h : MH} {n b p1 : Nat} (e0 : hg h b = ini 2) (en : h.1 = n) (hb : b < n) : ∃ h1 : MH, ev X 23 0 [.ref b, .ref p1] [] h = some (none, h1) ∧ GB h n b 2 [.ref p1, .ref (n + 0), .ref (n + 1), .ref (n + 2), .ref (n + 3), .ref (n + 4), .ref (n + 5), .ref (n + 6), .int 0, .int 0, .int 0, .int 0, .long 0] ([iA 50 (fun _ => 0), iA 7 (fun _ => 0), lA 9 (fun _ => 0), lA 9 (fun _ => 0), zA 9 (fun _ => 0), zA 9 (fun _ => 0), iA 9 (fun _ => 0)] : List MC) 102 h1 := by
  rw [ini_2] at e0
  have G0 := GB.start e0 en
  obtain ⟨h1, e1, G1⟩ := i23_0 (X := X) (p1 := p1) G0 hb rfl rfl
  have G1 : GB h n b 2 [.null, .ref (n + 0), .null, .null, .null, .null, .null, .null, .int 0, .int 0, .int 0, .int 0, .long 0] ([iA 50 (fun _ => 0)] : List MC) 50 h1 := G1
  obtain ⟨h2, e2, G2⟩ := i23_1 (X := X) (p1 := p1) G1 hb rfl rfl
  have G2 : GB h n b 2 [.null, .ref (n + 0), .ref (n + 1), .null, .null, .null, .null, .null, .int 0, .int 0, .int 0, .int 0, .long 0] ([iA 50 (fun _ => 0), iA 7 (fun _ => 0)] : List MC) 57 h2 := G2
  obtain ⟨h3, e3, G3⟩ := i23_2 (X := X) (p1 := p1) G2 hb rfl rfl
  have G3 : GB h n b 2 [.null, .ref (n + 0), .ref (n + 1), .ref (n + 2), .null, .null, .null, .null, .int 0, .int 0, .int 0, .int 0, .long 0] ([iA 50 (fun _ => 0), iA 7 (fun _ => 0), lA 9 (fun _ => 0)] : List MC) 66 h3 := G3
  obtain ⟨h4, e4, G4⟩ := i23_3 (X := X) (p1 := p1) G3 hb rfl rfl
  have G4 : GB h n b 2 [.null, .ref (n + 0), .ref (n + 1), .ref (n + 2), .ref (n + 3), .null, .null, .null, .int 0, .int 0, .int 0, .int 0, .long 0] ([iA 50 (fun _ => 0), iA 7 (fun _ => 0), lA 9 (fun _ => 0), lA 9 (fun _ => 0)] : List MC) 75 h4 := G4
  obtain ⟨h5, e5, G5⟩ := i23_4 (X := X) (p1 := p1) G4 hb rfl rfl
  have G5 : GB h n b 2 [.null, .ref (n + 0), .ref (n + 1), .ref (n + 2), .ref (n + 3), .ref (n + 4), .null, .null, .int 0, .int 0, .int 0, .int 0, .long 0] ([iA 50 (fun _ => 0), iA 7 (fun _ => 0), lA 9 (fun _ => 0), lA 9 (fun _ => 0), zA 9 (fun _ => 0)] : List MC) 84 h5 := G5
  obtain ⟨h6, e6, G6⟩ := i23_5 (X := X) (p1 := p1) G5 hb rfl rfl
  have G6 : GB h n b 2 [.null, .ref (n + 0), .ref (n + 1), .ref (n + 2), .ref (n + 3), .ref (n + 4), .ref (n + 5), .null, .int 0, .int 0, .int 0, .int 0, .long 0] ([iA 50 (fun _ => 0), iA 7 (fun _ => 0), lA 9 (fun _ => 0), lA 9 (fun _ => 0), zA 9 (fun _ => 0), zA 9 (fun _ => 0)] : List MC) 93 h6 := G6
  obtain ⟨h7, e7, G7⟩ := i23_6 (X := X) (p1 := p1) G6 hb rfl rfl
  have G7 : GB h n b 2 [.null, .ref (n + 0), .ref (n + 1), .ref (n + 2), .ref (n + 3), .ref (n + 4), .ref (n + 5), .ref (n + 6), .int 0, .int 0, .int 0, .int 0, .long 0] ([iA 50 (fun _ => 0), iA 7 (fun _ => 0), lA 9 (fun _ => 0), lA 9 (fun _ => 0), zA 9 (fun _ => 0), zA 9 (fun _ => 0), iA 9 (fun _ => 0)] : List MC) 102 h7 := G7
  obtain ⟨h8, e8, G8⟩ := i23_7 (X := X) (p1 := p1) G7 hb rfl
  have G8 : GB h n b 2 [.ref p1, .ref (n + 0), .ref (n + 1), .ref (n + 2), .ref (n + 3), .ref (n + 4), .ref (n + 5), .ref (n + 6), .int 0, .int 0, .int 0, .int 0, .long 0] ([iA 50 (fun _ => 0), iA 7 (fun _ => 0), lA 9 (fun _ => 0), lA 9 (fun _ => 0), zA 9 (fun _ => 0), zA 9 (fun _ => 0), iA 9 (fun _ => 0)] : List MC) 102 h8 := G8
  have el : ev X 23 65 [.ref b, .ref p1] [] h8 = some (none, h8) := s23_65
  have es : ev X 23 0 [.ref b, .ref p1] [] h = ev X 23 4 [.ref b, .ref p1] [] h := by rw [s23_0, s23_1]
  exact ⟨h8, es.trans (e1.trans (e2.trans (e3.trans (e4.trans (e5.trans (e6.trans (e7.trans (e8.trans el)))))))), G8⟩
theorem i38_0 {X : MX} {h0 h : MH} {n b sz p1 p2 : Nat} {fs : List Value} {cs : List MC} (G : GB h0 n b 3 fs cs sz h) (hb : b < n) (hl : fs.length = 4) (hm : cs.length = 0) : ∃ h1 : MH, ev X 38 4 [.ref b, .ref p1, .ref p2] [] h = ev X 38 12 [.ref b, .ref p1, .ref p2] [] h1 ∧ GB h0 n b 3 (fs.set 2 (.ref (n + 0))) (cs ++ [iA 16 (fun _ => 0)]) (sz + 16) h1 := by
  have A := G.add hb (iA 16 (fun _ => 0)) 16
  have o := A.okF (k := 2) (by omega)
  have f := A.mcF
  have e1 : h.1 = n + 0 := by rw [G.1, hm]
  exact ⟨_, by simp only [s38_4, s38_5, s38_7, s38_9, okl_16, cll_16, o, f, e1, if_true, ↓reduceIte], A.pf hb _⟩
theorem i38_1 {X : MX} {h0 h : MH} {n b sz p1 p2 : Nat} {fs : List Value} {cs : List MC} (G : GB h0 n b 3 fs cs sz h) (hb : b < n) (hl : fs.length = 4) (hm : cs.length = 1) : ∃ h1 : MH, ev X 38 12 [.ref b, .ref p1, .ref p2] [] h = ev X 38 20 [.ref b, .ref p1, .ref p2] [] h1 ∧ GB h0 n b 3 (fs.set 3 (.ref (n + 1))) (cs ++ [iA 16 (fun _ => 0)]) (sz + 16) h1 := by
  have A := G.add hb (iA 16 (fun _ => 0)) 16
  have o := A.okF (k := 3) (by omega)
  have f := A.mcF
  have e1 : h.1 = n + 1 := by rw [G.1, hm]
  exact ⟨_, by simp only [s38_12, s38_13, s38_15, s38_17, okl_16, cll_16, o, f, e1, if_true, ↓reduceIte], A.pf hb _⟩
theorem i38_2 {X : MX} {h0 h : MH} {n b sz p1 p2 : Nat} {fs : List Value} {cs : List MC} (G : GB h0 n b 3 fs cs sz h) (hb : b < n) (hl : fs.length = 4) : ∃ h1 : MH, ev X 38 20 [.ref b, .ref p1, .ref p2] [] h = ev X 38 25 [.ref b, .ref p1, .ref p2] [] h1 ∧ GB h0 n b 3 (fs.set 0 (.ref p1)) cs sz h1 := by
  have o := G.okF (k := 0) (by omega)
  have f := G.mcF
  exact ⟨_, by simp only [s38_20, s38_21, s38_22, o, f, if_true, ↓reduceIte], G.pf hb _⟩
theorem i38_3 {X : MX} {h0 h : MH} {n b sz p1 p2 : Nat} {fs : List Value} {cs : List MC} (G : GB h0 n b 3 fs cs sz h) (hb : b < n) (hl : fs.length = 4) : ∃ h1 : MH, ev X 38 25 [.ref b, .ref p1, .ref p2] [] h = ev X 38 30 [.ref b, .ref p1, .ref p2] [] h1 ∧ GB h0 n b 3 (fs.set 1 (.ref p2)) cs sz h1 := by
  have o := G.okF (k := 1) (by omega)
  have f := G.mcF
  exact ⟨_, by simp only [s38_25, s38_26, s38_27, o, f, if_true, ↓reduceIte], G.pf hb _⟩
theorem n_Ladders {X : MX} {h : MH} {n b p1 p2 : Nat} (e0 : hg h b = ini 3) (en : h.1 = n) (hb : b < n) : ∃ h1 : MH, ev X 38 0 [.ref b, .ref p1, .ref p2] [] h = some (none, h1) ∧ GB h n b 3 [.ref p1, .ref p2, .ref (n + 0), .ref (n + 1)] ([iA 16 (fun _ => 0), iA 16 (fun _ => 0)] : List MC) 32 h1 := by
  rw [ini_3] at e0
  have G0 := GB.start e0 en
  obtain ⟨h1, e1, G1⟩ := i38_0 (X := X) (p1 := p1) (p2 := p2) G0 hb rfl rfl
  have G1 : GB h n b 3 [.null, .null, .ref (n + 0), .null] ([iA 16 (fun _ => 0)] : List MC) 16 h1 := G1
  obtain ⟨h2, e2, G2⟩ := i38_1 (X := X) (p1 := p1) (p2 := p2) G1 hb rfl rfl
  have G2 : GB h n b 3 [.null, .null, .ref (n + 0), .ref (n + 1)] ([iA 16 (fun _ => 0), iA 16 (fun _ => 0)] : List MC) 32 h2 := G2
  obtain ⟨h3, e3, G3⟩ := i38_2 (X := X) (p1 := p1) (p2 := p2) G2 hb rfl
  have G3 : GB h n b 3 [.ref p1, .null, .ref (n + 0), .ref (n + 1)] ([iA 16 (fun _ => 0), iA 16 (fun _ => 0)] : List MC) 32 h3 := G3
  obtain ⟨h4, e4, G4⟩ := i38_3 (X := X) (p1 := p1) (p2 := p2) G3 hb rfl
  have G4 : GB h n b 3 [.ref p1, .ref p2, .ref (n + 0), .ref (n + 1)] ([iA 16 (fun _ => 0), iA 16 (fun _ => 0)] : List MC) 32 h4 := G4
  have el : ev X 38 30 [.ref b, .ref p1, .ref p2] [] h4 = some (none, h4) := s38_30
  have es : ev X 38 0 [.ref b, .ref p1, .ref p2] [] h = ev X 38 4 [.ref b, .ref p1, .ref p2] [] h := by rw [s38_0, s38_1]
  exact ⟨h4, es.trans (e1.trans (e2.trans (e3.trans (e4.trans el)))), G4⟩
theorem i50_0 {X : MX} {h0 h : MH} {n b sz p1 : Nat} {fs : List Value} {cs : List MC} (G : GB h0 n b 5 fs cs sz h) (hb : b < n) (hl : fs.length = 8) : ∃ h1 : MH, ev X 50 4 [.ref b, .ref p1] [] h = ev X 50 9 [.ref b, .ref p1] [] h1 ∧ GB h0 n b 5 (fs.set 0 (.ref p1)) cs sz h1 := by
  have o := G.okF (k := 0) (by omega)
  have f := G.mcF
  exact ⟨_, by simp only [s50_4, s50_5, s50_6, o, f, if_true, ↓reduceIte], G.pf hb _⟩
theorem n_Phrases {X : MX} {h : MH} {n b p1 : Nat} (e0 : hg h b = ini 5) (en : h.1 = n) (hb : b < n) : ∃ h1 : MH, ev X 50 0 [.ref b, .ref p1] [] h = some (none, h1) ∧ GB h n b 5 [.ref p1, .int 0, .int 0, .int 0, .int 0, .int 0, .int 0, .int 0] ([] : List MC) 0 h1 := by
  rw [ini_5] at e0
  have G0 := GB.start e0 en
  obtain ⟨h1, e1, G1⟩ := i50_0 (X := X) (p1 := p1) G0 hb rfl
  have G1 : GB h n b 5 [.ref p1, .int 0, .int 0, .int 0, .int 0, .int 0, .int 0, .int 0] ([] : List MC) 0 h1 := G1
  have el : ev X 50 9 [.ref b, .ref p1] [] h1 = some (none, h1) := s50_9
  have es : ev X 50 0 [.ref b, .ref p1] [] h = ev X 50 4 [.ref b, .ref p1] [] h := by rw [s50_0, s50_1]
  exact ⟨h1, es.trans (e1.trans el), G1⟩
theorem i60_0 {X : MX} {h0 h : MH} {n b sz p1 p2 p3 : Nat} {fs : List Value} {cs : List MC} (G : GB h0 n b 6 fs cs sz h) (hb : b < n) (hl : fs.length = 8) (hm : cs.length = 0) : ∃ h1 : MH, ev X 60 4 [.ref b, .ref p1, .ref p2, .ref p3] [] h = ev X 60 19 [.ref b, .ref p1, .ref p2, .ref p3] [] h1 ∧ GB h0 n b 6 (fs.set 3 (.ref (n + 0))) (cs ++ [oB 10 [.int (nI 16), .int (nI 6), .ref (n + 0 + 1), .int (nI 0)], iA 96 (fun _ => 0)]) (sz + 100) h1 := by
  have A := G.tab hb (C := 16) (W := 6) (N := 96) rfl
  have o := A.okF (k := 3) (by omega)
  have f := A.mcF
  have e1 : h.1 = n + 0 := by rw [G.1, hm]
  have t : ev X 98 0 [.ref h.1, .int 16, .int 6] [] (hnw h (ini 10) (nfs 10)) = some (none, tnw h 16 6) := tb_new (X := X) (h := h) (C := 16) (W := 6) (by decide) (by decide) (by decide)
  have B := A.pf hb (fs.set 3 (.ref (n + 0)))
  rw [e1] at B
  refine ⟨_, ?_, B⟩
  rw [← e1]
  simp only [s60_4, s60_5, s60_8, s60_9, s60_11, s60_13, s60_16, t, o, f, Option.bind_some, kont_n, if_true, ↓reduceIte]
theorem i60_1 {X : MX} {h0 h : MH} {n b sz p1 p2 p3 : Nat} {fs : List Value} {cs : List MC} (G : GB h0 n b 6 fs cs sz h) (hb : b < n) (hl : fs.length = 8) (hm : cs.length = 2) : ∃ h1 : MH, ev X 60 19 [.ref b, .ref p1, .ref p2, .ref p3] [] h = ev X 60 27 [.ref b, .ref p1, .ref p2, .ref p3] [] h1 ∧ GB h0 n b 6 (fs.set 4 (.ref (n + 2))) (cs ++ [iA 7 (fun _ => 0)]) (sz + 7) h1 := by
  have A := G.add hb (iA 7 (fun _ => 0)) 7
  have o := A.okF (k := 4) (by omega)
  have f := A.mcF
  have e1 : h.1 = n + 2 := by rw [G.1, hm]
  exact ⟨_, by simp only [s60_19, s60_20, s60_22, s60_24, okl_7, cll_7, o, f, e1, if_true, ↓reduceIte], A.pf hb _⟩
theorem i60_2 {X : MX} {h0 h : MH} {n b sz p1 p2 p3 : Nat} {fs : List Value} {cs : List MC} (G : GB h0 n b 6 fs cs sz h) (hb : b < n) (hl : fs.length = 8) (hm : cs.length = 3) : ∃ h1 : MH, ev X 60 27 [.ref b, .ref p1, .ref p2, .ref p3] [] h = ev X 60 35 [.ref b, .ref p1, .ref p2, .ref p3] [] h1 ∧ GB h0 n b 6 (fs.set 5 (.ref (n + 3))) (cs ++ [iA 7 (fun _ => 0)]) (sz + 7) h1 := by
  have A := G.add hb (iA 7 (fun _ => 0)) 7
  have o := A.okF (k := 5) (by omega)
  have f := A.mcF
  have e1 : h.1 = n + 3 := by rw [G.1, hm]
  exact ⟨_, by simp only [s60_27, s60_28, s60_30, s60_32, okl_7, cll_7, o, f, e1, if_true, ↓reduceIte], A.pf hb _⟩
theorem i60_3 {X : MX} {h0 h : MH} {n b sz p1 p2 p3 : Nat} {fs : List Value} {cs : List MC} (G : GB h0 n b 6 fs cs sz h) (hb : b < n) (hl : fs.length = 8) (hm : cs.length = 4) : ∃ h1 : MH, ev X 60 35 [.ref b, .ref p1, .ref p2, .ref p3] [] h = ev X 60 43 [.ref b, .ref p1, .ref p2, .ref p3] [] h1 ∧ GB h0 n b 6 (fs.set 6 (.ref (n + 4))) (cs ++ [lA 7 (fun _ => 0)]) (sz + 7) h1 := by
  have A := G.add hb (lA 7 (fun _ => 0)) 7
  have o := A.okF (k := 6) (by omega)
  have f := A.mcF
  have e1 : h.1 = n + 4 := by rw [G.1, hm]
  exact ⟨_, by simp only [s60_35, s60_36, s60_38, s60_40, okl_7, cll_7, o, f, e1, if_true, ↓reduceIte], A.pf hb _⟩
theorem i60_4 {X : MX} {h0 h : MH} {n b sz p1 p2 p3 : Nat} {fs : List Value} {cs : List MC} (G : GB h0 n b 6 fs cs sz h) (hb : b < n) (hl : fs.length = 8) : ∃ h1 : MH, ev X 60 43 [.ref b, .ref p1, .ref p2, .ref p3] [] h = ev X 60 48 [.ref b, .ref p1, .ref p2, .ref p3] [] h1 ∧ GB h0 n b 6 (fs.set 0 (.ref p1)) cs sz h1 := by
  have o := G.okF (k := 0) (by omega)
  have f := G.mcF
  exact ⟨_, by simp only [s60_43, s60_44, s60_45, o, f, if_true, ↓reduceIte], G.pf hb _⟩
theorem i60_5 {X : MX} {h0 h : MH} {n b sz p1 p2 p3 : Nat} {fs : List Value} {cs : List MC} (G : GB h0 n b 6 fs cs sz h) (hb : b < n) (hl : fs.length = 8) : ∃ h1 : MH, ev X 60 48 [.ref b, .ref p1, .ref p2, .ref p3] [] h = ev X 60 53 [.ref b, .ref p1, .ref p2, .ref p3] [] h1 ∧ GB h0 n b 6 (fs.set 1 (.ref p2)) cs sz h1 := by
  have o := G.okF (k := 1) (by omega)
  have f := G.mcF
  exact ⟨_, by simp only [s60_48, s60_49, s60_50, o, f, if_true, ↓reduceIte], G.pf hb _⟩
theorem i60_6 {X : MX} {h0 h : MH} {n b sz p1 p2 p3 : Nat} {fs : List Value} {cs : List MC} (G : GB h0 n b 6 fs cs sz h) (hb : b < n) (hl : fs.length = 8) : ∃ h1 : MH, ev X 60 53 [.ref b, .ref p1, .ref p2, .ref p3] [] h = ev X 60 58 [.ref b, .ref p1, .ref p2, .ref p3] [] h1 ∧ GB h0 n b 6 (fs.set 2 (.ref p3)) cs sz h1 := by
  have o := G.okF (k := 2) (by omega)
  have f := G.mcF
  exact ⟨_, by simp only [s60_53, s60_54, s60_55, o, f, if_true, ↓reduceIte], G.pf hb _⟩
theorem n_Pools {X : MX} {h : MH} {n b p1 p2 p3 : Nat} (e0 : hg h b = ini 6) (en : h.1 = n) (hb : b < n) : ∃ h1 : MH, ev X 60 0 [.ref b, .ref p1, .ref p2, .ref p3] [] h = some (none, h1) ∧ GB h n b 6 [.ref p1, .ref p2, .ref p3, .ref (n + 0), .ref (n + 2), .ref (n + 3), .ref (n + 4), .int 0] ([oB 10 [.int (nI 16), .int (nI 6), .ref (n + 0 + 1), .int (nI 0)], iA 96 (fun _ => 0), iA 7 (fun _ => 0), iA 7 (fun _ => 0), lA 7 (fun _ => 0)] : List MC) 121 h1 := by
  rw [ini_6] at e0
  have G0 := GB.start e0 en
  obtain ⟨h1, e1, G1⟩ := i60_0 (X := X) (p1 := p1) (p2 := p2) (p3 := p3) G0 hb rfl rfl
  have G1 : GB h n b 6 [.null, .null, .null, .ref (n + 0), .null, .null, .null, .int 0] ([oB 10 [.int (nI 16), .int (nI 6), .ref (n + 0 + 1), .int (nI 0)], iA 96 (fun _ => 0)] : List MC) 100 h1 := G1
  obtain ⟨h2, e2, G2⟩ := i60_1 (X := X) (p1 := p1) (p2 := p2) (p3 := p3) G1 hb rfl rfl
  have G2 : GB h n b 6 [.null, .null, .null, .ref (n + 0), .ref (n + 2), .null, .null, .int 0] ([oB 10 [.int (nI 16), .int (nI 6), .ref (n + 0 + 1), .int (nI 0)], iA 96 (fun _ => 0), iA 7 (fun _ => 0)] : List MC) 107 h2 := G2
  obtain ⟨h3, e3, G3⟩ := i60_2 (X := X) (p1 := p1) (p2 := p2) (p3 := p3) G2 hb rfl rfl
  have G3 : GB h n b 6 [.null, .null, .null, .ref (n + 0), .ref (n + 2), .ref (n + 3), .null, .int 0] ([oB 10 [.int (nI 16), .int (nI 6), .ref (n + 0 + 1), .int (nI 0)], iA 96 (fun _ => 0), iA 7 (fun _ => 0), iA 7 (fun _ => 0)] : List MC) 114 h3 := G3
  obtain ⟨h4, e4, G4⟩ := i60_3 (X := X) (p1 := p1) (p2 := p2) (p3 := p3) G3 hb rfl rfl
  have G4 : GB h n b 6 [.null, .null, .null, .ref (n + 0), .ref (n + 2), .ref (n + 3), .ref (n + 4), .int 0] ([oB 10 [.int (nI 16), .int (nI 6), .ref (n + 0 + 1), .int (nI 0)], iA 96 (fun _ => 0), iA 7 (fun _ => 0), iA 7 (fun _ => 0), lA 7 (fun _ => 0)] : List MC) 121 h4 := G4
  obtain ⟨h5, e5, G5⟩ := i60_4 (X := X) (p1 := p1) (p2 := p2) (p3 := p3) G4 hb rfl
  have G5 : GB h n b 6 [.ref p1, .null, .null, .ref (n + 0), .ref (n + 2), .ref (n + 3), .ref (n + 4), .int 0] ([oB 10 [.int (nI 16), .int (nI 6), .ref (n + 0 + 1), .int (nI 0)], iA 96 (fun _ => 0), iA 7 (fun _ => 0), iA 7 (fun _ => 0), lA 7 (fun _ => 0)] : List MC) 121 h5 := G5
  obtain ⟨h6, e6, G6⟩ := i60_5 (X := X) (p1 := p1) (p2 := p2) (p3 := p3) G5 hb rfl
  have G6 : GB h n b 6 [.ref p1, .ref p2, .null, .ref (n + 0), .ref (n + 2), .ref (n + 3), .ref (n + 4), .int 0] ([oB 10 [.int (nI 16), .int (nI 6), .ref (n + 0 + 1), .int (nI 0)], iA 96 (fun _ => 0), iA 7 (fun _ => 0), iA 7 (fun _ => 0), lA 7 (fun _ => 0)] : List MC) 121 h6 := G6
  obtain ⟨h7, e7, G7⟩ := i60_6 (X := X) (p1 := p1) (p2 := p2) (p3 := p3) G6 hb rfl
  have G7 : GB h n b 6 [.ref p1, .ref p2, .ref p3, .ref (n + 0), .ref (n + 2), .ref (n + 3), .ref (n + 4), .int 0] ([oB 10 [.int (nI 16), .int (nI 6), .ref (n + 0 + 1), .int (nI 0)], iA 96 (fun _ => 0), iA 7 (fun _ => 0), iA 7 (fun _ => 0), lA 7 (fun _ => 0)] : List MC) 121 h7 := G7
  have el : ev X 60 58 [.ref b, .ref p1, .ref p2, .ref p3] [] h7 = some (none, h7) := s60_58
  have es : ev X 60 0 [.ref b, .ref p1, .ref p2, .ref p3] [] h = ev X 60 4 [.ref b, .ref p1, .ref p2, .ref p3] [] h := by rw [s60_0, s60_1]
  exact ⟨h7, es.trans (e1.trans (e2.trans (e3.trans (e4.trans (e5.trans (e6.trans (e7.trans el))))))), G7⟩
theorem i73_0 {X : MX} {h0 h : MH} {n b sz p1 : Nat} {fs : List Value} {cs : List MC} (G : GB h0 n b 7 fs cs sz h) (hb : b < n) (hl : fs.length = 2) (hm : cs.length = 0) : ∃ h1 : MH, ev X 73 4 [.ref b, .ref p1] [] h = ev X 73 12 [.ref b, .ref p1] [] h1 ∧ GB h0 n b 7 (fs.set 1 (.ref (n + 0))) (cs ++ [iA 10 (fun _ => 0)]) (sz + 10) h1 := by
  have A := G.add hb (iA 10 (fun _ => 0)) 10
  have o := A.okF (k := 1) (by omega)
  have f := A.mcF
  have e1 : h.1 = n + 0 := by rw [G.1, hm]
  exact ⟨_, by simp only [s73_4, s73_5, s73_7, s73_9, okl_10, cll_10, o, f, e1, if_true, ↓reduceIte], A.pf hb _⟩
theorem i73_1 {X : MX} {h0 h : MH} {n b sz p1 : Nat} {fs : List Value} {cs : List MC} (G : GB h0 n b 7 fs cs sz h) (hb : b < n) (hl : fs.length = 2) : ∃ h1 : MH, ev X 73 12 [.ref b, .ref p1] [] h = ev X 73 17 [.ref b, .ref p1] [] h1 ∧ GB h0 n b 7 (fs.set 0 (.ref p1)) cs sz h1 := by
  have o := G.okF (k := 0) (by omega)
  have f := G.mcF
  exact ⟨_, by simp only [s73_12, s73_13, s73_14, o, f, if_true, ↓reduceIte], G.pf hb _⟩
theorem n_Rankings {X : MX} {h : MH} {n b p1 : Nat} (e0 : hg h b = ini 7) (en : h.1 = n) (hb : b < n) : ∃ h1 : MH, ev X 73 0 [.ref b, .ref p1] [] h = some (none, h1) ∧ GB h n b 7 [.ref p1, .ref (n + 0)] ([iA 10 (fun _ => 0)] : List MC) 10 h1 := by
  rw [ini_7] at e0
  have G0 := GB.start e0 en
  obtain ⟨h1, e1, G1⟩ := i73_0 (X := X) (p1 := p1) G0 hb rfl rfl
  have G1 : GB h n b 7 [.null, .ref (n + 0)] ([iA 10 (fun _ => 0)] : List MC) 10 h1 := G1
  obtain ⟨h2, e2, G2⟩ := i73_1 (X := X) (p1 := p1) G1 hb rfl
  have G2 : GB h n b 7 [.ref p1, .ref (n + 0)] ([iA 10 (fun _ => 0)] : List MC) 10 h2 := G2
  have el : ev X 73 17 [.ref b, .ref p1] [] h2 = some (none, h2) := s73_17
  have es : ev X 73 0 [.ref b, .ref p1] [] h = ev X 73 4 [.ref b, .ref p1] [] h := by rw [s73_0, s73_1]
  exact ⟨h2, es.trans (e1.trans (e2.trans el)), G2⟩
theorem i77_0 {X : MX} {h0 h : MH} {n b sz p1 : Nat} {fs : List Value} {cs : List MC} (G : GB h0 n b 8 fs cs sz h) (hb : b < n) (hl : fs.length = 6) (hm : cs.length = 0) : ∃ h1 : MH, ev X 77 4 [.ref b, .ref p1] [] h = ev X 77 12 [.ref b, .ref p1] [] h1 ∧ GB h0 n b 8 (fs.set 1 (.ref (n + 0))) (cs ++ [iA 8 (fun _ => 0)]) (sz + 8) h1 := by
  have A := G.add hb (iA 8 (fun _ => 0)) 8
  have o := A.okF (k := 1) (by omega)
  have f := A.mcF
  have e1 : h.1 = n + 0 := by rw [G.1, hm]
  exact ⟨_, by simp only [s77_4, s77_5, s77_7, s77_9, okl_8, cll_8, o, f, e1, if_true, ↓reduceIte], A.pf hb _⟩
theorem i77_1 {X : MX} {h0 h : MH} {n b sz p1 : Nat} {fs : List Value} {cs : List MC} (G : GB h0 n b 8 fs cs sz h) (hb : b < n) (hl : fs.length = 6) (hm : cs.length = 1) : ∃ h1 : MH, ev X 77 12 [.ref b, .ref p1] [] h = ev X 77 20 [.ref b, .ref p1] [] h1 ∧ GB h0 n b 8 (fs.set 2 (.ref (n + 1))) (cs ++ [iA 8 (fun _ => 0)]) (sz + 8) h1 := by
  have A := G.add hb (iA 8 (fun _ => 0)) 8
  have o := A.okF (k := 2) (by omega)
  have f := A.mcF
  have e1 : h.1 = n + 1 := by rw [G.1, hm]
  exact ⟨_, by simp only [s77_12, s77_13, s77_15, s77_17, okl_8, cll_8, o, f, e1, if_true, ↓reduceIte], A.pf hb _⟩
theorem i77_2 {X : MX} {h0 h : MH} {n b sz p1 : Nat} {fs : List Value} {cs : List MC} (G : GB h0 n b 8 fs cs sz h) (hb : b < n) (hl : fs.length = 6) (hm : cs.length = 2) : ∃ h1 : MH, ev X 77 20 [.ref b, .ref p1] [] h = ev X 77 28 [.ref b, .ref p1] [] h1 ∧ GB h0 n b 8 (fs.set 3 (.ref (n + 2))) (cs ++ [iA 8 (fun _ => 0)]) (sz + 8) h1 := by
  have A := G.add hb (iA 8 (fun _ => 0)) 8
  have o := A.okF (k := 3) (by omega)
  have f := A.mcF
  have e1 : h.1 = n + 2 := by rw [G.1, hm]
  exact ⟨_, by simp only [s77_20, s77_21, s77_23, s77_25, okl_8, cll_8, o, f, e1, if_true, ↓reduceIte], A.pf hb _⟩
theorem i77_3 {X : MX} {h0 h : MH} {n b sz p1 : Nat} {fs : List Value} {cs : List MC} (G : GB h0 n b 8 fs cs sz h) (hb : b < n) (hl : fs.length = 6) (hm : cs.length = 3) : ∃ h1 : MH, ev X 77 28 [.ref b, .ref p1] [] h = ev X 77 37 [.ref b, .ref p1] [] h1 ∧ GB h0 n b 8 (fs.set 4 (.ref (n + 3))) (cs ++ [iA 256 (fun _ => 0)]) (sz + 256) h1 := by
  have A := G.add hb (iA 256 (fun _ => 0)) 256
  have o := A.okF (k := 4) (by omega)
  have f := A.mcF
  have e1 : h.1 = n + 3 := by rw [G.1, hm]
  exact ⟨_, by simp only [s77_28, s77_29, s77_32, s77_34, okl_256, cll_256, o, f, e1, if_true, ↓reduceIte], A.pf hb _⟩
theorem i77_4 {X : MX} {h0 h : MH} {n b sz p1 : Nat} {fs : List Value} {cs : List MC} (G : GB h0 n b 8 fs cs sz h) (hb : b < n) (hl : fs.length = 6) : ∃ h1 : MH, ev X 77 37 [.ref b, .ref p1] [] h = ev X 77 42 [.ref b, .ref p1] [] h1 ∧ GB h0 n b 8 (fs.set 0 (.ref p1)) cs sz h1 := by
  have o := G.okF (k := 0) (by omega)
  have f := G.mcF
  exact ⟨_, by simp only [s77_37, s77_38, s77_39, o, f, if_true, ↓reduceIte], G.pf hb _⟩
theorem n_Referees {X : MX} {h : MH} {n b p1 : Nat} (e0 : hg h b = ini 8) (en : h.1 = n) (hb : b < n) : ∃ h1 : MH, ev X 77 0 [.ref b, .ref p1] [] h = some (none, h1) ∧ GB h n b 8 [.ref p1, .ref (n + 0), .ref (n + 1), .ref (n + 2), .ref (n + 3), .int 0] ([iA 8 (fun _ => 0), iA 8 (fun _ => 0), iA 8 (fun _ => 0), iA 256 (fun _ => 0)] : List MC) 280 h1 := by
  rw [ini_8] at e0
  have G0 := GB.start e0 en
  obtain ⟨h1, e1, G1⟩ := i77_0 (X := X) (p1 := p1) G0 hb rfl rfl
  have G1 : GB h n b 8 [.null, .ref (n + 0), .null, .null, .null, .int 0] ([iA 8 (fun _ => 0)] : List MC) 8 h1 := G1
  obtain ⟨h2, e2, G2⟩ := i77_1 (X := X) (p1 := p1) G1 hb rfl rfl
  have G2 : GB h n b 8 [.null, .ref (n + 0), .ref (n + 1), .null, .null, .int 0] ([iA 8 (fun _ => 0), iA 8 (fun _ => 0)] : List MC) 16 h2 := G2
  obtain ⟨h3, e3, G3⟩ := i77_2 (X := X) (p1 := p1) G2 hb rfl rfl
  have G3 : GB h n b 8 [.null, .ref (n + 0), .ref (n + 1), .ref (n + 2), .null, .int 0] ([iA 8 (fun _ => 0), iA 8 (fun _ => 0), iA 8 (fun _ => 0)] : List MC) 24 h3 := G3
  obtain ⟨h4, e4, G4⟩ := i77_3 (X := X) (p1 := p1) G3 hb rfl rfl
  have G4 : GB h n b 8 [.null, .ref (n + 0), .ref (n + 1), .ref (n + 2), .ref (n + 3), .int 0] ([iA 8 (fun _ => 0), iA 8 (fun _ => 0), iA 8 (fun _ => 0), iA 256 (fun _ => 0)] : List MC) 280 h4 := G4
  obtain ⟨h5, e5, G5⟩ := i77_4 (X := X) (p1 := p1) G4 hb rfl
  have G5 : GB h n b 8 [.ref p1, .ref (n + 0), .ref (n + 1), .ref (n + 2), .ref (n + 3), .int 0] ([iA 8 (fun _ => 0), iA 8 (fun _ => 0), iA 8 (fun _ => 0), iA 256 (fun _ => 0)] : List MC) 280 h5 := G5
  have el : ev X 77 42 [.ref b, .ref p1] [] h5 = some (none, h5) := s77_42
  have es : ev X 77 0 [.ref b, .ref p1] [] h = ev X 77 4 [.ref b, .ref p1] [] h := by rw [s77_0, s77_1]
  exact ⟨h5, es.trans (e1.trans (e2.trans (e3.trans (e4.trans (e5.trans el))))), G5⟩
theorem i92_0 {X : MX} {h0 h : MH} {n b sz p1 : Nat} {fs : List Value} {cs : List MC} (G : GB h0 n b 9 fs cs sz h) (hb : b < n) (hl : fs.length = 2) (hm : cs.length = 0) : ∃ h1 : MH, ev X 92 4 [.ref b, .ref p1] [] h = ev X 92 12 [.ref b, .ref p1] [] h1 ∧ GB h0 n b 9 (fs.set 1 (.ref (n + 0))) (cs ++ [iA 18 (fun _ => 0)]) (sz + 18) h1 := by
  have A := G.add hb (iA 18 (fun _ => 0)) 18
  have o := A.okF (k := 1) (by omega)
  have f := A.mcF
  have e1 : h.1 = n + 0 := by rw [G.1, hm]
  exact ⟨_, by simp only [s92_4, s92_5, s92_7, s92_9, okl_18, cll_18, o, f, e1, if_true, ↓reduceIte], A.pf hb _⟩
theorem i92_1 {X : MX} {h0 h : MH} {n b sz p1 : Nat} {fs : List Value} {cs : List MC} (G : GB h0 n b 9 fs cs sz h) (hb : b < n) (hl : fs.length = 2) : ∃ h1 : MH, ev X 92 12 [.ref b, .ref p1] [] h = ev X 92 17 [.ref b, .ref p1] [] h1 ∧ GB h0 n b 9 (fs.set 0 (.ref p1)) cs sz h1 := by
  have o := G.okF (k := 0) (by omega)
  have f := G.mcF
  exact ⟨_, by simp only [s92_12, s92_13, s92_14, o, f, if_true, ↓reduceIte], G.pf hb _⟩
theorem n_Relays {X : MX} {h : MH} {n b p1 : Nat} (e0 : hg h b = ini 9) (en : h.1 = n) (hb : b < n) : ∃ h1 : MH, ev X 92 0 [.ref b, .ref p1] [] h = some (none, h1) ∧ GB h n b 9 [.ref p1, .ref (n + 0)] ([iA 18 (fun _ => 0)] : List MC) 18 h1 := by
  rw [ini_9] at e0
  have G0 := GB.start e0 en
  obtain ⟨h1, e1, G1⟩ := i92_0 (X := X) (p1 := p1) G0 hb rfl rfl
  have G1 : GB h n b 9 [.null, .ref (n + 0)] ([iA 18 (fun _ => 0)] : List MC) 18 h1 := G1
  obtain ⟨h2, e2, G2⟩ := i92_1 (X := X) (p1 := p1) G1 hb rfl
  have G2 : GB h n b 9 [.ref p1, .ref (n + 0)] ([iA 18 (fun _ => 0)] : List MC) 18 h2 := G2
  have el : ev X 92 17 [.ref b, .ref p1] [] h2 = some (none, h2) := s92_17
  have es : ev X 92 0 [.ref b, .ref p1] [] h = ev X 92 4 [.ref b, .ref p1] [] h := by rw [s92_0, s92_1]
  exact ⟨h2, es.trans (e1.trans (e2.trans el)), G2⟩
theorem i153_0 {X : MX} {h0 h : MH} {n b sz : Nat} {fs : List Value} {cs : List MC} (G : GB h0 n b 12 fs cs sz h) (hb : b < n) (hl : fs.length = 41) (hm : cs.length = 0) : ∃ h1 : MH, ev X 153 4 [.ref b] [] h = ev X 153 13 [.ref b] [] h1 ∧ GB h0 n b 12 (fs.set 0 (.ref (n + 0))) (cs ++ [iA 16450 (fun _ => 0)]) (sz + 16450) h1 := by
  have A := G.add hb (iA 16450 (fun _ => 0)) 16450
  have o := A.okF (k := 0) (by omega)
  have f := A.mcF
  have e1 : h.1 = n + 0 := by rw [G.1, hm]
  exact ⟨_, by simp only [s153_4, s153_5, s153_8, s153_10, okl_16450, cll_16450, o, f, e1, if_true, ↓reduceIte], A.pf hb _⟩
theorem i153_1 {X : MX} {h0 h : MH} {n b sz : Nat} {fs : List Value} {cs : List MC} (G : GB h0 n b 12 fs cs sz h) (hb : b < n) (hl : fs.length = 41) (hm : cs.length = 1) : ∃ h1 : MH, ev X 153 13 [.ref b] [] h = ev X 153 21 [.ref b] [] h1 ∧ GB h0 n b 12 (fs.set 1 (.ref (n + 1))) (cs ++ [iA 32900 (fun _ => 0)]) (sz + 32900) h1 := by
  have A := G.add hb (iA 32900 (fun _ => 0)) 32900
  have o := A.okF (k := 1) (by omega)
  have f := A.mcF
  have e1 : h.1 = n + 1 := by rw [G.1, hm]
  exact ⟨_, by simp only [s153_13, s153_14, s153_16, s153_18, okl_32900, cll_32900, o, f, e1, if_true, ↓reduceIte], A.pf hb _⟩
theorem i153_2 {X : MX} {h0 h : MH} {n b sz : Nat} {fs : List Value} {cs : List MC} (G : GB h0 n b 12 fs cs sz h) (hb : b < n) (hl : fs.length = 41) (hm : cs.length = 2) : ∃ h1 : MH, ev X 153 21 [.ref b] [] h = ev X 153 28 [.ref b] [] h1 ∧ GB h0 n b 12 (fs.set 2 (.ref (n + 2))) (cs ++ [zA 2 (fun _ => 0)]) (sz + 2) h1 := by
  have A := G.add hb (zA 2 (fun _ => 0)) 2
  have o := A.okF (k := 2) (by omega)
  have f := A.mcF
  have e1 : h.1 = n + 2 := by rw [G.1, hm]
  exact ⟨_, by simp only [s153_21, s153_22, s153_23, s153_25, okl_2, cll_2, o, f, e1, if_true, ↓reduceIte], A.pf hb _⟩
theorem i153_3 {X : MX} {h0 h : MH} {n b sz : Nat} {fs : List Value} {cs : List MC} (G : GB h0 n b 12 fs cs sz h) (hb : b < n) (hl : fs.length = 41) (hm : cs.length = 3) : ∃ h1 : MH, ev X 153 28 [.ref b] [] h = ev X 153 35 [.ref b] [] h1 ∧ GB h0 n b 12 (fs.set 3 (.ref (n + 3))) (cs ++ [iA 2 (fun _ => 0)]) (sz + 2) h1 := by
  have A := G.add hb (iA 2 (fun _ => 0)) 2
  have o := A.okF (k := 3) (by omega)
  have f := A.mcF
  have e1 : h.1 = n + 3 := by rw [G.1, hm]
  exact ⟨_, by simp only [s153_28, s153_29, s153_30, s153_32, okl_2, cll_2, o, f, e1, if_true, ↓reduceIte], A.pf hb _⟩
theorem i153_4 {X : MX} {h0 h : MH} {n b sz : Nat} {fs : List Value} {cs : List MC} (G : GB h0 n b 12 fs cs sz h) (hb : b < n) (hl : fs.length = 41) (hm : cs.length = 4) : ∃ h1 : MH, ev X 153 35 [.ref b] [] h = ev X 153 42 [.ref b] [] h1 ∧ GB h0 n b 12 (fs.set 4 (.ref (n + 4))) (cs ++ [iA 2 (fun _ => 0)]) (sz + 2) h1 := by
  have A := G.add hb (iA 2 (fun _ => 0)) 2
  have o := A.okF (k := 4) (by omega)
  have f := A.mcF
  have e1 : h.1 = n + 4 := by rw [G.1, hm]
  exact ⟨_, by simp only [s153_35, s153_36, s153_37, s153_39, okl_2, cll_2, o, f, e1, if_true, ↓reduceIte], A.pf hb _⟩
theorem i153_5 {X : MX} {h0 h : MH} {n b sz : Nat} {fs : List Value} {cs : List MC} (G : GB h0 n b 12 fs cs sz h) (hb : b < n) (hl : fs.length = 41) (hm : cs.length = 5) : ∃ h1 : MH, ev X 153 42 [.ref b] [] h = ev X 153 49 [.ref b] [] h1 ∧ GB h0 n b 12 (fs.set 5 (.ref (n + 5))) (cs ++ [iA 2 (fun _ => 0)]) (sz + 2) h1 := by
  have A := G.add hb (iA 2 (fun _ => 0)) 2
  have o := A.okF (k := 5) (by omega)
  have f := A.mcF
  have e1 : h.1 = n + 5 := by rw [G.1, hm]
  exact ⟨_, by simp only [s153_42, s153_43, s153_44, s153_46, okl_2, cll_2, o, f, e1, if_true, ↓reduceIte], A.pf hb _⟩
theorem i153_6 {X : MX} {h0 h : MH} {n b sz : Nat} {fs : List Value} {cs : List MC} (G : GB h0 n b 12 fs cs sz h) (hb : b < n) (hl : fs.length = 41) (hm : cs.length = 6) : ∃ h1 : MH, ev X 153 49 [.ref b] [] h = ev X 153 56 [.ref b] [] h1 ∧ GB h0 n b 12 (fs.set 6 (.ref (n + 6))) (cs ++ [iA 2 (fun _ => 0)]) (sz + 2) h1 := by
  have A := G.add hb (iA 2 (fun _ => 0)) 2
  have o := A.okF (k := 6) (by omega)
  have f := A.mcF
  have e1 : h.1 = n + 6 := by rw [G.1, hm]
  exact ⟨_, by simp only [s153_49, s153_50, s153_51, s153_53, okl_2, cll_2, o, f, e1, if_true, ↓reduceIte], A.pf hb _⟩
theorem i153_7 {X : MX} {h0 h : MH} {n b sz : Nat} {fs : List Value} {cs : List MC} (G : GB h0 n b 12 fs cs sz h) (hb : b < n) (hl : fs.length = 41) (hm : cs.length = 7) : ∃ h1 : MH, ev X 153 56 [.ref b] [] h = ev X 153 63 [.ref b] [] h1 ∧ GB h0 n b 12 (fs.set 7 (.ref (n + 7))) (cs ++ [iA 2 (fun _ => 0)]) (sz + 2) h1 := by
  have A := G.add hb (iA 2 (fun _ => 0)) 2
  have o := A.okF (k := 7) (by omega)
  have f := A.mcF
  have e1 : h.1 = n + 7 := by rw [G.1, hm]
  exact ⟨_, by simp only [s153_56, s153_57, s153_58, s153_60, okl_2, cll_2, o, f, e1, if_true, ↓reduceIte], A.pf hb _⟩
theorem i153_8 {X : MX} {h0 h : MH} {n b sz : Nat} {fs : List Value} {cs : List MC} (G : GB h0 n b 12 fs cs sz h) (hb : b < n) (hl : fs.length = 41) (hm : cs.length = 8) : ∃ h1 : MH, ev X 153 63 [.ref b] [] h = ev X 153 71 [.ref b] [] h1 ∧ GB h0 n b 12 (fs.set 10 (.ref (n + 8))) (cs ++ [iA 16 (fun _ => 0)]) (sz + 16) h1 := by
  have A := G.add hb (iA 16 (fun _ => 0)) 16
  have o := A.okF (k := 10) (by omega)
  have f := A.mcF
  have e1 : h.1 = n + 8 := by rw [G.1, hm]
  exact ⟨_, by simp only [s153_63, s153_64, s153_66, s153_68, okl_16, cll_16, o, f, e1, if_true, ↓reduceIte], A.pf hb _⟩
theorem i153_9 {X : MX} {h0 h : MH} {n b sz : Nat} {fs : List Value} {cs : List MC} (G : GB h0 n b 12 fs cs sz h) (hb : b < n) (hl : fs.length = 41) (hm : cs.length = 9) : ∃ h1 : MH, ev X 153 71 [.ref b] [] h = ev X 153 79 [.ref b] [] h1 ∧ GB h0 n b 12 (fs.set 11 (.ref (n + 9))) (cs ++ [iA 16 (fun _ => 0)]) (sz + 16) h1 := by
  have A := G.add hb (iA 16 (fun _ => 0)) 16
  have o := A.okF (k := 11) (by omega)
  have f := A.mcF
  have e1 : h.1 = n + 9 := by rw [G.1, hm]
  exact ⟨_, by simp only [s153_71, s153_72, s153_74, s153_76, okl_16, cll_16, o, f, e1, if_true, ↓reduceIte], A.pf hb _⟩
theorem i153_10 {X : MX} {h0 h : MH} {n b sz : Nat} {fs : List Value} {cs : List MC} (G : GB h0 n b 12 fs cs sz h) (hb : b < n) (hl : fs.length = 41) (hm : cs.length = 10) : ∃ h1 : MH, ev X 153 79 [.ref b] [] h = ev X 153 87 [.ref b] [] h1 ∧ GB h0 n b 12 (fs.set 12 (.ref (n + 10))) (cs ++ [iA 16 (fun _ => 0)]) (sz + 16) h1 := by
  have A := G.add hb (iA 16 (fun _ => 0)) 16
  have o := A.okF (k := 12) (by omega)
  have f := A.mcF
  have e1 : h.1 = n + 10 := by rw [G.1, hm]
  exact ⟨_, by simp only [s153_79, s153_80, s153_82, s153_84, okl_16, cll_16, o, f, e1, if_true, ↓reduceIte], A.pf hb _⟩
theorem i153_11 {X : MX} {h0 h : MH} {n b sz : Nat} {fs : List Value} {cs : List MC} (G : GB h0 n b 12 fs cs sz h) (hb : b < n) (hl : fs.length = 41) (hm : cs.length = 11) : ∃ h1 : MH, ev X 153 87 [.ref b] [] h = ev X 153 95 [.ref b] [] h1 ∧ GB h0 n b 12 (fs.set 13 (.ref (n + 11))) (cs ++ [iA 16 (fun _ => 0)]) (sz + 16) h1 := by
  have A := G.add hb (iA 16 (fun _ => 0)) 16
  have o := A.okF (k := 13) (by omega)
  have f := A.mcF
  have e1 : h.1 = n + 11 := by rw [G.1, hm]
  exact ⟨_, by simp only [s153_87, s153_88, s153_90, s153_92, okl_16, cll_16, o, f, e1, if_true, ↓reduceIte], A.pf hb _⟩
theorem i153_12 {X : MX} {h0 h : MH} {n b sz : Nat} {fs : List Value} {cs : List MC} (G : GB h0 n b 12 fs cs sz h) (hb : b < n) (hl : fs.length = 41) (hm : cs.length = 12) : ∃ h1 : MH, ev X 153 95 [.ref b] [] h = ev X 153 103 [.ref b] [] h1 ∧ GB h0 n b 12 (fs.set 14 (.ref (n + 12))) (cs ++ [iA 16 (fun _ => 0)]) (sz + 16) h1 := by
  have A := G.add hb (iA 16 (fun _ => 0)) 16
  have o := A.okF (k := 14) (by omega)
  have f := A.mcF
  have e1 : h.1 = n + 12 := by rw [G.1, hm]
  exact ⟨_, by simp only [s153_95, s153_96, s153_98, s153_100, okl_16, cll_16, o, f, e1, if_true, ↓reduceIte], A.pf hb _⟩
theorem i153_13 {X : MX} {h0 h : MH} {n b sz : Nat} {fs : List Value} {cs : List MC} (G : GB h0 n b 12 fs cs sz h) (hb : b < n) (hl : fs.length = 41) (hm : cs.length = 13) : ∃ h1 : MH, ev X 153 103 [.ref b] [] h = ev X 153 111 [.ref b] [] h1 ∧ GB h0 n b 12 (fs.set 15 (.ref (n + 13))) (cs ++ [iA 16 (fun _ => 0)]) (sz + 16) h1 := by
  have A := G.add hb (iA 16 (fun _ => 0)) 16
  have o := A.okF (k := 15) (by omega)
  have f := A.mcF
  have e1 : h.1 = n + 13 := by rw [G.1, hm]
  exact ⟨_, by simp only [s153_103, s153_104, s153_106, s153_108, okl_16, cll_16, o, f, e1, if_true, ↓reduceIte], A.pf hb _⟩
theorem i153_14 {X : MX} {h0 h : MH} {n b sz : Nat} {fs : List Value} {cs : List MC} (G : GB h0 n b 12 fs cs sz h) (hb : b < n) (hl : fs.length = 41) (hm : cs.length = 14) : ∃ h1 : MH, ev X 153 111 [.ref b] [] h = ev X 153 119 [.ref b] [] h1 ∧ GB h0 n b 12 (fs.set 17 (.ref (n + 14))) (cs ++ [iA 16 (fun _ => 0)]) (sz + 16) h1 := by
  have A := G.add hb (iA 16 (fun _ => 0)) 16
  have o := A.okF (k := 17) (by omega)
  have f := A.mcF
  have e1 : h.1 = n + 14 := by rw [G.1, hm]
  exact ⟨_, by simp only [s153_111, s153_112, s153_114, s153_116, okl_16, cll_16, o, f, e1, if_true, ↓reduceIte], A.pf hb _⟩
theorem i153_15 {X : MX} {h0 h : MH} {n b sz : Nat} {fs : List Value} {cs : List MC} (G : GB h0 n b 12 fs cs sz h) (hb : b < n) (hl : fs.length = 41) (hm : cs.length = 15) : ∃ h1 : MH, ev X 153 119 [.ref b] [] h = ev X 153 127 [.ref b] [] h1 ∧ GB h0 n b 12 (fs.set 18 (.ref (n + 15))) (cs ++ [iA 16 (fun _ => 0)]) (sz + 16) h1 := by
  have A := G.add hb (iA 16 (fun _ => 0)) 16
  have o := A.okF (k := 18) (by omega)
  have f := A.mcF
  have e1 : h.1 = n + 15 := by rw [G.1, hm]
  exact ⟨_, by simp only [s153_119, s153_120, s153_122, s153_124, okl_16, cll_16, o, f, e1, if_true, ↓reduceIte], A.pf hb _⟩
theorem i153_16 {X : MX} {h0 h : MH} {n b sz : Nat} {fs : List Value} {cs : List MC} (G : GB h0 n b 12 fs cs sz h) (hb : b < n) (hl : fs.length = 41) (hm : cs.length = 16) : ∃ h1 : MH, ev X 153 127 [.ref b] [] h = ev X 153 135 [.ref b] [] h1 ∧ GB h0 n b 12 (fs.set 20 (.ref (n + 16))) (cs ++ [iA 60 (fun _ => 0)]) (sz + 60) h1 := by
  have A := G.add hb (iA 60 (fun _ => 0)) 60
  have o := A.okF (k := 20) (by omega)
  have f := A.mcF
  have e1 : h.1 = n + 16 := by rw [G.1, hm]
  exact ⟨_, by simp only [s153_127, s153_128, s153_130, s153_132, okl_60, cll_60, o, f, e1, if_true, ↓reduceIte], A.pf hb _⟩
theorem i153_17 {X : MX} {h0 h : MH} {n b sz : Nat} {fs : List Value} {cs : List MC} (G : GB h0 n b 12 fs cs sz h) (hb : b < n) (hl : fs.length = 41) (hm : cs.length = 17) : ∃ h1 : MH, ev X 153 135 [.ref b] [] h = ev X 153 143 [.ref b] [] h1 ∧ GB h0 n b 12 (fs.set 21 (.ref (n + 17))) (cs ++ [iA 60 (fun _ => 0)]) (sz + 60) h1 := by
  have A := G.add hb (iA 60 (fun _ => 0)) 60
  have o := A.okF (k := 21) (by omega)
  have f := A.mcF
  have e1 : h.1 = n + 17 := by rw [G.1, hm]
  exact ⟨_, by simp only [s153_135, s153_136, s153_138, s153_140, okl_60, cll_60, o, f, e1, if_true, ↓reduceIte], A.pf hb _⟩
theorem i153_18 {X : MX} {h0 h : MH} {n b sz : Nat} {fs : List Value} {cs : List MC} (G : GB h0 n b 12 fs cs sz h) (hb : b < n) (hl : fs.length = 41) (hm : cs.length = 18) : ∃ h1 : MH, ev X 153 143 [.ref b] [] h = ev X 153 151 [.ref b] [] h1 ∧ GB h0 n b 12 (fs.set 23 (.ref (n + 18))) (cs ++ [iA 60 (fun _ => 0)]) (sz + 60) h1 := by
  have A := G.add hb (iA 60 (fun _ => 0)) 60
  have o := A.okF (k := 23) (by omega)
  have f := A.mcF
  have e1 : h.1 = n + 18 := by rw [G.1, hm]
  exact ⟨_, by simp only [s153_143, s153_144, s153_146, s153_148, okl_60, cll_60, o, f, e1, if_true, ↓reduceIte], A.pf hb _⟩
theorem i153_19 {X : MX} {h0 h : MH} {n b sz : Nat} {fs : List Value} {cs : List MC} (G : GB h0 n b 12 fs cs sz h) (hb : b < n) (hl : fs.length = 41) (hm : cs.length = 19) : ∃ h1 : MH, ev X 153 151 [.ref b] [] h = ev X 153 159 [.ref b] [] h1 ∧ GB h0 n b 12 (fs.set 24 (.ref (n + 19))) (cs ++ [lA 60 (fun _ => 0)]) (sz + 60) h1 := by
  have A := G.add hb (lA 60 (fun _ => 0)) 60
  have o := A.okF (k := 24) (by omega)
  have f := A.mcF
  have e1 : h.1 = n + 19 := by rw [G.1, hm]
  exact ⟨_, by simp only [s153_151, s153_152, s153_154, s153_156, okl_60, cll_60, o, f, e1, if_true, ↓reduceIte], A.pf hb _⟩
theorem i153_20 {X : MX} {h0 h : MH} {n b sz : Nat} {fs : List Value} {cs : List MC} (G : GB h0 n b 12 fs cs sz h) (hb : b < n) (hl : fs.length = 41) (hm : cs.length = 20) : ∃ h1 : MH, ev X 153 159 [.ref b] [] h = ev X 153 167 [.ref b] [] h1 ∧ GB h0 n b 12 (fs.set 25 (.ref (n + 20))) (cs ++ [lA 16 (fun _ => 0)]) (sz + 16) h1 := by
  have A := G.add hb (lA 16 (fun _ => 0)) 16
  have o := A.okF (k := 25) (by omega)
  have f := A.mcF
  have e1 : h.1 = n + 20 := by rw [G.1, hm]
  exact ⟨_, by simp only [s153_159, s153_160, s153_162, s153_164, okl_16, cll_16, o, f, e1, if_true, ↓reduceIte], A.pf hb _⟩
theorem i153_21 {X : MX} {h0 h : MH} {n b sz : Nat} {fs : List Value} {cs : List MC} (G : GB h0 n b 12 fs cs sz h) (hb : b < n) (hl : fs.length = 41) (hm : cs.length = 21) : ∃ h1 : MH, ev X 153 167 [.ref b] [] h = ev X 153 175 [.ref b] [] h1 ∧ GB h0 n b 12 (fs.set 27 (.ref (n + 21))) (cs ++ [iA 16 (fun _ => 0)]) (sz + 16) h1 := by
  have A := G.add hb (iA 16 (fun _ => 0)) 16
  have o := A.okF (k := 27) (by omega)
  have f := A.mcF
  have e1 : h.1 = n + 21 := by rw [G.1, hm]
  exact ⟨_, by simp only [s153_167, s153_168, s153_170, s153_172, okl_16, cll_16, o, f, e1, if_true, ↓reduceIte], A.pf hb _⟩
theorem i153_22 {X : MX} {h0 h : MH} {n b sz : Nat} {fs : List Value} {cs : List MC} (G : GB h0 n b 12 fs cs sz h) (hb : b < n) (hl : fs.length = 41) (hm : cs.length = 22) : ∃ h1 : MH, ev X 153 175 [.ref b] [] h = ev X 153 183 [.ref b] [] h1 ∧ GB h0 n b 12 (fs.set 28 (.ref (n + 22))) (cs ++ [iA 16 (fun _ => 0)]) (sz + 16) h1 := by
  have A := G.add hb (iA 16 (fun _ => 0)) 16
  have o := A.okF (k := 28) (by omega)
  have f := A.mcF
  have e1 : h.1 = n + 22 := by rw [G.1, hm]
  exact ⟨_, by simp only [s153_175, s153_176, s153_178, s153_180, okl_16, cll_16, o, f, e1, if_true, ↓reduceIte], A.pf hb _⟩
theorem i153_23 {X : MX} {h0 h : MH} {n b sz : Nat} {fs : List Value} {cs : List MC} (G : GB h0 n b 12 fs cs sz h) (hb : b < n) (hl : fs.length = 41) (hm : cs.length = 23) : ∃ h1 : MH, ev X 153 183 [.ref b] [] h = ev X 153 191 [.ref b] [] h1 ∧ GB h0 n b 12 (fs.set 29 (.ref (n + 23))) (cs ++ [iA 12 (fun _ => 0)]) (sz + 12) h1 := by
  have A := G.add hb (iA 12 (fun _ => 0)) 12
  have o := A.okF (k := 29) (by omega)
  have f := A.mcF
  have e1 : h.1 = n + 23 := by rw [G.1, hm]
  exact ⟨_, by simp only [s153_183, s153_184, s153_186, s153_188, okl_12, cll_12, o, f, e1, if_true, ↓reduceIte], A.pf hb _⟩
theorem i153_24 {X : MX} {h0 h : MH} {n b sz : Nat} {fs : List Value} {cs : List MC} (G : GB h0 n b 12 fs cs sz h) (hb : b < n) (hl : fs.length = 41) (hm : cs.length = 24) : ∃ h1 : MH, ev X 153 191 [.ref b] [] h = ev X 153 199 [.ref b] [] h1 ∧ GB h0 n b 12 (fs.set 30 (.ref (n + 24))) (cs ++ [iA 12 (fun _ => 0)]) (sz + 12) h1 := by
  have A := G.add hb (iA 12 (fun _ => 0)) 12
  have o := A.okF (k := 30) (by omega)
  have f := A.mcF
  have e1 : h.1 = n + 24 := by rw [G.1, hm]
  exact ⟨_, by simp only [s153_191, s153_192, s153_194, s153_196, okl_12, cll_12, o, f, e1, if_true, ↓reduceIte], A.pf hb _⟩
theorem i153_25 {X : MX} {h0 h : MH} {n b sz : Nat} {fs : List Value} {cs : List MC} (G : GB h0 n b 12 fs cs sz h) (hb : b < n) (hl : fs.length = 41) (hm : cs.length = 25) : ∃ h1 : MH, ev X 153 199 [.ref b] [] h = ev X 153 207 [.ref b] [] h1 ∧ GB h0 n b 12 (fs.set 33 (.ref (n + 25))) (cs ++ [iA 8 (fun _ => 0)]) (sz + 8) h1 := by
  have A := G.add hb (iA 8 (fun _ => 0)) 8
  have o := A.okF (k := 33) (by omega)
  have f := A.mcF
  have e1 : h.1 = n + 25 := by rw [G.1, hm]
  exact ⟨_, by simp only [s153_199, s153_200, s153_202, s153_204, okl_8, cll_8, o, f, e1, if_true, ↓reduceIte], A.pf hb _⟩
theorem i153_26 {X : MX} {h0 h : MH} {n b sz : Nat} {fs : List Value} {cs : List MC} (G : GB h0 n b 12 fs cs sz h) (hb : b < n) (hl : fs.length = 41) (hm : cs.length = 26) : ∃ h1 : MH, ev X 153 207 [.ref b] [] h = ev X 153 215 [.ref b] [] h1 ∧ GB h0 n b 12 (fs.set 34 (.ref (n + 26))) (cs ++ [iA 8 (fun _ => 0)]) (sz + 8) h1 := by
  have A := G.add hb (iA 8 (fun _ => 0)) 8
  have o := A.okF (k := 34) (by omega)
  have f := A.mcF
  have e1 : h.1 = n + 26 := by rw [G.1, hm]
  exact ⟨_, by simp only [s153_207, s153_208, s153_210, s153_212, okl_8, cll_8, o, f, e1, if_true, ↓reduceIte], A.pf hb _⟩
theorem i153_27 {X : MX} {h0 h : MH} {n b sz : Nat} {fs : List Value} {cs : List MC} (G : GB h0 n b 12 fs cs sz h) (hb : b < n) (hl : fs.length = 41) (hm : cs.length = 27) : ∃ h1 : MH, ev X 153 215 [.ref b] [] h = ev X 153 223 [.ref b] [] h1 ∧ GB h0 n b 12 (fs.set 35 (.ref (n + 27))) (cs ++ [iA 8 (fun _ => 0)]) (sz + 8) h1 := by
  have A := G.add hb (iA 8 (fun _ => 0)) 8
  have o := A.okF (k := 35) (by omega)
  have f := A.mcF
  have e1 : h.1 = n + 27 := by rw [G.1, hm]
  exact ⟨_, by simp only [s153_215, s153_216, s153_218, s153_220, okl_8, cll_8, o, f, e1, if_true, ↓reduceIte], A.pf hb _⟩
theorem i153_28 {X : MX} {h0 h : MH} {n b sz : Nat} {fs : List Value} {cs : List MC} (G : GB h0 n b 12 fs cs sz h) (hb : b < n) (hl : fs.length = 41) (hm : cs.length = 28) : ∃ h1 : MH, ev X 153 223 [.ref b] [] h = ev X 153 231 [.ref b] [] h1 ∧ GB h0 n b 12 (fs.set 37 (.ref (n + 28))) (cs ++ [iA 9 (fun _ => 0)]) (sz + 9) h1 := by
  have A := G.add hb (iA 9 (fun _ => 0)) 9
  have o := A.okF (k := 37) (by omega)
  have f := A.mcF
  have e1 : h.1 = n + 28 := by rw [G.1, hm]
  exact ⟨_, by simp only [s153_223, s153_224, s153_226, s153_228, okl_9, cll_9, o, f, e1, if_true, ↓reduceIte], A.pf hb _⟩
theorem i153_29 {X : MX} {h0 h : MH} {n b sz : Nat} {fs : List Value} {cs : List MC} (G : GB h0 n b 12 fs cs sz h) (hb : b < n) (hl : fs.length = 41) (hm : cs.length = 29) : ∃ h1 : MH, ev X 153 231 [.ref b] [] h = ev X 153 239 [.ref b] [] h1 ∧ GB h0 n b 12 (fs.set 38 (.ref (n + 29))) (cs ++ [iA 9 (fun _ => 0)]) (sz + 9) h1 := by
  have A := G.add hb (iA 9 (fun _ => 0)) 9
  have o := A.okF (k := 38) (by omega)
  have f := A.mcF
  have e1 : h.1 = n + 29 := by rw [G.1, hm]
  exact ⟨_, by simp only [s153_231, s153_232, s153_234, s153_236, okl_9, cll_9, o, f, e1, if_true, ↓reduceIte], A.pf hb _⟩
theorem i153_30 {X : MX} {h0 h : MH} {n b sz : Nat} {fs : List Value} {cs : List MC} (G : GB h0 n b 12 fs cs sz h) (hb : b < n) (hl : fs.length = 41) (hm : cs.length = 30) : ∃ h1 : MH, ev X 153 239 [.ref b] [] h = ev X 153 247 [.ref b] [] h1 ∧ GB h0 n b 12 (fs.set 39 (.ref (n + 30))) (cs ++ [lA 62 (fun _ => 0)]) (sz + 62) h1 := by
  have A := G.add hb (lA 62 (fun _ => 0)) 62
  have o := A.okF (k := 39) (by omega)
  have f := A.mcF
  have e1 : h.1 = n + 30 := by rw [G.1, hm]
  exact ⟨_, by simp only [s153_239, s153_240, s153_242, s153_244, okl_62, cll_62, o, f, e1, if_true, ↓reduceIte], A.pf hb _⟩
theorem i153_31 {X : MX} {h0 h : MH} {n b sz : Nat} {fs : List Value} {cs : List MC} (G : GB h0 n b 12 fs cs sz h) (hb : b < n) (hl : fs.length = 41) (hm : cs.length = 31) : ∃ h1 : MH, ev X 153 247 [.ref b] [] h = ev X 153 255 [.ref b] [] h1 ∧ GB h0 n b 12 (fs.set 40 (.ref (n + 31))) (cs ++ [iA 10 (fun _ => 0)]) (sz + 10) h1 := by
  have A := G.add hb (iA 10 (fun _ => 0)) 10
  have o := A.okF (k := 40) (by omega)
  have f := A.mcF
  have e1 : h.1 = n + 31 := by rw [G.1, hm]
  exact ⟨_, by simp only [s153_247, s153_248, s153_250, s153_252, okl_10, cll_10, o, f, e1, if_true, ↓reduceIte], A.pf hb _⟩
theorem n_Model {X : MX} {h : MH} {n b : Nat} (e0 : hg h b = ini 12) (en : h.1 = n) (hb : b < n) : ∃ h1 : MH, ev X 153 0 [.ref b] [] h = ev X 153 255 [.ref b] [] h1 ∧ GB h n b 12 [.ref (n + 0), .ref (n + 1), .ref (n + 2), .ref (n + 3), .ref (n + 4), .ref (n + 5), .ref (n + 6), .ref (n + 7), .int 0, .int 0, .ref (n + 8), .ref (n + 9), .ref (n + 10), .ref (n + 11), .ref (n + 12), .ref (n + 13), .int 0, .ref (n + 14), .ref (n + 15), .int 0, .ref (n + 16), .ref (n + 17), .int 0, .ref (n + 18), .ref (n + 19), .ref (n + 20), .int 0, .ref (n + 21), .ref (n + 22), .ref (n + 23), .ref (n + 24), .int 0, .int 0, .ref (n + 25), .ref (n + 26), .ref (n + 27), .int 0, .ref (n + 28), .ref (n + 29), .ref (n + 30), .ref (n + 31)] ([iA 16450 (fun _ => 0), iA 32900 (fun _ => 0), zA 2 (fun _ => 0), iA 2 (fun _ => 0), iA 2 (fun _ => 0), iA 2 (fun _ => 0), iA 2 (fun _ => 0), iA 2 (fun _ => 0), iA 16 (fun _ => 0), iA 16 (fun _ => 0), iA 16 (fun _ => 0), iA 16 (fun _ => 0), iA 16 (fun _ => 0), iA 16 (fun _ => 0), iA 16 (fun _ => 0), iA 16 (fun _ => 0), iA 60 (fun _ => 0), iA 60 (fun _ => 0), iA 60 (fun _ => 0), lA 60 (fun _ => 0), lA 16 (fun _ => 0), iA 16 (fun _ => 0), iA 16 (fun _ => 0), iA 12 (fun _ => 0), iA 12 (fun _ => 0), iA 8 (fun _ => 0), iA 8 (fun _ => 0), iA 8 (fun _ => 0), iA 9 (fun _ => 0), iA 9 (fun _ => 0), lA 62 (fun _ => 0), iA 10 (fun _ => 0)] : List MC) 49916 h1 := by
  rw [ini_12] at e0
  have G0 := GB.start e0 en
  obtain ⟨h1, e1, G1⟩ := i153_0 (X := X) G0 hb rfl rfl
  have G1 : GB h n b 12 [.ref (n + 0), .null, .null, .null, .null, .null, .null, .null, .int 0, .int 0, .null, .null, .null, .null, .null, .null, .int 0, .null, .null, .int 0, .null, .null, .int 0, .null, .null, .null, .int 0, .null, .null, .null, .null, .int 0, .int 0, .null, .null, .null, .int 0, .null, .null, .null, .null] ([iA 16450 (fun _ => 0)] : List MC) 16450 h1 := G1
  obtain ⟨h2, e2, G2⟩ := i153_1 (X := X) G1 hb rfl rfl
  have G2 : GB h n b 12 [.ref (n + 0), .ref (n + 1), .null, .null, .null, .null, .null, .null, .int 0, .int 0, .null, .null, .null, .null, .null, .null, .int 0, .null, .null, .int 0, .null, .null, .int 0, .null, .null, .null, .int 0, .null, .null, .null, .null, .int 0, .int 0, .null, .null, .null, .int 0, .null, .null, .null, .null] ([iA 16450 (fun _ => 0), iA 32900 (fun _ => 0)] : List MC) 49350 h2 := G2
  obtain ⟨h3, e3, G3⟩ := i153_2 (X := X) G2 hb rfl rfl
  have G3 : GB h n b 12 [.ref (n + 0), .ref (n + 1), .ref (n + 2), .null, .null, .null, .null, .null, .int 0, .int 0, .null, .null, .null, .null, .null, .null, .int 0, .null, .null, .int 0, .null, .null, .int 0, .null, .null, .null, .int 0, .null, .null, .null, .null, .int 0, .int 0, .null, .null, .null, .int 0, .null, .null, .null, .null] ([iA 16450 (fun _ => 0), iA 32900 (fun _ => 0), zA 2 (fun _ => 0)] : List MC) 49352 h3 := G3
  obtain ⟨h4, e4, G4⟩ := i153_3 (X := X) G3 hb rfl rfl
  have G4 : GB h n b 12 [.ref (n + 0), .ref (n + 1), .ref (n + 2), .ref (n + 3), .null, .null, .null, .null, .int 0, .int 0, .null, .null, .null, .null, .null, .null, .int 0, .null, .null, .int 0, .null, .null, .int 0, .null, .null, .null, .int 0, .null, .null, .null, .null, .int 0, .int 0, .null, .null, .null, .int 0, .null, .null, .null, .null] ([iA 16450 (fun _ => 0), iA 32900 (fun _ => 0), zA 2 (fun _ => 0), iA 2 (fun _ => 0)] : List MC) 49354 h4 := G4
  obtain ⟨h5, e5, G5⟩ := i153_4 (X := X) G4 hb rfl rfl
  have G5 : GB h n b 12 [.ref (n + 0), .ref (n + 1), .ref (n + 2), .ref (n + 3), .ref (n + 4), .null, .null, .null, .int 0, .int 0, .null, .null, .null, .null, .null, .null, .int 0, .null, .null, .int 0, .null, .null, .int 0, .null, .null, .null, .int 0, .null, .null, .null, .null, .int 0, .int 0, .null, .null, .null, .int 0, .null, .null, .null, .null] ([iA 16450 (fun _ => 0), iA 32900 (fun _ => 0), zA 2 (fun _ => 0), iA 2 (fun _ => 0), iA 2 (fun _ => 0)] : List MC) 49356 h5 := G5
  obtain ⟨h6, e6, G6⟩ := i153_5 (X := X) G5 hb rfl rfl
  have G6 : GB h n b 12 [.ref (n + 0), .ref (n + 1), .ref (n + 2), .ref (n + 3), .ref (n + 4), .ref (n + 5), .null, .null, .int 0, .int 0, .null, .null, .null, .null, .null, .null, .int 0, .null, .null, .int 0, .null, .null, .int 0, .null, .null, .null, .int 0, .null, .null, .null, .null, .int 0, .int 0, .null, .null, .null, .int 0, .null, .null, .null, .null] ([iA 16450 (fun _ => 0), iA 32900 (fun _ => 0), zA 2 (fun _ => 0), iA 2 (fun _ => 0), iA 2 (fun _ => 0), iA 2 (fun _ => 0)] : List MC) 49358 h6 := G6
  obtain ⟨h7, e7, G7⟩ := i153_6 (X := X) G6 hb rfl rfl
  have G7 : GB h n b 12 [.ref (n + 0), .ref (n + 1), .ref (n + 2), .ref (n + 3), .ref (n + 4), .ref (n + 5), .ref (n + 6), .null, .int 0, .int 0, .null, .null, .null, .null, .null, .null, .int 0, .null, .null, .int 0, .null, .null, .int 0, .null, .null, .null, .int 0, .null, .null, .null, .null, .int 0, .int 0, .null, .null, .null, .int 0, .null, .null, .null, .null] ([iA 16450 (fun _ => 0), iA 32900 (fun _ => 0), zA 2 (fun _ => 0), iA 2 (fun _ => 0), iA 2 (fun _ => 0), iA 2 (fun _ => 0), iA 2 (fun _ => 0)] : List MC) 49360 h7 := G7
  obtain ⟨h8, e8, G8⟩ := i153_7 (X := X) G7 hb rfl rfl
  have G8 : GB h n b 12 [.ref (n + 0), .ref (n + 1), .ref (n + 2), .ref (n + 3), .ref (n + 4), .ref (n + 5), .ref (n + 6), .ref (n + 7), .int 0, .int 0, .null, .null, .null, .null, .null, .null, .int 0, .null, .null, .int 0, .null, .null, .int 0, .null, .null, .null, .int 0, .null, .null, .null, .null, .int 0, .int 0, .null, .null, .null, .int 0, .null, .null, .null, .null] ([iA 16450 (fun _ => 0), iA 32900 (fun _ => 0), zA 2 (fun _ => 0), iA 2 (fun _ => 0), iA 2 (fun _ => 0), iA 2 (fun _ => 0), iA 2 (fun _ => 0), iA 2 (fun _ => 0)] : List MC) 49362 h8 := G8
  obtain ⟨h9, e9, G9⟩ := i153_8 (X := X) G8 hb rfl rfl
  have G9 : GB h n b 12 [.ref (n + 0), .ref (n + 1), .ref (n + 2), .ref (n + 3), .ref (n + 4), .ref (n + 5), .ref (n + 6), .ref (n + 7), .int 0, .int 0, .ref (n + 8), .null, .null, .null, .null, .null, .int 0, .null, .null, .int 0, .null, .null, .int 0, .null, .null, .null, .int 0, .null, .null, .null, .null, .int 0, .int 0, .null, .null, .null, .int 0, .null, .null, .null, .null] ([iA 16450 (fun _ => 0), iA 32900 (fun _ => 0), zA 2 (fun _ => 0), iA 2 (fun _ => 0), iA 2 (fun _ => 0), iA 2 (fun _ => 0), iA 2 (fun _ => 0), iA 2 (fun _ => 0), iA 16 (fun _ => 0)] : List MC) 49378 h9 := G9
  obtain ⟨h10, e10, G10⟩ := i153_9 (X := X) G9 hb rfl rfl
  have G10 : GB h n b 12 [.ref (n + 0), .ref (n + 1), .ref (n + 2), .ref (n + 3), .ref (n + 4), .ref (n + 5), .ref (n + 6), .ref (n + 7), .int 0, .int 0, .ref (n + 8), .ref (n + 9), .null, .null, .null, .null, .int 0, .null, .null, .int 0, .null, .null, .int 0, .null, .null, .null, .int 0, .null, .null, .null, .null, .int 0, .int 0, .null, .null, .null, .int 0, .null, .null, .null, .null] ([iA 16450 (fun _ => 0), iA 32900 (fun _ => 0), zA 2 (fun _ => 0), iA 2 (fun _ => 0), iA 2 (fun _ => 0), iA 2 (fun _ => 0), iA 2 (fun _ => 0), iA 2 (fun _ => 0), iA 16 (fun _ => 0), iA 16 (fun _ => 0)] : List MC) 49394 h10 := G10
  obtain ⟨h11, e11, G11⟩ := i153_10 (X := X) G10 hb rfl rfl
  have G11 : GB h n b 12 [.ref (n + 0), .ref (n + 1), .ref (n + 2), .ref (n + 3), .ref (n + 4), .ref (n + 5), .ref (n + 6), .ref (n + 7), .int 0, .int 0, .ref (n + 8), .ref (n + 9), .ref (n + 10), .null, .null, .null, .int 0, .null, .null, .int 0, .null, .null, .int 0, .null, .null, .null, .int 0, .null, .null, .null, .null, .int 0, .int 0, .null, .null, .null, .int 0, .null, .null, .null, .null] ([iA 16450 (fun _ => 0), iA 32900 (fun _ => 0), zA 2 (fun _ => 0), iA 2 (fun _ => 0), iA 2 (fun _ => 0), iA 2 (fun _ => 0), iA 2 (fun _ => 0), iA 2 (fun _ => 0), iA 16 (fun _ => 0), iA 16 (fun _ => 0), iA 16 (fun _ => 0)] : List MC) 49410 h11 := G11
  obtain ⟨h12, e12, G12⟩ := i153_11 (X := X) G11 hb rfl rfl
  have G12 : GB h n b 12 [.ref (n + 0), .ref (n + 1), .ref (n + 2), .ref (n + 3), .ref (n + 4), .ref (n + 5), .ref (n + 6), .ref (n + 7), .int 0, .int 0, .ref (n + 8), .ref (n + 9), .ref (n + 10), .ref (n + 11), .null, .null, .int 0, .null, .null, .int 0, .null, .null, .int 0, .null, .null, .null, .int 0, .null, .null, .null, .null, .int 0, .int 0, .null, .null, .null, .int 0, .null, .null, .null, .null] ([iA 16450 (fun _ => 0), iA 32900 (fun _ => 0), zA 2 (fun _ => 0), iA 2 (fun _ => 0), iA 2 (fun _ => 0), iA 2 (fun _ => 0), iA 2 (fun _ => 0), iA 2 (fun _ => 0), iA 16 (fun _ => 0), iA 16 (fun _ => 0), iA 16 (fun _ => 0), iA 16 (fun _ => 0)] : List MC) 49426 h12 := G12
  obtain ⟨h13, e13, G13⟩ := i153_12 (X := X) G12 hb rfl rfl
  have G13 : GB h n b 12 [.ref (n + 0), .ref (n + 1), .ref (n + 2), .ref (n + 3), .ref (n + 4), .ref (n + 5), .ref (n + 6), .ref (n + 7), .int 0, .int 0, .ref (n + 8), .ref (n + 9), .ref (n + 10), .ref (n + 11), .ref (n + 12), .null, .int 0, .null, .null, .int 0, .null, .null, .int 0, .null, .null, .null, .int 0, .null, .null, .null, .null, .int 0, .int 0, .null, .null, .null, .int 0, .null, .null, .null, .null] ([iA 16450 (fun _ => 0), iA 32900 (fun _ => 0), zA 2 (fun _ => 0), iA 2 (fun _ => 0), iA 2 (fun _ => 0), iA 2 (fun _ => 0), iA 2 (fun _ => 0), iA 2 (fun _ => 0), iA 16 (fun _ => 0), iA 16 (fun _ => 0), iA 16 (fun _ => 0), iA 16 (fun _ => 0), iA 16 (fun _ => 0)] : List MC) 49442 h13 := G13
  obtain ⟨h14, e14, G14⟩ := i153_13 (X := X) G13 hb rfl rfl
  have G14 : GB h n b 12 [.ref (n + 0), .ref (n + 1), .ref (n + 2), .ref (n + 3), .ref (n + 4), .ref (n + 5), .ref (n + 6), .ref (n + 7), .int 0, .int 0, .ref (n + 8), .ref (n + 9), .ref (n + 10), .ref (n + 11), .ref (n + 12), .ref (n + 13), .int 0, .null, .null, .int 0, .null, .null, .int 0, .null, .null, .null, .int 0, .null, .null, .null, .null, .int 0, .int 0, .null, .null, .null, .int 0, .null, .null, .null, .null] ([iA 16450 (fun _ => 0), iA 32900 (fun _ => 0), zA 2 (fun _ => 0), iA 2 (fun _ => 0), iA 2 (fun _ => 0), iA 2 (fun _ => 0), iA 2 (fun _ => 0), iA 2 (fun _ => 0), iA 16 (fun _ => 0), iA 16 (fun _ => 0), iA 16 (fun _ => 0), iA 16 (fun _ => 0), iA 16 (fun _ => 0), iA 16 (fun _ => 0)] : List MC) 49458 h14 := G14
  obtain ⟨h15, e15, G15⟩ := i153_14 (X := X) G14 hb rfl rfl
  have G15 : GB h n b 12 [.ref (n + 0), .ref (n + 1), .ref (n + 2), .ref (n + 3), .ref (n + 4), .ref (n + 5), .ref (n + 6), .ref (n + 7), .int 0, .int 0, .ref (n + 8), .ref (n + 9), .ref (n + 10), .ref (n + 11), .ref (n + 12), .ref (n + 13), .int 0, .ref (n + 14), .null, .int 0, .null, .null, .int 0, .null, .null, .null, .int 0, .null, .null, .null, .null, .int 0, .int 0, .null, .null, .null, .int 0, .null, .null, .null, .null] ([iA 16450 (fun _ => 0), iA 32900 (fun _ => 0), zA 2 (fun _ => 0), iA 2 (fun _ => 0), iA 2 (fun _ => 0), iA 2 (fun _ => 0), iA 2 (fun _ => 0), iA 2 (fun _ => 0), iA 16 (fun _ => 0), iA 16 (fun _ => 0), iA 16 (fun _ => 0), iA 16 (fun _ => 0), iA 16 (fun _ => 0), iA 16 (fun _ => 0), iA 16 (fun _ => 0)] : List MC) 49474 h15 := G15
  obtain ⟨h16, e16, G16⟩ := i153_15 (X := X) G15 hb rfl rfl
  have G16 : GB h n b 12 [.ref (n + 0), .ref (n + 1), .ref (n + 2), .ref (n + 3), .ref (n + 4), .ref (n + 5), .ref (n + 6), .ref (n + 7), .int 0, .int 0, .ref (n + 8), .ref (n + 9), .ref (n + 10), .ref (n + 11), .ref (n + 12), .ref (n + 13), .int 0, .ref (n + 14), .ref (n + 15), .int 0, .null, .null, .int 0, .null, .null, .null, .int 0, .null, .null, .null, .null, .int 0, .int 0, .null, .null, .null, .int 0, .null, .null, .null, .null] ([iA 16450 (fun _ => 0), iA 32900 (fun _ => 0), zA 2 (fun _ => 0), iA 2 (fun _ => 0), iA 2 (fun _ => 0), iA 2 (fun _ => 0), iA 2 (fun _ => 0), iA 2 (fun _ => 0), iA 16 (fun _ => 0), iA 16 (fun _ => 0), iA 16 (fun _ => 0), iA 16 (fun _ => 0), iA 16 (fun _ => 0), iA 16 (fun _ => 0), iA 16 (fun _ => 0), iA 16 (fun _ => 0)] : List MC) 49490 h16 := G16
  obtain ⟨h17, e17, G17⟩ := i153_16 (X := X) G16 hb rfl rfl
  have G17 : GB h n b 12 [.ref (n + 0), .ref (n + 1), .ref (n + 2), .ref (n + 3), .ref (n + 4), .ref (n + 5), .ref (n + 6), .ref (n + 7), .int 0, .int 0, .ref (n + 8), .ref (n + 9), .ref (n + 10), .ref (n + 11), .ref (n + 12), .ref (n + 13), .int 0, .ref (n + 14), .ref (n + 15), .int 0, .ref (n + 16), .null, .int 0, .null, .null, .null, .int 0, .null, .null, .null, .null, .int 0, .int 0, .null, .null, .null, .int 0, .null, .null, .null, .null] ([iA 16450 (fun _ => 0), iA 32900 (fun _ => 0), zA 2 (fun _ => 0), iA 2 (fun _ => 0), iA 2 (fun _ => 0), iA 2 (fun _ => 0), iA 2 (fun _ => 0), iA 2 (fun _ => 0), iA 16 (fun _ => 0), iA 16 (fun _ => 0), iA 16 (fun _ => 0), iA 16 (fun _ => 0), iA 16 (fun _ => 0), iA 16 (fun _ => 0), iA 16 (fun _ => 0), iA 16 (fun _ => 0), iA 60 (fun _ => 0)] : List MC) 49550 h17 := G17
  obtain ⟨h18, e18, G18⟩ := i153_17 (X := X) G17 hb rfl rfl
  have G18 : GB h n b 12 [.ref (n + 0), .ref (n + 1), .ref (n + 2), .ref (n + 3), .ref (n + 4), .ref (n + 5), .ref (n + 6), .ref (n + 7), .int 0, .int 0, .ref (n + 8), .ref (n + 9), .ref (n + 10), .ref (n + 11), .ref (n + 12), .ref (n + 13), .int 0, .ref (n + 14), .ref (n + 15), .int 0, .ref (n + 16), .ref (n + 17), .int 0, .null, .null, .null, .int 0, .null, .null, .null, .null, .int 0, .int 0, .null, .null, .null, .int 0, .null, .null, .null, .null] ([iA 16450 (fun _ => 0), iA 32900 (fun _ => 0), zA 2 (fun _ => 0), iA 2 (fun _ => 0), iA 2 (fun _ => 0), iA 2 (fun _ => 0), iA 2 (fun _ => 0), iA 2 (fun _ => 0), iA 16 (fun _ => 0), iA 16 (fun _ => 0), iA 16 (fun _ => 0), iA 16 (fun _ => 0), iA 16 (fun _ => 0), iA 16 (fun _ => 0), iA 16 (fun _ => 0), iA 16 (fun _ => 0), iA 60 (fun _ => 0), iA 60 (fun _ => 0)] : List MC) 49610 h18 := G18
  obtain ⟨h19, e19, G19⟩ := i153_18 (X := X) G18 hb rfl rfl
  have G19 : GB h n b 12 [.ref (n + 0), .ref (n + 1), .ref (n + 2), .ref (n + 3), .ref (n + 4), .ref (n + 5), .ref (n + 6), .ref (n + 7), .int 0, .int 0, .ref (n + 8), .ref (n + 9), .ref (n + 10), .ref (n + 11), .ref (n + 12), .ref (n + 13), .int 0, .ref (n + 14), .ref (n + 15), .int 0, .ref (n + 16), .ref (n + 17), .int 0, .ref (n + 18), .null, .null, .int 0, .null, .null, .null, .null, .int 0, .int 0, .null, .null, .null, .int 0, .null, .null, .null, .null] ([iA 16450 (fun _ => 0), iA 32900 (fun _ => 0), zA 2 (fun _ => 0), iA 2 (fun _ => 0), iA 2 (fun _ => 0), iA 2 (fun _ => 0), iA 2 (fun _ => 0), iA 2 (fun _ => 0), iA 16 (fun _ => 0), iA 16 (fun _ => 0), iA 16 (fun _ => 0), iA 16 (fun _ => 0), iA 16 (fun _ => 0), iA 16 (fun _ => 0), iA 16 (fun _ => 0), iA 16 (fun _ => 0), iA 60 (fun _ => 0), iA 60 (fun _ => 0), iA 60 (fun _ => 0)] : List MC) 49670 h19 := G19
  obtain ⟨h20, e20, G20⟩ := i153_19 (X := X) G19 hb rfl rfl
  have G20 : GB h n b 12 [.ref (n + 0), .ref (n + 1), .ref (n + 2), .ref (n + 3), .ref (n + 4), .ref (n + 5), .ref (n + 6), .ref (n + 7), .int 0, .int 0, .ref (n + 8), .ref (n + 9), .ref (n + 10), .ref (n + 11), .ref (n + 12), .ref (n + 13), .int 0, .ref (n + 14), .ref (n + 15), .int 0, .ref (n + 16), .ref (n + 17), .int 0, .ref (n + 18), .ref (n + 19), .null, .int 0, .null, .null, .null, .null, .int 0, .int 0, .null, .null, .null, .int 0, .null, .null, .null, .null] ([iA 16450 (fun _ => 0), iA 32900 (fun _ => 0), zA 2 (fun _ => 0), iA 2 (fun _ => 0), iA 2 (fun _ => 0), iA 2 (fun _ => 0), iA 2 (fun _ => 0), iA 2 (fun _ => 0), iA 16 (fun _ => 0), iA 16 (fun _ => 0), iA 16 (fun _ => 0), iA 16 (fun _ => 0), iA 16 (fun _ => 0), iA 16 (fun _ => 0), iA 16 (fun _ => 0), iA 16 (fun _ => 0), iA 60 (fun _ => 0), iA 60 (fun _ => 0), iA 60 (fun _ => 0), lA 60 (fun _ => 0)] : List MC) 49730 h20 := G20
  obtain ⟨h21, e21, G21⟩ := i153_20 (X := X) G20 hb rfl rfl
  have G21 : GB h n b 12 [.ref (n + 0), .ref (n + 1), .ref (n + 2), .ref (n + 3), .ref (n + 4), .ref (n + 5), .ref (n + 6), .ref (n + 7), .int 0, .int 0, .ref (n + 8), .ref (n + 9), .ref (n + 10), .ref (n + 11), .ref (n + 12), .ref (n + 13), .int 0, .ref (n + 14), .ref (n + 15), .int 0, .ref (n + 16), .ref (n + 17), .int 0, .ref (n + 18), .ref (n + 19), .ref (n + 20), .int 0, .null, .null, .null, .null, .int 0, .int 0, .null, .null, .null, .int 0, .null, .null, .null, .null] ([iA 16450 (fun _ => 0), iA 32900 (fun _ => 0), zA 2 (fun _ => 0), iA 2 (fun _ => 0), iA 2 (fun _ => 0), iA 2 (fun _ => 0), iA 2 (fun _ => 0), iA 2 (fun _ => 0), iA 16 (fun _ => 0), iA 16 (fun _ => 0), iA 16 (fun _ => 0), iA 16 (fun _ => 0), iA 16 (fun _ => 0), iA 16 (fun _ => 0), iA 16 (fun _ => 0), iA 16 (fun _ => 0), iA 60 (fun _ => 0), iA 60 (fun _ => 0), iA 60 (fun _ => 0), lA 60 (fun _ => 0), lA 16 (fun _ => 0)] : List MC) 49746 h21 := G21
  obtain ⟨h22, e22, G22⟩ := i153_21 (X := X) G21 hb rfl rfl
  have G22 : GB h n b 12 [.ref (n + 0), .ref (n + 1), .ref (n + 2), .ref (n + 3), .ref (n + 4), .ref (n + 5), .ref (n + 6), .ref (n + 7), .int 0, .int 0, .ref (n + 8), .ref (n + 9), .ref (n + 10), .ref (n + 11), .ref (n + 12), .ref (n + 13), .int 0, .ref (n + 14), .ref (n + 15), .int 0, .ref (n + 16), .ref (n + 17), .int 0, .ref (n + 18), .ref (n + 19), .ref (n + 20), .int 0, .ref (n + 21), .null, .null, .null, .int 0, .int 0, .null, .null, .null, .int 0, .null, .null, .null, .null] ([iA 16450 (fun _ => 0), iA 32900 (fun _ => 0), zA 2 (fun _ => 0), iA 2 (fun _ => 0), iA 2 (fun _ => 0), iA 2 (fun _ => 0), iA 2 (fun _ => 0), iA 2 (fun _ => 0), iA 16 (fun _ => 0), iA 16 (fun _ => 0), iA 16 (fun _ => 0), iA 16 (fun _ => 0), iA 16 (fun _ => 0), iA 16 (fun _ => 0), iA 16 (fun _ => 0), iA 16 (fun _ => 0), iA 60 (fun _ => 0), iA 60 (fun _ => 0), iA 60 (fun _ => 0), lA 60 (fun _ => 0), lA 16 (fun _ => 0), iA 16 (fun _ => 0)] : List MC) 49762 h22 := G22
  obtain ⟨h23, e23, G23⟩ := i153_22 (X := X) G22 hb rfl rfl
  have G23 : GB h n b 12 [.ref (n + 0), .ref (n + 1), .ref (n + 2), .ref (n + 3), .ref (n + 4), .ref (n + 5), .ref (n + 6), .ref (n + 7), .int 0, .int 0, .ref (n + 8), .ref (n + 9), .ref (n + 10), .ref (n + 11), .ref (n + 12), .ref (n + 13), .int 0, .ref (n + 14), .ref (n + 15), .int 0, .ref (n + 16), .ref (n + 17), .int 0, .ref (n + 18), .ref (n + 19), .ref (n + 20), .int 0, .ref (n + 21), .ref (n + 22), .null, .null, .int 0, .int 0, .null, .null, .null, .int 0, .null, .null, .null, .null] ([iA 16450 (fun _ => 0), iA 32900 (fun _ => 0), zA 2 (fun _ => 0), iA 2 (fun _ => 0), iA 2 (fun _ => 0), iA 2 (fun _ => 0), iA 2 (fun _ => 0), iA 2 (fun _ => 0), iA 16 (fun _ => 0), iA 16 (fun _ => 0), iA 16 (fun _ => 0), iA 16 (fun _ => 0), iA 16 (fun _ => 0), iA 16 (fun _ => 0), iA 16 (fun _ => 0), iA 16 (fun _ => 0), iA 60 (fun _ => 0), iA 60 (fun _ => 0), iA 60 (fun _ => 0), lA 60 (fun _ => 0), lA 16 (fun _ => 0), iA 16 (fun _ => 0), iA 16 (fun _ => 0)] : List MC) 49778 h23 := G23
  obtain ⟨h24, e24, G24⟩ := i153_23 (X := X) G23 hb rfl rfl
  have G24 : GB h n b 12 [.ref (n + 0), .ref (n + 1), .ref (n + 2), .ref (n + 3), .ref (n + 4), .ref (n + 5), .ref (n + 6), .ref (n + 7), .int 0, .int 0, .ref (n + 8), .ref (n + 9), .ref (n + 10), .ref (n + 11), .ref (n + 12), .ref (n + 13), .int 0, .ref (n + 14), .ref (n + 15), .int 0, .ref (n + 16), .ref (n + 17), .int 0, .ref (n + 18), .ref (n + 19), .ref (n + 20), .int 0, .ref (n + 21), .ref (n + 22), .ref (n + 23), .null, .int 0, .int 0, .null, .null, .null, .int 0, .null, .null, .null, .null] ([iA 16450 (fun _ => 0), iA 32900 (fun _ => 0), zA 2 (fun _ => 0), iA 2 (fun _ => 0), iA 2 (fun _ => 0), iA 2 (fun _ => 0), iA 2 (fun _ => 0), iA 2 (fun _ => 0), iA 16 (fun _ => 0), iA 16 (fun _ => 0), iA 16 (fun _ => 0), iA 16 (fun _ => 0), iA 16 (fun _ => 0), iA 16 (fun _ => 0), iA 16 (fun _ => 0), iA 16 (fun _ => 0), iA 60 (fun _ => 0), iA 60 (fun _ => 0), iA 60 (fun _ => 0), lA 60 (fun _ => 0), lA 16 (fun _ => 0), iA 16 (fun _ => 0), iA 16 (fun _ => 0), iA 12 (fun _ => 0)] : List MC) 49790 h24 := G24
  obtain ⟨h25, e25, G25⟩ := i153_24 (X := X) G24 hb rfl rfl
  have G25 : GB h n b 12 [.ref (n + 0), .ref (n + 1), .ref (n + 2), .ref (n + 3), .ref (n + 4), .ref (n + 5), .ref (n + 6), .ref (n + 7), .int 0, .int 0, .ref (n + 8), .ref (n + 9), .ref (n + 10), .ref (n + 11), .ref (n + 12), .ref (n + 13), .int 0, .ref (n + 14), .ref (n + 15), .int 0, .ref (n + 16), .ref (n + 17), .int 0, .ref (n + 18), .ref (n + 19), .ref (n + 20), .int 0, .ref (n + 21), .ref (n + 22), .ref (n + 23), .ref (n + 24), .int 0, .int 0, .null, .null, .null, .int 0, .null, .null, .null, .null] ([iA 16450 (fun _ => 0), iA 32900 (fun _ => 0), zA 2 (fun _ => 0), iA 2 (fun _ => 0), iA 2 (fun _ => 0), iA 2 (fun _ => 0), iA 2 (fun _ => 0), iA 2 (fun _ => 0), iA 16 (fun _ => 0), iA 16 (fun _ => 0), iA 16 (fun _ => 0), iA 16 (fun _ => 0), iA 16 (fun _ => 0), iA 16 (fun _ => 0), iA 16 (fun _ => 0), iA 16 (fun _ => 0), iA 60 (fun _ => 0), iA 60 (fun _ => 0), iA 60 (fun _ => 0), lA 60 (fun _ => 0), lA 16 (fun _ => 0), iA 16 (fun _ => 0), iA 16 (fun _ => 0), iA 12 (fun _ => 0), iA 12 (fun _ => 0)] : List MC) 49802 h25 := G25
  obtain ⟨h26, e26, G26⟩ := i153_25 (X := X) G25 hb rfl rfl
  have G26 : GB h n b 12 [.ref (n + 0), .ref (n + 1), .ref (n + 2), .ref (n + 3), .ref (n + 4), .ref (n + 5), .ref (n + 6), .ref (n + 7), .int 0, .int 0, .ref (n + 8), .ref (n + 9), .ref (n + 10), .ref (n + 11), .ref (n + 12), .ref (n + 13), .int 0, .ref (n + 14), .ref (n + 15), .int 0, .ref (n + 16), .ref (n + 17), .int 0, .ref (n + 18), .ref (n + 19), .ref (n + 20), .int 0, .ref (n + 21), .ref (n + 22), .ref (n + 23), .ref (n + 24), .int 0, .int 0, .ref (n + 25), .null, .null, .int 0, .null, .null, .null, .null] ([iA 16450 (fun _ => 0), iA 32900 (fun _ => 0), zA 2 (fun _ => 0), iA 2 (fun _ => 0), iA 2 (fun _ => 0), iA 2 (fun _ => 0), iA 2 (fun _ => 0), iA 2 (fun _ => 0), iA 16 (fun _ => 0), iA 16 (fun _ => 0), iA 16 (fun _ => 0), iA 16 (fun _ => 0), iA 16 (fun _ => 0), iA 16 (fun _ => 0), iA 16 (fun _ => 0), iA 16 (fun _ => 0), iA 60 (fun _ => 0), iA 60 (fun _ => 0), iA 60 (fun _ => 0), lA 60 (fun _ => 0), lA 16 (fun _ => 0), iA 16 (fun _ => 0), iA 16 (fun _ => 0), iA 12 (fun _ => 0), iA 12 (fun _ => 0), iA 8 (fun _ => 0)] : List MC) 49810 h26 := G26
  obtain ⟨h27, e27, G27⟩ := i153_26 (X := X) G26 hb rfl rfl
  have G27 : GB h n b 12 [.ref (n + 0), .ref (n + 1), .ref (n + 2), .ref (n + 3), .ref (n + 4), .ref (n + 5), .ref (n + 6), .ref (n + 7), .int 0, .int 0, .ref (n + 8), .ref (n + 9), .ref (n + 10), .ref (n + 11), .ref (n + 12), .ref (n + 13), .int 0, .ref (n + 14), .ref (n + 15), .int 0, .ref (n + 16), .ref (n + 17), .int 0, .ref (n + 18), .ref (n + 19), .ref (n + 20), .int 0, .ref (n + 21), .ref (n + 22), .ref (n + 23), .ref (n + 24), .int 0, .int 0, .ref (n + 25), .ref (n + 26), .null, .int 0, .null, .null, .null, .null] ([iA 16450 (fun _ => 0), iA 32900 (fun _ => 0), zA 2 (fun _ => 0), iA 2 (fun _ => 0), iA 2 (fun _ => 0), iA 2 (fun _ => 0), iA 2 (fun _ => 0), iA 2 (fun _ => 0), iA 16 (fun _ => 0), iA 16 (fun _ => 0), iA 16 (fun _ => 0), iA 16 (fun _ => 0), iA 16 (fun _ => 0), iA 16 (fun _ => 0), iA 16 (fun _ => 0), iA 16 (fun _ => 0), iA 60 (fun _ => 0), iA 60 (fun _ => 0), iA 60 (fun _ => 0), lA 60 (fun _ => 0), lA 16 (fun _ => 0), iA 16 (fun _ => 0), iA 16 (fun _ => 0), iA 12 (fun _ => 0), iA 12 (fun _ => 0), iA 8 (fun _ => 0), iA 8 (fun _ => 0)] : List MC) 49818 h27 := G27
  obtain ⟨h28, e28, G28⟩ := i153_27 (X := X) G27 hb rfl rfl
  have G28 : GB h n b 12 [.ref (n + 0), .ref (n + 1), .ref (n + 2), .ref (n + 3), .ref (n + 4), .ref (n + 5), .ref (n + 6), .ref (n + 7), .int 0, .int 0, .ref (n + 8), .ref (n + 9), .ref (n + 10), .ref (n + 11), .ref (n + 12), .ref (n + 13), .int 0, .ref (n + 14), .ref (n + 15), .int 0, .ref (n + 16), .ref (n + 17), .int 0, .ref (n + 18), .ref (n + 19), .ref (n + 20), .int 0, .ref (n + 21), .ref (n + 22), .ref (n + 23), .ref (n + 24), .int 0, .int 0, .ref (n + 25), .ref (n + 26), .ref (n + 27), .int 0, .null, .null, .null, .null] ([iA 16450 (fun _ => 0), iA 32900 (fun _ => 0), zA 2 (fun _ => 0), iA 2 (fun _ => 0), iA 2 (fun _ => 0), iA 2 (fun _ => 0), iA 2 (fun _ => 0), iA 2 (fun _ => 0), iA 16 (fun _ => 0), iA 16 (fun _ => 0), iA 16 (fun _ => 0), iA 16 (fun _ => 0), iA 16 (fun _ => 0), iA 16 (fun _ => 0), iA 16 (fun _ => 0), iA 16 (fun _ => 0), iA 60 (fun _ => 0), iA 60 (fun _ => 0), iA 60 (fun _ => 0), lA 60 (fun _ => 0), lA 16 (fun _ => 0), iA 16 (fun _ => 0), iA 16 (fun _ => 0), iA 12 (fun _ => 0), iA 12 (fun _ => 0), iA 8 (fun _ => 0), iA 8 (fun _ => 0), iA 8 (fun _ => 0)] : List MC) 49826 h28 := G28
  obtain ⟨h29, e29, G29⟩ := i153_28 (X := X) G28 hb rfl rfl
  have G29 : GB h n b 12 [.ref (n + 0), .ref (n + 1), .ref (n + 2), .ref (n + 3), .ref (n + 4), .ref (n + 5), .ref (n + 6), .ref (n + 7), .int 0, .int 0, .ref (n + 8), .ref (n + 9), .ref (n + 10), .ref (n + 11), .ref (n + 12), .ref (n + 13), .int 0, .ref (n + 14), .ref (n + 15), .int 0, .ref (n + 16), .ref (n + 17), .int 0, .ref (n + 18), .ref (n + 19), .ref (n + 20), .int 0, .ref (n + 21), .ref (n + 22), .ref (n + 23), .ref (n + 24), .int 0, .int 0, .ref (n + 25), .ref (n + 26), .ref (n + 27), .int 0, .ref (n + 28), .null, .null, .null] ([iA 16450 (fun _ => 0), iA 32900 (fun _ => 0), zA 2 (fun _ => 0), iA 2 (fun _ => 0), iA 2 (fun _ => 0), iA 2 (fun _ => 0), iA 2 (fun _ => 0), iA 2 (fun _ => 0), iA 16 (fun _ => 0), iA 16 (fun _ => 0), iA 16 (fun _ => 0), iA 16 (fun _ => 0), iA 16 (fun _ => 0), iA 16 (fun _ => 0), iA 16 (fun _ => 0), iA 16 (fun _ => 0), iA 60 (fun _ => 0), iA 60 (fun _ => 0), iA 60 (fun _ => 0), lA 60 (fun _ => 0), lA 16 (fun _ => 0), iA 16 (fun _ => 0), iA 16 (fun _ => 0), iA 12 (fun _ => 0), iA 12 (fun _ => 0), iA 8 (fun _ => 0), iA 8 (fun _ => 0), iA 8 (fun _ => 0), iA 9 (fun _ => 0)] : List MC) 49835 h29 := G29
  obtain ⟨h30, e30, G30⟩ := i153_29 (X := X) G29 hb rfl rfl
  have G30 : GB h n b 12 [.ref (n + 0), .ref (n + 1), .ref (n + 2), .ref (n + 3), .ref (n + 4), .ref (n + 5), .ref (n + 6), .ref (n + 7), .int 0, .int 0, .ref (n + 8), .ref (n + 9), .ref (n + 10), .ref (n + 11), .ref (n + 12), .ref (n + 13), .int 0, .ref (n + 14), .ref (n + 15), .int 0, .ref (n + 16), .ref (n + 17), .int 0, .ref (n + 18), .ref (n + 19), .ref (n + 20), .int 0, .ref (n + 21), .ref (n + 22), .ref (n + 23), .ref (n + 24), .int 0, .int 0, .ref (n + 25), .ref (n + 26), .ref (n + 27), .int 0, .ref (n + 28), .ref (n + 29), .null, .null] ([iA 16450 (fun _ => 0), iA 32900 (fun _ => 0), zA 2 (fun _ => 0), iA 2 (fun _ => 0), iA 2 (fun _ => 0), iA 2 (fun _ => 0), iA 2 (fun _ => 0), iA 2 (fun _ => 0), iA 16 (fun _ => 0), iA 16 (fun _ => 0), iA 16 (fun _ => 0), iA 16 (fun _ => 0), iA 16 (fun _ => 0), iA 16 (fun _ => 0), iA 16 (fun _ => 0), iA 16 (fun _ => 0), iA 60 (fun _ => 0), iA 60 (fun _ => 0), iA 60 (fun _ => 0), lA 60 (fun _ => 0), lA 16 (fun _ => 0), iA 16 (fun _ => 0), iA 16 (fun _ => 0), iA 12 (fun _ => 0), iA 12 (fun _ => 0), iA 8 (fun _ => 0), iA 8 (fun _ => 0), iA 8 (fun _ => 0), iA 9 (fun _ => 0), iA 9 (fun _ => 0)] : List MC) 49844 h30 := G30
  obtain ⟨h31, e31, G31⟩ := i153_30 (X := X) G30 hb rfl rfl
  have G31 : GB h n b 12 [.ref (n + 0), .ref (n + 1), .ref (n + 2), .ref (n + 3), .ref (n + 4), .ref (n + 5), .ref (n + 6), .ref (n + 7), .int 0, .int 0, .ref (n + 8), .ref (n + 9), .ref (n + 10), .ref (n + 11), .ref (n + 12), .ref (n + 13), .int 0, .ref (n + 14), .ref (n + 15), .int 0, .ref (n + 16), .ref (n + 17), .int 0, .ref (n + 18), .ref (n + 19), .ref (n + 20), .int 0, .ref (n + 21), .ref (n + 22), .ref (n + 23), .ref (n + 24), .int 0, .int 0, .ref (n + 25), .ref (n + 26), .ref (n + 27), .int 0, .ref (n + 28), .ref (n + 29), .ref (n + 30), .null] ([iA 16450 (fun _ => 0), iA 32900 (fun _ => 0), zA 2 (fun _ => 0), iA 2 (fun _ => 0), iA 2 (fun _ => 0), iA 2 (fun _ => 0), iA 2 (fun _ => 0), iA 2 (fun _ => 0), iA 16 (fun _ => 0), iA 16 (fun _ => 0), iA 16 (fun _ => 0), iA 16 (fun _ => 0), iA 16 (fun _ => 0), iA 16 (fun _ => 0), iA 16 (fun _ => 0), iA 16 (fun _ => 0), iA 60 (fun _ => 0), iA 60 (fun _ => 0), iA 60 (fun _ => 0), lA 60 (fun _ => 0), lA 16 (fun _ => 0), iA 16 (fun _ => 0), iA 16 (fun _ => 0), iA 12 (fun _ => 0), iA 12 (fun _ => 0), iA 8 (fun _ => 0), iA 8 (fun _ => 0), iA 8 (fun _ => 0), iA 9 (fun _ => 0), iA 9 (fun _ => 0), lA 62 (fun _ => 0)] : List MC) 49906 h31 := G31
  obtain ⟨h32, e32, G32⟩ := i153_31 (X := X) G31 hb rfl rfl
  have G32 : GB h n b 12 [.ref (n + 0), .ref (n + 1), .ref (n + 2), .ref (n + 3), .ref (n + 4), .ref (n + 5), .ref (n + 6), .ref (n + 7), .int 0, .int 0, .ref (n + 8), .ref (n + 9), .ref (n + 10), .ref (n + 11), .ref (n + 12), .ref (n + 13), .int 0, .ref (n + 14), .ref (n + 15), .int 0, .ref (n + 16), .ref (n + 17), .int 0, .ref (n + 18), .ref (n + 19), .ref (n + 20), .int 0, .ref (n + 21), .ref (n + 22), .ref (n + 23), .ref (n + 24), .int 0, .int 0, .ref (n + 25), .ref (n + 26), .ref (n + 27), .int 0, .ref (n + 28), .ref (n + 29), .ref (n + 30), .ref (n + 31)] ([iA 16450 (fun _ => 0), iA 32900 (fun _ => 0), zA 2 (fun _ => 0), iA 2 (fun _ => 0), iA 2 (fun _ => 0), iA 2 (fun _ => 0), iA 2 (fun _ => 0), iA 2 (fun _ => 0), iA 16 (fun _ => 0), iA 16 (fun _ => 0), iA 16 (fun _ => 0), iA 16 (fun _ => 0), iA 16 (fun _ => 0), iA 16 (fun _ => 0), iA 16 (fun _ => 0), iA 16 (fun _ => 0), iA 60 (fun _ => 0), iA 60 (fun _ => 0), iA 60 (fun _ => 0), lA 60 (fun _ => 0), lA 16 (fun _ => 0), iA 16 (fun _ => 0), iA 16 (fun _ => 0), iA 12 (fun _ => 0), iA 12 (fun _ => 0), iA 8 (fun _ => 0), iA 8 (fun _ => 0), iA 8 (fun _ => 0), iA 9 (fun _ => 0), iA 9 (fun _ => 0), lA 62 (fun _ => 0), iA 10 (fun _ => 0)] : List MC) 49916 h32 := G32
  have el : ev X 153 255 [.ref b] [] h32 = ev X 153 255 [.ref b] [] h32 := rfl
  have es : ev X 153 0 [.ref b] [] h = ev X 153 4 [.ref b] [] h := by rw [s153_0, s153_1]
  exact ⟨h32, es.trans (e1.trans (e2.trans (e3.trans (e4.trans (e5.trans (e6.trans (e7.trans (e8.trans (e9.trans (e10.trans (e11.trans (e12.trans (e13.trans (e14.trans (e15.trans (e16.trans (e17.trans (e18.trans (e19.trans (e20.trans (e21.trans (e22.trans (e23.trans (e24.trans (e25.trans (e26.trans (e27.trans (e28.trans (e29.trans (e30.trans (e31.trans (e32.trans el)))))))))))))))))))))))))))))))), G32⟩

-- POOLS: the reference tallies
def g16 (A q : Nat → Int32) (c : Nat) : Nat → Int32 := fun f => if f < 16 then q (f * 6 + c) else A f
theorem g16_at {A q : Nat → Int32} {c f : Nat} (h : f < 16) : g16 A q c f = q (f * 6 + c) := if_pos h
theorem g16_up {A q : Nat → Int32} {c f : Nat} {x : Int32} (h : f < 16) : upd (g16 A q c) f x = g16 A (upd q (f * 6 + c) x) c := by
  funext j
  unfold g16
  by_cases e : j = f
  · rw [e, upd_eq, if_pos h, upd_eq]
  · rw [upd_ne e]
    split
    · rw [upd_ne (by omega)]
    · rfl
theorem g16_n {A q : Nat → Int32} {c d f : Nat} {x : Int32} (hc : c < 6) (hd : d < 6) (hn : c ≠ d) : g16 A (upd q (f * 6 + c) x) d = g16 A q d := by
  funext j
  unfold g16
  split
  · rw [upd_ne (by omega)]
  · rfl
/-- heap h with the reference's sums q -/
def PH (h : MH) (q : Nat → Int32) : MH := hp (hp (hp (hp (hp (hp h 64 (iA 16 (g16 (mcI (hg h 64)) q 1))) 65 (iA 16 (g16 (mcI (hg h 65)) q 0))) 66 (iA 16 (g16 (mcI (hg h 66)) q 2))) 67 (iA 16 (g16 (mcI (hg h 67)) q 3))) 68 (iA 16 (g16 (mcI (hg h 68)) q 4))) 69 (iA 16 (g16 (mcI (hg h 69)) q 5))
section PHS
variable {X : MX} {h : MH} {q : Nat → Int32} {f : Nat} {x : Int32}
theorem PH_off {k : Nat} (h1 : k < 64 ∨ 69 < k) : hg (PH h q) k = hg h k := by
  unfold PH
  rw [hg_hp, if_neg (by omega), hg_hp, if_neg (by omega), hg_hp, if_neg (by omega), hg_hp, if_neg (by omega), hg_hp, if_neg (by omega), hg_hp, if_neg (by omega)]
theorem PH_64 : hg (PH h q) 64 = iA 16 (g16 (mcI (hg h 64)) q 1) := by
  unfold PH
  rw [hg_hp, if_neg (by decide), hg_hp, if_neg (by decide), hg_hp, if_neg (by decide), hg_hp, if_neg (by decide), hg_hp, if_neg (by decide), hg_hp, if_pos rfl]
theorem g16a_1 {A : Nat → Int32} (hf : f < 16) : g16 A q 1 f = q (f * 6 + 1) := g16_at hf
theorem g16u_1 {A : Nat → Int32} (hf : f < 16) : upd (g16 A q 1) f x = g16 A (upd q (f * 6 + 1) x) 1 := g16_up hf
theorem PHu_64 (hf : f < 16) : hp (PH h q) 64 (iA 16 (g16 (mcI (hg h 64)) (upd q (f * 6 + 1) x) 1)) = PH h (upd q (f * 6 + 1) x) := by
  have e := fun (A : Nat → Int32) (d : Nat) (h1 : d < 6) (h2 : 1 ≠ d) => g16_n (A := A) (q := q) (c := 1) (d := d) (f := f) (x := x) (by decide) h1 h2
  refine hx_ext rfl rfl (fun k => ?_)
  unfold PH
  rw [e _ 0 (by decide) (by decide), e _ 2 (by decide) (by decide), e _ 3 (by decide) (by decide), e _ 4 (by decide) (by decide), e _ 5 (by decide) (by decide)]
  simp only [hg_hp]
  by_cases k1 : k = 64
  · simp [k1]
  · simp [k1]
theorem PH_65 : hg (PH h q) 65 = iA 16 (g16 (mcI (hg h 65)) q 0) := by
  unfold PH
  rw [hg_hp, if_neg (by decide), hg_hp, if_neg (by decide), hg_hp, if_neg (by decide), hg_hp, if_neg (by decide), hg_hp, if_pos rfl]
theorem g16a_0 {A : Nat → Int32} (hf : f < 16) : g16 A q 0 f = q (f * 6) := g16_at hf
theorem g16u_0 {A : Nat → Int32} (hf : f < 16) : upd (g16 A q 0) f x = g16 A (upd q (f * 6) x) 0 := g16_up hf
theorem PHu_65 (hf : f < 16) : hp (PH h q) 65 (iA 16 (g16 (mcI (hg h 65)) (upd q (f * 6) x) 0)) = PH h (upd q (f * 6) x) := by
  have e := fun (A : Nat → Int32) (d : Nat) (h1 : d < 6) (h2 : 0 ≠ d) => g16_n (A := A) (q := q) (c := 0) (d := d) (f := f) (x := x) (by decide) h1 h2
  simp only [Nat.add_zero] at e
  refine hx_ext rfl rfl (fun k => ?_)
  unfold PH
  rw [e _ 1 (by decide) (by decide), e _ 2 (by decide) (by decide), e _ 3 (by decide) (by decide), e _ 4 (by decide) (by decide), e _ 5 (by decide) (by decide)]
  simp only [hg_hp]
  by_cases k1 : k = 65
  · simp [k1]
  · simp [k1]
theorem PH_66 : hg (PH h q) 66 = iA 16 (g16 (mcI (hg h 66)) q 2) := by
  unfold PH
  rw [hg_hp, if_neg (by decide), hg_hp, if_neg (by decide), hg_hp, if_neg (by decide), hg_hp, if_pos rfl]
theorem g16a_2 {A : Nat → Int32} (hf : f < 16) : g16 A q 2 f = q (f * 6 + 2) := g16_at hf
theorem g16u_2 {A : Nat → Int32} (hf : f < 16) : upd (g16 A q 2) f x = g16 A (upd q (f * 6 + 2) x) 2 := g16_up hf
theorem PHu_66 (hf : f < 16) : hp (PH h q) 66 (iA 16 (g16 (mcI (hg h 66)) (upd q (f * 6 + 2) x) 2)) = PH h (upd q (f * 6 + 2) x) := by
  have e := fun (A : Nat → Int32) (d : Nat) (h1 : d < 6) (h2 : 2 ≠ d) => g16_n (A := A) (q := q) (c := 2) (d := d) (f := f) (x := x) (by decide) h1 h2
  refine hx_ext rfl rfl (fun k => ?_)
  unfold PH
  rw [e _ 1 (by decide) (by decide), e _ 0 (by decide) (by decide), e _ 3 (by decide) (by decide), e _ 4 (by decide) (by decide), e _ 5 (by decide) (by decide)]
  simp only [hg_hp]
  by_cases k1 : k = 66
  · simp [k1]
  · simp [k1]
theorem PH_67 : hg (PH h q) 67 = iA 16 (g16 (mcI (hg h 67)) q 3) := by
  unfold PH
  rw [hg_hp, if_neg (by decide), hg_hp, if_neg (by decide), hg_hp, if_pos rfl]
theorem g16a_3 {A : Nat → Int32} (hf : f < 16) : g16 A q 3 f = q (f * 6 + 3) := g16_at hf
theorem g16u_3 {A : Nat → Int32} (hf : f < 16) : upd (g16 A q 3) f x = g16 A (upd q (f * 6 + 3) x) 3 := g16_up hf
theorem PHu_67 (hf : f < 16) : hp (PH h q) 67 (iA 16 (g16 (mcI (hg h 67)) (upd q (f * 6 + 3) x) 3)) = PH h (upd q (f * 6 + 3) x) := by
  have e := fun (A : Nat → Int32) (d : Nat) (h1 : d < 6) (h2 : 3 ≠ d) => g16_n (A := A) (q := q) (c := 3) (d := d) (f := f) (x := x) (by decide) h1 h2
  refine hx_ext rfl rfl (fun k => ?_)
  unfold PH
  rw [e _ 1 (by decide) (by decide), e _ 0 (by decide) (by decide), e _ 2 (by decide) (by decide), e _ 4 (by decide) (by decide), e _ 5 (by decide) (by decide)]
  simp only [hg_hp]
  by_cases k1 : k = 67
  · simp [k1]
  · simp [k1]
theorem PH_68 : hg (PH h q) 68 = iA 16 (g16 (mcI (hg h 68)) q 4) := by
  unfold PH
  rw [hg_hp, if_neg (by decide), hg_hp, if_pos rfl]
theorem g16a_4 {A : Nat → Int32} (hf : f < 16) : g16 A q 4 f = q (f * 6 + 4) := g16_at hf
theorem g16u_4 {A : Nat → Int32} (hf : f < 16) : upd (g16 A q 4) f x = g16 A (upd q (f * 6 + 4) x) 4 := g16_up hf
theorem PHu_68 (hf : f < 16) : hp (PH h q) 68 (iA 16 (g16 (mcI (hg h 68)) (upd q (f * 6 + 4) x) 4)) = PH h (upd q (f * 6 + 4) x) := by
  have e := fun (A : Nat → Int32) (d : Nat) (h1 : d < 6) (h2 : 4 ≠ d) => g16_n (A := A) (q := q) (c := 4) (d := d) (f := f) (x := x) (by decide) h1 h2
  refine hx_ext rfl rfl (fun k => ?_)
  unfold PH
  rw [e _ 1 (by decide) (by decide), e _ 0 (by decide) (by decide), e _ 2 (by decide) (by decide), e _ 3 (by decide) (by decide), e _ 5 (by decide) (by decide)]
  simp only [hg_hp]
  by_cases k1 : k = 68
  · simp [k1]
  · simp [k1]
theorem PH_69 : hg (PH h q) 69 = iA 16 (g16 (mcI (hg h 69)) q 5) := by
  unfold PH
  rw [hg_hp, if_pos rfl]
theorem g16a_5 {A : Nat → Int32} (hf : f < 16) : g16 A q 5 f = q (f * 6 + 5) := g16_at hf
theorem g16u_5 {A : Nat → Int32} (hf : f < 16) : upd (g16 A q 5) f x = g16 A (upd q (f * 6 + 5) x) 5 := g16_up hf
theorem PHu_69 (hf : f < 16) : hp (PH h q) 69 (iA 16 (g16 (mcI (hg h 69)) (upd q (f * 6 + 5) x) 5)) = PH h (upd q (f * 6 + 5) x) := by
  have e := fun (A : Nat → Int32) (d : Nat) (h1 : d < 6) (h2 : 5 ≠ d) => g16_n (A := A) (q := q) (c := 5) (d := d) (f := f) (x := x) (by decide) h1 h2
  refine hx_ext rfl rfl (fun k => ?_)
  unfold PH
  rw [e _ 1 (by decide) (by decide), e _ 0 (by decide) (by decide), e _ 2 (by decide) (by decide), e _ 3 (by decide) (by decide), e _ 4 (by decide) (by decide)]
  simp only [hg_hp]
  by_cases k1 : k = 69
  · simp [k1]
  · simp [k1]
end PHS

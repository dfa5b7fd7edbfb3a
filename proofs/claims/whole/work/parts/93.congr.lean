-- IMAGES: what is looked at is below the lengths
theorem REL.congrS {D : LD} {S S' : Nat → Int32} (R : REL D S) (b2 : D.1 2 ≤ 120) (hs : ∀ k, k < 16450 → S' k = S k) : REL D S' := by
  obtain ⟨r1, r2, r3, r4, r5⟩ := R
  refine ⟨fun j hj hj4 => ?_, by rw [hs 7 (by decide)]; exact r2, r3, fun j hj hj2 k hk => ?_, fun b hb => BRx (r5 b hb) (fun c hc => hs _ (by omega))⟩
  · have := scnt_7 j hj
    rw [hs _ (by omega)]; exact r1 j hj hj4
  · have := soff_10 j hj
    rw [hs _ (by omega)]; exact r4 j hj hj2 k hk
def AGR (D D' : LD) : Prop := D'.1 = D.1 ∧ D'.2.2 = D.2.2 ∧ ∀ i, i < 9 → ∀ k, k < tcap i * twid i → D'.2.1 i k = D.2.1 i k
theorem ssz_cap : ∀ i, i < 9 → i ≠ 2 → ssz i ≤ tcap i * twid i := by decide
theorem REL.congrD {D D' : LD} {S : Nat → Int32} (R : REL D S) (b2 : D.1 2 ≤ 120) (A : AGR D D') : REL D' S := by
  obtain ⟨a1, a2, a3⟩ := A
  obtain ⟨r1, r2, r3, r4, r5⟩ := R
  refine ⟨by rw [a1]; exact r1, by rw [a2]; exact r2, by rw [a1]; exact r3, fun j hj hj2 k hk => ?_, fun b hb => ?_⟩
  · have := ssz_cap j hj hj2
    rw [a3 j hj k (by omega)]; exact r4 j hj hj2 k hk
  · rw [a1] at hb
    refine (r5 b hb).congr (fun c hc => ?_) (fun c _ => rfl)
    show D'.2.1 2 (b * 17 + c) = D.2.1 2 (b * 17 + c)
    exact a3 2 (by decide) _ (by show b * 17 + c < 2040; omega)
theorem ACTS.congr {n : Nat} {f f' : Nat → Int32} (A : ACTS n f) (h : ∀ k, k < n * 3 → f' k = f k) : ACTS n f' := by
  intro i hi
  obtain ⟨a, b, c, d, e⟩ := A i hi
  rw [h _ (by omega), h _ (by omega), h _ (by omega)]
  exact ⟨a, b, c, d, fun k hk => by rw [h _ (by omega)]; exact e k hk⟩
theorem RNG.congrD {t : Nat} {D D' : LD} (N : RNG t D) (hb : ∀ i, i < 9 → D.1 i ≤ tcap i) (A : AGR D D') : RNG t D' := by
  obtain ⟨a1, a2, a3⟩ := A
  obtain ⟨n1, n2, n3, n4, n5, n6, n7, n8, n9⟩ := N
  have c0 : D.1 0 ≤ 20 := hb 0 (by decide)
  have c1 : D.1 1 ≤ 16 := hb 1 (by decide)
  have c2 : D.1 2 ≤ 120 := hb 2 (by decide)
  have c3 : D.1 3 ≤ 6 := hb 3 (by decide)
  have c5 : D.1 5 ≤ 8 := hb 5 (by decide)
  have c7 : D.1 7 ≤ 60 := hb 7 (by decide)
  have e0 : ∀ k, k < 60 → D'.2.1 0 k = D.2.1 0 k := a3 0 (by decide)
  have e1 : ∀ k, k < 48 → D'.2.1 1 k = D.2.1 1 k := a3 1 (by decide)
  have e2 : ∀ k, k < 2040 → D'.2.1 2 k = D.2.1 2 k := a3 2 (by decide)
  have e3 : ∀ k, k < 6 → D'.2.1 3 k = D.2.1 3 k := a3 3 (by decide)
  have e4 : ∀ k, k < 204 → D'.2.1 4 k = D.2.1 4 k := a3 4 (by decide)
  have e5 : ∀ k, k < 24 → D'.2.1 5 k = D.2.1 5 k := a3 5 (by decide)
  have e7 : ∀ k, k < 240 → D'.2.1 7 k = D.2.1 7 k := a3 7 (by decide)
  have e8 : ∀ k, k < 18 → D'.2.1 8 k = D.2.1 8 k := a3 8 (by decide)
  unfold RNG
  rw [a1, a2]
  refine ⟨n1.congr (fun k hk => e0 k (by omega)), fun i hi => ?_, fun p hp => ?_, fun x hx => ?_, fun r hr => ?_, fun i hi => ?_, fun c hc => ?_, n8, fun b hb => ?_⟩
  · rw [e1 _ (by omega)]; exact n2 i hi
  · rw [e3 _ (by omega)]; exact n3 p hp
  · obtain ⟨m, q1, q2, q3⟩ := n4 x hx
    refine ⟨m, q1, by rw [e4 _ (by omega)]; exact q2, fun c hc => ?_⟩
    rw [e4 _ (by omega)]; exact q3 c hc
  · rw [e5 _ (by omega)]; exact n5 r hr
  · rw [e7 _ (by omega), e7 _ (by omega), e7 _ (by omega)]; exact n6 i hi
  · rw [e8 _ (by omega)]; exact n7 c hc
  · rw [e2 _ (by omega)]; exact n9 b hb
theorem cpf_lt {N k : Nat} {f2 f : Nat → Int32} (h : k < N) : cpf N f2 f k = f2 k := by
  unfold cpf va_cpy
  rw [if_pos (by omega), Nat.zero_add, Nat.sub_zero]

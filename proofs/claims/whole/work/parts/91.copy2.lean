-- IMAGES: one league into another
theorem okC_n {N : Nat} {f g : Nat → Int32} (hN : N < 2 ^ 31) : okC (iA N f) (iA N g) 0 0 (nI N) = true := by
  have l : (0 : Int32) ≤ nI N := by rw [Int32.le_iff_toInt_le, nI_toInt hN, z_toInt]; omega
  have e : (nI N).toNatClampNeg = N := nI_clamp hN
  have c0 : (0 : Int32).toNatClampNeg = 0 := rfl
  unfold okC
  rw [e, c0]
  have t : mcT (iA N f) = 0 := rfl
  have t2 : mcT (iA N g) = 0 := rfl
  have n1 : mcN (iA N f) = N := rfl
  have n2 : mcN (iA N g) = N := rfl
  rw [t, t2, n1, n2]
  have z : (0 : Int32) ≤ 0 := by decide
  simp [l]
def cpf (N : Nat) (f2 f : Nat → Int32) : Nat → Int32 := va_cpy f2 f 0 0 N
/-- the first k tables of the league at b are those of D2, the others as they were -/
def CPK (h0 h : MH) (b : Nat) (D D2 : LD) (k : Nat) : Prop := h.1 = h0.1 ∧ h.2.1 = h0.2.1 ∧ (∀ j, j < b + 1 ∨ b + 19 ≤ j → hg h j = hg h0 j) ∧ (∀ i, i < k → TAB h (b + 1 + 2 * i) (b + 2 + 2 * i) (tcap i) (twid i) (D2.1 i) (cpf (tcap i * twid i) (D2.2.1 i) (D.2.1 i))) ∧ ∀ i, k ≤ i → i < 9 → TAB h (b + 1 + 2 * i) (b + 2 + 2 * i) (tcap i) (twid i) (D.1 i) (D.2.1 i)
section CP2
variable {X : MX}
theorem cp_step {h0 h : MH} {b s : Nat} {D D2 : LD} {k : Nat} (hk : k < 9) (hbs : b + 19 ≤ s ∨ s + 19 ≤ b) (L2 : LG h0 s D2) (C : CPK h0 h b D D2 k) : ∃ h', (ev X 106 0 [.ref (b + 1 + 2 * k), .ref (s + 1 + 2 * k)] [] (h)) = some (none, h') ∧ CPK h0 h' b D D2 (k + 1) := by
  obtain ⟨c1, c2, c3, c4, c5⟩ := C
  have T := c5 k (Nat.le_refl k) hk
  have T2 : TAB h (s + 1 + 2 * k) (s + 2 + 2 * k) (tcap k) (twid k) (D2.1 k) (D2.2.1 k) := (L2.tab k hk).same (c3 _ (by omega)) (c3 _ (by omega))
  have hN := T.2.2.2.2.1
  have e := tb_copy (X := X) T T2 (L2.2 k hk).2 (by omega) (by omega) (okC_n hN)
  refine ⟨_, e, c1, c2, fun j hj => ?_, fun i hi => ?_, fun i h1 h2 => ?_⟩
  · rw [hg_hp, if_neg (by omega), hg_hp, if_neg (by omega)]; exact c3 j hj
  · by_cases z : i = k
    · subst z
      refine ⟨by rw [hg_hp, if_pos rfl], ?_, T.2.2⟩
      rw [hg_hp, if_neg (by omega), hg_hp, if_pos rfl]
      unfold cpf
      rw [show (Int32.ofNat (tcap i * twid i)).toNatClampNeg = tcap i * twid i from nI_clamp hN]
    · exact (c4 i (by omega)).same (by rw [hg_hp, if_neg (by omega), hg_hp, if_neg (by omega)]) (by rw [hg_hp, if_neg (by omega), hg_hp, if_neg (by omega)])
  · exact (c5 i (by omega) h2).same (by rw [hg_hp, if_neg (by omega), hg_hp, if_neg (by omega)]) (by rw [hg_hp, if_neg (by omega), hg_hp, if_neg (by omega)])
end CP2

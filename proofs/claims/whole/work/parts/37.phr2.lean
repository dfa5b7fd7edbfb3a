-- PHRASES: both tell the same line
def PM (now : Int) (s : PS) (u : MS6) : Prop := s.1 = u.1 ∧ s.2.2.2.1 = u.2.1 ∧ s.2.2.2.2.1 = u.2.2.2 0 ∧ s.2.2.2.2.2 = u.2.2.2 1 ∧
  ((s.2.1 = -1 ∧ u.2.2.1 0 = -1 ∧ u.2.2.1 1 = -1) ∨ (s.2.1 = 0 ∧ u.2.2.1 0 = s.2.2.1 ∧ (u.2.2.1 1).toInt < (u.2.2.1 0).toInt ∧ (u.2.2.1 0).toInt ≤ now) ∨ (s.2.1 = 1 ∧ u.2.2.1 1 = s.2.2.1 ∧ (u.2.2.1 0).toInt < (u.2.2.1 1).toInt ∧ (u.2.2.1 1).toInt ≤ now))
theorem PM_step {now : Int} {s : PS} {u : MS6} {rw sort f t : Int32} (hR : PM now s u) (hf : f = 0 ∨ f = 1) (h0 : 0 ≤ t.toInt) (ht : now ≤ t.toInt) : PM t.toInt (p_fol rw sort f t s) (m_fol rw sort f t u) := by
  obtain ⟨ho, at_, aa, sh, fp, sq⟩ := s
  obtain ⟨has, met, A, P⟩ := u
  obtain ⟨r1, r2, r3, r4, r5⟩ := hR
  dsimp only at r1 r2 r3 r4 r5
  subst r1 r2 r3 r4
  have keep : ∀ {x y z w : Int32} {B : Nat → Int32}, PM t.toInt (x, at_, aa, y, B 0, B 1) (x, y, A, B) := fun {x y z w B} => ⟨rfl, rfl, rfl, rfl, by
    rcases r5 with q | ⟨q1, q2, q3, q4⟩ | ⟨q1, q2, q3, q4⟩
    · exact Or.inl q
    · exact Or.inr (Or.inl ⟨q1, q2, q3, Int.le_trans q4 ht⟩)
    · exact Or.inr (Or.inr ⟨q1, q2, q3, Int.le_trans q4 ht⟩)⟩
  have m1 : (-1 : Int32).toInt = -1 := by decide
  have d10 : (1 : Int32) - 0 = 1 := by decide
  have d11 : (1 : Int32) - 1 = 0 := by decide
  have n1 : ¬ (1 : Int32) = 0 := by decide
  have n2 : ¬ (0 : Int32) = 1 := by decide
  have n3 : ¬ (-1 : Int32) = 1 := by decide
  have n4 : ¬ (-1 : Int32) = 0 := by decide
  unfold p_fol m_fol
  dsimp only
  by_cases s0 : sort = 0
  · rw [if_pos s0, if_pos s0]
    unfold p_att
    dsimp only
    have hcond : (at_ = 1 - f ∧ aa = t) ↔ A (1 - fN f) = t := by
      rcases hf with rfl | rfl
      · rw [d10]
        show _ ↔ A (1 - 0) = t
        rcases r5 with ⟨q1, q2, q3⟩ | ⟨q1, q2, q3, q4⟩ | ⟨q1, q2, q3, q4⟩
        · rw [q1]
          refine ⟨fun z => absurd z.1 n3, fun z => ?_⟩
          rw [show 1 - 0 = 1 from rfl, q3] at z
          rw [← z, m1] at h0
          omega
        · rw [q1]
          refine ⟨fun z => absurd z.1 n2, fun z => ?_⟩
          rw [show 1 - 0 = 1 from rfl] at z
          rw [z] at q3
          omega
        · rw [q1, ← q2]
          exact ⟨fun z => z.2, fun z => ⟨rfl, z⟩⟩
      · rw [d11]
        show _ ↔ A (1 - (if (1 : Int32) = 0 then 0 else 1)) = t
        rw [if_neg n1]
        rcases r5 with ⟨q1, q2, q3⟩ | ⟨q1, q2, q3, q4⟩ | ⟨q1, q2, q3, q4⟩
        · rw [q1]
          refine ⟨fun z => absurd z.1 n4, fun z => ?_⟩
          rw [show 1 - 1 = 0 from rfl, q2] at z
          rw [← z, m1] at h0
          omega
        · rw [q1, ← q2]
          exact ⟨fun z => z.2, fun z => ⟨rfl, z⟩⟩
        · rw [q1]
          refine ⟨fun z => absurd z.1 n1, fun z => ?_⟩
          rw [show 1 - 1 = 0 from rfl] at z
          rw [z] at q3
          omega
    by_cases c1 : A (1 - fN f) = t
    · rw [if_pos (hcond.mpr c1), if_pos c1]
      exact keep (z := 0) (w := 0)
    · rw [if_neg (fun z => c1 (hcond.mp z)), if_neg c1]
      by_cases c2 : ho = -1 ∧ ¬ sh = t
      · rw [if_pos c2, if_pos c2]
        refine ⟨rfl, rfl, rfl, rfl, ?_⟩
        dsimp only
        rcases hf with rfl | rfl
        · refine Or.inr (Or.inl ⟨rfl, rfl, ?_, Int.le_refl _⟩)
          have c1 : ¬ A 1 = t := c1
          show (upd A 0 t 1).toInt < (upd A 0 t 0).toInt
          rw [upd_ne (by decide), upd_eq]
          have : ¬ (A 1).toInt = t.toInt := fun z => c1 (Int32.toInt_inj.mp z)
          rcases r5 with ⟨q1, q2, q3⟩ | ⟨q1, q2, q3, q4⟩ | ⟨q1, q2, q3, q4⟩
          · rw [q3, m1]; omega
          · omega
          · omega
        · refine Or.inr (Or.inr ⟨rfl, rfl, ?_, Int.le_refl _⟩)
          have c1 : ¬ A 0 = t := c1
          show (upd A 1 t 0).toInt < (upd A 1 t 1).toInt
          rw [upd_ne (by decide), upd_eq]
          have : ¬ (A 0).toInt = t.toInt := fun z => c1 (Int32.toInt_inj.mp z)
          rcases r5 with ⟨q1, q2, q3⟩ | ⟨q1, q2, q3, q4⟩ | ⟨q1, q2, q3, q4⟩
          · rw [q2, m1]; omega
          · omega
          · omega
      · rw [if_neg c2, if_neg c2]
        exact keep (z := 0) (w := 0)
  · rw [if_neg s0, if_neg s0]
    by_cases s1 : sort = 1
    · rw [if_pos s1]
      by_cases c1 : ho = 1 - f
      · rw [if_pos c1, if_pos ⟨s1, c1⟩]
        unfold p_set
        rcases hf with rfl | rfl
        · rw [if_pos rfl]; exact keep (B := upd P 0 t) (z := 0) (w := 0)
        · rw [if_neg n1]; exact keep (B := upd P 1 t) (z := 0) (w := 0)
      · rw [if_neg c1, if_neg (fun z => c1 z.2), if_neg (fun z => by rw [s1] at z; exact absurd z.1 (by decide)), if_neg (fun z => by rw [s1] at z; exact absurd z.1 (by decide))]
        exact keep (z := 0) (w := 0)
    · rw [if_neg s1, if_neg (show ¬ (sort = 1 ∧ ho = 1 - f) from fun z => s1 z.1)]
      by_cases s2 : sort = 2
      · rw [if_pos s2]
        unfold p_rip p_par
        have hp : (if f = 0 then P 0 else P 1) = P (fN f) := by
          rcases hf with rfl | rfl
          · rfl
          · rw [if_neg n1]; rfl
        dsimp only
        rw [hp]
        by_cases c1 : ¬ P (fN f) = -1 ∧ ¬ rw < t - P (fN f) ∧ ho = -1
        · rw [if_pos c1, if_pos ⟨s2, c1.2.2, c1.1, c1.2.1⟩]
          unfold p_set
          rcases hf with rfl | rfl
          · rw [if_pos rfl]; exact keep (B := upd P 0 (-1)) (z := 0) (w := 0)
          · rw [if_neg n1]; exact keep (B := upd P 1 (-1)) (z := 0) (w := 0)
        · rw [if_neg c1, if_neg (fun z => c1 ⟨z.2.2.1, z.2.2.2, z.2.1⟩), if_neg (fun z => by rw [s2] at z; exact absurd z.1 (by decide))]
          exact keep (z := 0) (w := 0)
      · rw [if_neg s2, if_neg (show ¬ (sort = 2 ∧ ho = -1 ∧ ¬ P (fN f) = -1 ∧ ¬ rw < t - P (fN f)) from fun z => s2 z.1)]
        by_cases s3 : sort = 3
        · rw [if_pos s3]
          by_cases c1 : ho = f
          · rw [if_pos c1, if_pos ⟨s3, c1⟩]; exact keep (z := 0) (w := 0)
          · rw [if_neg c1, if_neg (fun z => c1 z.2)]; exact keep (z := 0) (w := 0)
        · rw [if_neg s3, if_neg (show ¬ (sort = 3 ∧ ho = f) from fun z => s3 z.1)]
          exact keep (z := 0) (w := 0)
/-- acts as they may be told -/
def ACTS (n : Nat) (f : Nat → Int32) : Prop := ∀ i, i < n → (f (i * 3) = 0 ∨ f (i * 3) = 1) ∧ (f (i * 3 + 1) = 0 ∨ f (i * 3 + 1) = 1 ∨ f (i * 3 + 1) = 2 ∨ f (i * 3 + 1) = 3 ∨ f (i * 3 + 1) = 4) ∧ 0 ≤ (f (i * 3 + 2)).toInt ∧ (f (i * 3 + 2)).toInt ≤ 9999 ∧ ∀ k, k < i → (f (k * 3 + 2)).toInt ≤ (f (i * 3 + 2)).toInt
theorem run_same {rw time : Int32} {n : Nat} {f S : Nat → Int32} (hA : ACTS n f) (hS : ∀ i, i < 3 * n → S (10 + i) = f i) : ∀ (m k : Nat) (now : Int) (s : PS) (u : MS6), k + m = n → PM now s u → (∀ i, k ≤ i → i < n → now ≤ (f (i * 3 + 2)).toInt) → (p_run rw time f m k s).1 = (m_run rw time S m k u).1
  | 0, k, now, s, u, hk, hR, hn => hR.1
  | m + 1, k, now, s, u, hk, hR, hn => by
    have hkn : k < n := by omega
    obtain ⟨a1, a2, a3, a4, a5⟩ := hA k hkn
    have e0 : S (10 + 3 * k) = f (k * 3) := by rw [hS _ (by omega), Nat.mul_comm]
    have e1 : S (10 + 3 * k + 1) = f (k * 3 + 1) := by rw [Nat.add_assoc, hS _ (by omega), Nat.mul_comm]
    have e2 : S (10 + 3 * k + 2) = f (k * 3 + 2) := by rw [Nat.add_assoc, hS _ (by omega), Nat.mul_comm]
    simp only [p_run, m_run, e0, e1, e2]
    by_cases ht : time < f (k * 3 + 2)
    · rw [if_pos ht, if_pos ht]; exact hR.1
    · rw [if_neg ht, if_neg ht]
      exact run_same hA hS m (k + 1) _ _ _ (by omega) (PM_step hR a1 a3 (hn k (Nat.le_refl _) hkn)) (fun i h1 h2 => (hA i h2).2.2.2.2 k (by omega))
theorem line_same {rw time : Int32} {n : Nat} {f S A P : Nat → Int32} (hA : ACTS n f) (hS : ∀ i, i < 3 * n → S (10 + i) = f i) : (p_run rw time f n 0 (-1, -1, -1, -1, -1, -1)).1 = (m_run rw time S n 0 (-1, -1, upd (upd A 0 (-1)) 1 (-1), upd (upd P 0 (-1)) 1 (-1))).1 :=
  run_same hA hS n 0 0 _ _ (by omega) ⟨rfl, rfl, rfl, rfl, Or.inl ⟨rfl, rfl, rfl⟩⟩ (fun i _ h => (hA i h).2.2.1)

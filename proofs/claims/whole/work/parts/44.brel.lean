-- BOUTS: both judge alike
def gcol (r : Nat → Int32) : G8 := (r 6, r 7, r 10, r 11, r 12, r 13, r 8, r 9)
def GI (n k : Nat) (r : Nat → Int32) : Prop := ∃ t0 t1 c0 c1 : Nat, r 6 = nI t0 ∧ r 7 = nI t1 ∧ t0 ≤ n ∧ t1 ≤ n ∧ (r 8 = 0 → t0 < n ∧ t1 < n) ∧ ((r 8 = 0 ∧ r 9 = -1) ∨ (r 8 = 1 ∧ (r 9 = 0 ∨ r 9 = 1))) ∧ (r 10 = 0 ∨ r 10 = 1) ∧ (r 11 = 0 ∨ r 11 = 1) ∧ r 12 = nI c0 ∧ r 13 = nI c1 ∧ c0 ≤ k ∧ c1 ≤ k
theorem lead_eq {a b : Nat} (ha : a < 100) (hb : b < 100) : ((0 : Int32) < nI a - nI b ↔ b < a) ∧ (nI a - nI b < (0 : Int32) ↔ a < b) := by
  have e := pk_sub_toInt (a := a) (b := b) (by omega) (by omega)
  have z0 : (0 : Int32).toInt = 0 := by decide
  constructor
  · rw [Int32.lt_iff_toInt_lt, e, z0]; omega
  · rw [Int32.lt_iff_toInt_lt, e, z0]; omega
theorem b_lead_n {r : Nat → Int32} {a b : Nat} (e0 : r 6 = nI a) (e1 : r 7 = nI b) (ha : a < 100) (hb : b < 100) : b_lead r = if b < a then 0 else if a < b then 1 else -1 := by
  unfold b_lead
  rw [e0, e1]
  simp only [(lead_eq ha hb).1, (lead_eq ha hb).2]
theorem b_close_n {r : Nat → Int32} {a b : Nat} (e0 : r 6 = nI a) (e1 : r 7 = nI b) (ha : a < 100) (hb : b < 100) : b_close r = b_win (m_ahead (r 5) (gcol r)) r := by
  unfold b_close m_ahead gcol
  rw [b_lead_n e0 e1 ha hb]
  dsimp only
  rw [e0, e1]
  simp only [nI_ltI (show a < 2 ^ 31 by omega) (show b < 2 ^ 31 by omega), nI_ltI (show b < 2 ^ 31 by omega) (show a < 2 ^ 31 by omega)]
  by_cases h1 : b < a
  · rw [if_pos h1, if_pos h1, if_neg (by decide)]
  · rw [if_neg h1, if_neg h1]
    by_cases h2 : a < b
    · rw [if_pos h2, if_pos h2, if_neg (by decide)]
    · rw [if_neg h2, if_neg h2, if_pos rfl]
theorem gcol_win {x : Int32} {r : Nat → Int32} : gcol (b_win x r) = m_wins x (gcol r) := rfl
theorem b_dec_n {r : Nat → Int32} {t : Int32} {a b L : Nat} (e0 : r 6 = nI a) (e1 : r 7 = nI b) (ha : a < 100) (hb : b < 100) (eL : r 4 = nI L) (hL : L < 10000) : b_dec t r ↔ (r 4 < t ∧ ¬ r 6 = r 7) ∨ r 4 + 1000 < t := by
  have q : ¬ b_lead r = -1 ↔ ¬ r 6 = r 7 := by
    rw [b_lead_n e0 e1 ha hb, e0, e1, nI_eq (by omega) (by omega)]
    by_cases h1 : b < a
    · rw [if_pos h1]; exact ⟨fun _ => by omega, fun _ => by decide⟩
    · rw [if_neg h1]
      by_cases h2 : a < b
      · rw [if_pos h2]; exact ⟨fun _ => by omega, fun _ => by decide⟩
      · rw [if_neg h2]; exact ⟨fun z => absurd rfl z, fun z => by omega⟩
  unfold b_dec
  rw [q]
  constructor
  · rintro ⟨h1, h2 | h2⟩
    · exact Or.inl ⟨h1, h2⟩
    · exact Or.inr h2
  · rintro (⟨h1, h2⟩ | h2)
    · exact ⟨h1, Or.inl h2⟩
    · refine ⟨?_, Or.inr h2⟩
      rw [eL] at h2 ⊢
      rw [Int32.lt_iff_toInt_lt] at h2 ⊢
      rw [nb_1000, nI_toInt (by omega)] at h2
      rw [nI_toInt (by omega)]
      omega
theorem score_n {r : Nat → Int32} {w n t : Nat} {x : Int32} (hw : w ≤ 1) (e0 : r (6 + w) = nI t) (e3 : r 3 = nI n) (ht : t < n) (hn : n < 100) : gcol (b_score w x r) = m_hits w (r 3) x (gcol r) := by
  have key : (r (6 + w) + 1 + 0 < r 3) ↔ ¬ r (6 + w) + 1 = r 3 := by
    rw [e0, e3, nI_1, nb_0, nI_ltI (by omega) (by omega), nI_eq (by omega) (by omega)]
    omega
  rcases (by omega : w = 0 ∨ w = 1) with rfl | rfl
  · have hL : b_score 0 x r = if x = 0 ∧ r 6 + 1 + 0 < r 3 then upd r 6 (r 6 + 1) else b_win (nI 0) (upd r 6 (r 6 + 1)) := rfl
    have hR : m_hits 0 (r 3) x (gcol r) = if x = 0 ∧ ¬ r 6 + 1 = r 3 then (r 6 + 1, (gcol r).2) else m_wins 0 (r 6 + 1, (gcol r).2) := rfl
    simp only [Nat.add_zero] at key
    rw [hL, hR]
    by_cases q : x = 0 ∧ ¬ r 6 + 1 = r 3
    · rw [if_pos ⟨q.1, key.mpr q.2⟩, if_pos q]; rfl
    · rw [if_neg (fun z => q ⟨z.1, key.mp z.2⟩), if_neg q]; rfl
  · have hL : b_score 1 x r = if x = 0 ∧ r 7 + 1 + 0 < r 3 then upd r 7 (r 7 + 1) else b_win (nI 1) (upd r 7 (r 7 + 1)) := rfl
    have hR : m_hits 1 (r 3) x (gcol r) = if x = 0 ∧ ¬ r 7 + 1 = r 3 then (r 6, r 7 + 1, (gcol r).2.2) else m_wins 1 (r 6, r 7 + 1, (gcol r).2.2) := rfl
    simp only [Nat.reduceAdd] at key
    rw [hL, hR]
    by_cases q : x = 0 ∧ ¬ r 7 + 1 = r 3
    · rw [if_pos ⟨q.1, key.mpr q.2⟩, if_pos q]; rfl
    · rw [if_neg (fun z => q ⟨z.1, key.mp z.2⟩), if_neg q]; rfl
theorem both_n {r : Nat → Int32} {n a b : Nat} (e0 : r 6 = nI a) (e1 : r 7 = nI b) (e3 : r 3 = nI n) (ha : a < n) (hb : b < n) (hn : n < 100) (h8 : r 8 = 0) (h9 : r 9 = -1) : gcol (b_both r) = m_hap 1 0 (r 3) 0 (gcol r) := by
  have k0 : (r 6 + 1 < r 3) ↔ ¬ r 6 + 1 = r 3 := by
    rw [e0, e3, nI_1, nI_ltI (by omega) (by omega), nI_eq (by omega) (by omega)]
    omega
  have k1 : (r 7 + 1 < r 3) ↔ ¬ r 7 + 1 = r 3 := by
    rw [e1, e3, nI_1, nI_ltI (by omega) (by omega), nI_eq (by omega) (by omega)]
    omega
  have z : ∀ x : Int32, x + 0 = x := fun x => Int32.add_zero x
  have hR : m_hap 1 0 (r 3) 0 (gcol r) = (if ¬ (0 : Int32) = 0 ∨ (r 6 + 1 = r 3 ∧ r 7 + 1 = r 3) then gcol r else if r 6 + 1 = r 3 then m_wins 0 (r 6 + 1, r 7 + 1, (gcol r).2.2) else if r 7 + 1 = r 3 then m_wins 1 (r 6 + 1, r 7 + 1, (gcol r).2.2) else (r 6 + 1, r 7 + 1, (gcol r).2.2)) := by
    unfold m_hap
    rw [if_neg (by decide : ¬ (1 : Int32) = 0), if_pos rfl]
    rfl
  have hL : b_both r = if r 6 + 1 < r 3 ∨ r 7 + 1 < r 3 then b_score 1 0 (b_score 0 0 r) else r := rfl
  have hS : ∀ q : Nat → Int32, b_score 1 0 q = if (0 : Int32) = 0 ∧ q 7 + 1 + 0 < q 3 then upd q 7 (q 7 + 1) else b_win (nI 1) (upd q 7 (q 7 + 1)) := fun q => rfl
  have hS0 : b_score 0 0 r = if (0 : Int32) = 0 ∧ r 6 + 1 + 0 < r 3 then upd r 6 (r 6 + 1) else b_win (nI 0) (upd r 6 (r 6 + 1)) := rfl
  rw [hR, hL]
  by_cases q0 : r 6 + 1 = r 3
  · by_cases q1 : r 7 + 1 = r 3
    · rw [if_neg (fun z => z.elim (fun y => k0.mp y q0) (fun y => k1.mp y q1)), if_pos (Or.inr ⟨q0, q1⟩)]
    · have e1 : b_score 0 0 r = b_win (nI 0) (upd r 6 (r 6 + 1)) := by
        rw [hS0, if_neg (fun y => k0.mp (by have := y.2; rw [z] at this; exact this) q0)]
      have e2 : b_score 1 0 (b_win (nI 0) (upd r 6 (r 6 + 1))) = upd (b_win (nI 0) (upd r 6 (r 6 + 1))) 7 (r 7 + 1) := by
        rw [hS, if_pos ⟨rfl, by show r 7 + 1 + 0 < r 3; rw [z]; exact k1.mpr q1⟩]; rfl
      rw [if_pos (Or.inr (k1.mpr q1)), if_neg (fun z => z.elim (fun y => y rfl) (fun y => q1 y.2)), if_pos q0, e1, e2]
      rfl
  · have e1 : b_score 0 0 r = upd r 6 (r 6 + 1) := by
      rw [hS0, if_pos ⟨rfl, by rw [z]; exact k0.mpr q0⟩]
    rw [if_pos (Or.inl (k0.mpr q0)), if_neg (fun z => z.elim (fun y => y rfl) (fun y => q0 y.1)), if_neg q0, e1, hS]
    by_cases q1 : r 7 + 1 = r 3
    · rw [if_neg (fun y => k1.mp (by have h2 : r 7 + 1 + 0 < r 3 := y.2; rw [z] at h2; exact h2) q1), if_pos q1]; rfl
    · rw [if_pos ⟨rfl, by show r 7 + 1 + 0 < r 3; rw [z]; exact k1.mpr q1⟩, if_neg q1]; rfl
theorem judge_n {r : Nat → Int32} {s x : Int32} {w n k : Nat} (hs : s = 0 ∨ s = 1 ∨ s = 2 ∨ s = 3 ∨ s = 4 ∨ s = 5) (hw : w ≤ 1) (hI : GI n k r) (e3 : r 3 = nI n) (hn : n < 100) (h8 : r 8 = 0) : gcol (b_judge s w x r) = m_hap s w (r 3) x (gcol r) := by
  obtain ⟨t0, t1, c0, c1, e6, e7, -, -, i3, i4, i5, i6, -⟩ := hI
  obtain ⟨i1, i2⟩ := i3 h8
  have h9 : r 9 = -1 := by
    rcases i4 with i4 | i4
    · exact i4.2
    · rw [i4.1] at h8; exact absurd h8 (by decide)
  have et : ∀ u, u ≤ 1 → ∃ t, r (6 + u) = nI t ∧ t < n := fun u hu => by
    rcases (by omega : u = 0 ∨ u = 1) with rfl | rfl
    · exact ⟨t0, e6, i1⟩
    · exact ⟨t1, e7, i2⟩
  unfold b_judge
  rcases hs with rfl | rfl | rfl | rfl | rfl | rfl
  · obtain ⟨t, a1, a2⟩ := et w hw
    rw [if_pos rfl]
    unfold m_hap
    rw [if_pos rfl]
    exact score_n hw a1 e3 a2 hn
  · rw [if_neg (by decide : ¬ (1 : Int32) = 0), if_pos rfl]
    by_cases q : x = 0
    · rw [if_pos q, both_n e6 e7 e3 i1 i2 hn h8 h9, q]; rfl
    · rw [if_neg q]
      unfold m_hap
      rw [if_neg (by decide : ¬ (1 : Int32) = 0), if_pos rfl, if_pos (Or.inl q)]
  · rw [if_neg (by decide : ¬ (2 : Int32) = 0), if_neg (by decide : ¬ (2 : Int32) = 1), if_pos rfl]
    unfold m_hap
    rw [if_neg (by decide : ¬ (2 : Int32) = 0), if_neg (by decide : ¬ (2 : Int32) = 1)]
    have red : gcol (b_red w x r) = m_hits (1 - w) (r 3) x (r 6, r 7, r 10, r 11, (if w = 0 then r 12 + 1 else r 12), (if w = 0 then r 13 else r 13 + 1), r 8, r 9) := by
      unfold b_red
      obtain ⟨t, a1, a2⟩ := et (1 - w) (by omega)
      have a3 : upd r (12 + w) (r (12 + w) + 1) (6 + (1 - w)) = nI t := by rw [upd_ne (by omega)]; exact a1
      have a4 : upd r (12 + w) (r (12 + w) + 1) 3 = r 3 := by rw [upd_ne (by omega)]
      rw [score_n (by omega) a3 (a4.trans e3) a2 hn, a4]
      rcases (by omega : w = 0 ∨ w = 1) with rfl | rfl <;> rfl
    rcases (by omega : w = 0 ∨ w = 1) with rfl | rfl
    · rcases i5 with q | q
      · rw [if_pos (show r (10 + 0) = 0 from q), if_neg (fun z => z.elim (by decide) (fun y => absurd y.2 (by show ¬ 0 < r 10; rw [q]; decide))), if_pos rfl]
        show (r 6, r 7, (1 : Int32), r 11, r 12, r 13, r 8, r 9) = (r 6, r 7, r 10 + 1, r 11, r 12, r 13, r 8, r 9)
        rw [q]; rfl
      · rw [if_neg (show ¬ r (10 + 0) = 0 by show ¬ r 10 = 0; rw [q]; decide), if_pos (Or.inr ⟨rfl, by show 0 < r 10; rw [q]; decide⟩)]
        exact red
    · rcases i6 with q | q
      · rw [if_pos (show r (10 + 1) = 0 from q), if_neg (fun z => z.elim (by decide) (fun y => absurd y.2 (by show ¬ 0 < r 11; rw [q]; decide))), if_pos rfl]
        show (r 6, r 7, r 10, (1 : Int32), r 12, r 13, r 8, r 9) = (r 6, r 7, r 10, r 11 + 1, r 12, r 13, r 8, r 9)
        rw [q]; rfl
      · rw [if_neg (show ¬ r (10 + 1) = 0 by show ¬ r 11 = 0; rw [q]; decide), if_pos (Or.inr ⟨rfl, by show 0 < r 11; rw [q]; decide⟩)]
        exact red
  · rw [if_neg (by decide : ¬ (3 : Int32) = 0), if_neg (by decide : ¬ (3 : Int32) = 1), if_neg (by decide : ¬ (3 : Int32) = 2), if_pos rfl]
    unfold m_hap
    rw [if_neg (by decide : ¬ (3 : Int32) = 0), if_neg (by decide : ¬ (3 : Int32) = 1), if_pos (Or.inl rfl)]
    unfold b_red
    obtain ⟨t, a1, a2⟩ := et (1 - w) (by omega)
    have a3 : upd r (12 + w) (r (12 + w) + 1) (6 + (1 - w)) = nI t := by rw [upd_ne (by omega)]; exact a1
    have a4 : upd r (12 + w) (r (12 + w) + 1) 3 = r 3 := by rw [upd_ne (by omega)]
    rw [score_n (by omega) a3 (a4.trans e3) a2 hn, a4]
    rcases (by omega : w = 0 ∨ w = 1) with rfl | rfl <;> rfl
  · rw [if_neg (by decide : ¬ (4 : Int32) = 0), if_neg (by decide : ¬ (4 : Int32) = 1), if_neg (by decide : ¬ (4 : Int32) = 2), if_neg (by decide : ¬ (4 : Int32) = 3)]
    unfold m_hap
    rw [if_neg (by decide : ¬ (4 : Int32) = 0), if_neg (by decide : ¬ (4 : Int32) = 1), if_neg (fun z => z.elim (by decide) (fun y => absurd y.1 (by decide))), if_neg (by decide : ¬ (4 : Int32) = 2)]
    rfl
  · rw [if_neg (by decide : ¬ (5 : Int32) = 0), if_neg (by decide : ¬ (5 : Int32) = 1), if_neg (by decide : ¬ (5 : Int32) = 2), if_neg (by decide : ¬ (5 : Int32) = 3)]
    unfold m_hap
    rw [if_neg (by decide : ¬ (5 : Int32) = 0), if_neg (by decide : ¬ (5 : Int32) = 1), if_neg (fun z => z.elim (by decide) (fun y => absurd y.1 (by decide))), if_neg (by decide : ¬ (5 : Int32) = 2)]
    rfl

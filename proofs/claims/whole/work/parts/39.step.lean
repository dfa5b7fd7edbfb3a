-- STEPS: what a call of the class keeps, what a call of the reference keeps
def COK (h h' : MH) : Prop := FIX h' ∧ h'.1 = h.1 ∧ h'.2.1 = h.2.1 ∧ hg h' 20 = hg h 20 ∧ (∀ k, 55 < k → k < 59 → hg h' k = hg h k) ∧ (∀ k, 88 ≤ k → hg h' k = hg h k)
def MOK (h h' : MH) : Prop := FIX h' ∧ h'.1 = h.1 ∧ h'.2.1 = h.2.1 ∧ (∀ k, 0 < k → k < 21 → hg h' k = hg h k) ∧ hg h' 57 = hg h 57 ∧ hg h' 58 = hg h 58 ∧ (∀ k, 88 ≤ k → hg h' k = hg h k)
theorem COK.refl {h : MH} (F : FIX h) : COK h h := ⟨F, rfl, rfl, rfl, fun _ _ _ => rfl, fun _ _ => rfl⟩
theorem MOK.refl {h : MH} (F : FIX h) : MOK h h := ⟨F, rfl, rfl, fun _ _ _ => rfl, rfl, rfl, fun _ _ => rfl⟩
theorem COK.put {h h' : MH} (K : COK h h') {k : Nat} {c : MC} (hk : k < 20 ∨ (20 < k ∧ k < 56) ∨ (58 < k ∧ k < 88)) (hc : FC k c) : COK h (hp h' k c) := by
  obtain ⟨F, s1, s2, i, m, b⟩ := K
  refine ⟨F.put hc, s1, s2, ?_, fun j h1 h2 => ?_, fun j h1 => ?_⟩
  · rw [hg_hp, if_neg (by omega)]; exact i
  · rw [hg_hp, if_neg (by omega)]; exact m j h1 h2
  · rw [hg_hp, if_neg (by omega)]; exact b j h1
theorem MOK.put {h h' : MH} (K : MOK h h') {k : Nat} {c : MC} (hk : k = 0 ∨ (20 < k ∧ k < 57) ∨ (58 < k ∧ k < 88)) (hc : FC k c) : MOK h (hp h' k c) := by
  obtain ⟨F, s1, s2, i, m1, m2, b⟩ := K
  refine ⟨F.put hc, s1, s2, fun j h1 h2 => ?_, ?_, ?_, fun j h1 => ?_⟩
  · rw [hg_hp, if_neg (by omega)]; exact i j h1 h2
  · rw [hg_hp, if_neg (by omega)]; exact m1
  · rw [hg_hp, if_neg (by omega)]; exact m2
  · rw [hg_hp, if_neg (by omega)]; exact b j h1
theorem COK.trans {h h' g : MH} (K : COK h h') (Q : COK h' g) : COK h g := ⟨Q.1, Q.2.1.trans K.2.1, Q.2.2.1.trans K.2.2.1, Q.2.2.2.1.trans K.2.2.2.1, fun k a b => (Q.2.2.2.2.1 k a b).trans (K.2.2.2.2.1 k a b), fun k a => (Q.2.2.2.2.2 k a).trans (K.2.2.2.2.2 k a)⟩
theorem MOK.trans {h h' g : MH} (K : MOK h h') (Q : MOK h' g) : MOK h g := ⟨Q.1, Q.2.1.trans K.2.1, Q.2.2.1.trans K.2.2.1, fun k a b => (Q.2.2.2.1 k a b).trans (K.2.2.2.1 k a b), Q.2.2.2.2.1.trans K.2.2.2.2.1, Q.2.2.2.2.2.1.trans K.2.2.2.2.2.1, fun k a => (Q.2.2.2.2.2.2 k a).trans (K.2.2.2.2.2.2 k a)⟩
theorem COK.md {h h' : MH} (K : COK h h') {S IM KP : Nat → Int32} (M : MD h S IM KP) : MD h' S IM KP := M.same K.2.2.2.2.1
theorem MOK.lg {h h' : MH} (K : MOK h h') {D : LD} (L : LG h 1 D) : LG h' 1 D := L.same (fun k h1 h2 => K.2.2.2.1 k (by omega) (by omega))
theorem MD.st {h h' : MH} {S S' IM KP : Nat → Int32} (M : MD h S IM KP) (K : MOK h h') (e : hg h' 56 = iA 16450 S') : MD h' S' IM KP := ⟨e, by rw [K.2.2.2.2.1]; exact M.2.1, by rw [K.2.2.2.2.2.1]; exact M.2.2⟩
theorem MD.keep {h h' : MH} {S IM KP : Nat → Int32} (M : MD h S IM KP) (K : MOK h h') (e : hg h' 56 = hg h 56) : MD h' S IM KP := M.st K (e.trans M.1)
/-- the class answers v and its league is D' -/
def CA (X : MX) (j : Nat) (a : List Value) (h : MH) (v : Value) (D : LD) : Prop := ∃ h', ev X j 0 a [] h = some (some v, h') ∧ COK h h' ∧ LG h' 1 D
/-- the reference answers v and its row is S -/
def MA (X : MX) (j : Nat) (a : List Value) (h : MH) (v : Value) (S IM KP : Nat → Int32) : Prop := ∃ h', ev X j 0 a [] h = some (some v, h') ∧ MOK h h' ∧ MD h' S IM KP
theorem CA.id {X : MX} {j : Nat} {a : List Value} {h : MH} {v : Value} {D : LD} (F : FIX h) (L : LG h 1 D) (e : ev X j 0 a [] h = some (some v, h)) : CA X j a h v D := ⟨h, e, COK.refl F, L⟩
theorem MA.id {X : MX} {j : Nat} {a : List Value} {h : MH} {v : Value} {S IM KP : Nat → Int32} (F : FIX h) (M : MD h S IM KP) (e : ev X j 0 a [] h = some (some v, h)) : MA X j a h v S IM KP := ⟨h, e, MOK.refl F, M⟩
theorem LG.off {h : MH} {D : LD} (L : LG h 1 D) {k : Nat} {c : MC} (hk : k = 0 ∨ 19 < k) : LG (hp h k c) 1 D := L.same (fun j h1 h2 => by rw [hg_hp, if_neg (by omega)])
theorem MD.off {h : MH} {S IM KP : Nat → Int32} (M : MD h S IM KP) {k : Nat} {c : MC} (hk : k < 56 ∨ 58 < k) : MD (hp h k c) S IM KP := M.same (fun j h1 h2 => by rw [hg_hp, if_neg (by omega)])
theorem MD.put {h : MH} {S IM KP : Nat → Int32} (M : MD h S IM KP) (S' : Nat → Int32) : MD (hp h 56 (iA 16450 S')) S' IM KP := ⟨by rw [hg_hp, if_pos rfl], by rw [hg_hp, if_neg (by decide)]; exact M.2.1, by rw [hg_hp, if_neg (by decide)]; exact M.2.2⟩

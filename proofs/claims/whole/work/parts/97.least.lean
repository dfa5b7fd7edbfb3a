-- LEAST: the first of the least among all ways
abbrev WY : Type := Option (Nat × (Nat → Nat))
def cmb (a b : WY) : WY := match a with
  | none => b
  | some x => match b with
    | none => some x
    | some y => if y.1 < x.1 then some y else some x
theorem cmb_nr (a : WY) : cmb a none = a := by cases a <;> rfl
theorem cmb_nl (b : WY) : cmb none b = b := rfl
theorem cmb_ss (x y : Nat × (Nat → Nat)) : cmb (some x) (some y) = if y.1 < x.1 then some y else some x := rfl
theorem cmb_assoc (a b c : WY) : cmb (cmb a b) c = cmb a (cmb b c) := by
  cases a with
  | none => rfl
  | some x => cases b with
    | none => rfl
    | some y => cases c with
      | none => rw [cmb_nr, cmb_nr]
      | some z =>
        rw [cmb_ss, cmb_ss]
        by_cases h1 : y.1 < x.1
        · rw [if_pos h1, cmb_ss]
          by_cases h2 : z.1 < y.1
          · rw [if_pos h2, cmb_ss, if_pos (by omega)]
          · rw [if_neg h2, cmb_ss, if_pos h1]
        · rw [if_neg h1, cmb_ss]
          by_cases h2 : z.1 < y.1
          · rw [if_pos h2, cmb_ss]
          · rw [if_neg h2, cmb_ss, if_neg h1, if_neg (by omega)]
def fol (F : Nat → WY) : Nat → Nat → WY
  | 0, _ => none
  | d + 1, p => cmb (F p) (fol F d (p + 1))
def bst (P : Nat) (ok : Nat → (Nat → Nat) → Nat → Bool) (cost : (Nat → Nat) → Nat) : Nat → Nat → (Nat → Nat) → WY
  | 0, _, w => some (cost w, w)
  | m + 1, k, w => fol (fun p => if ok k w p = true then bst P ok cost m (k + 1) (fu w k p) else none) P 0
theorem odo {P n : Nat} {ok : Nat → (Nat → Nat) → Nat → Bool} {cost : (Nat → Nat) → Nat} {G : Nat → (Nat → Nat) → Int32 → WY → Prop} {BK : Nat → (Nat → Nat) → WY → Prop}
    (hb : ∀ k w p acc, k < n → p < P → G k w (nI p) acc → BK (k + 1) (fu w k p) acc)
    (h1 : ∀ k w acc, k < n → BK k w acc → G k w (nI P - 1) acc)
    (h2 : ∀ k w p acc, k < n → p < P → ¬ ok k w p = true → G k w (nI p) acc → G k w (nI p - 1) acc)
    (h3 : ∀ k w p acc, k + 1 < n → p < P → ok k w p = true → G (k + 1) (fu w k p) (-1) acc → G k w (nI p - 1) acc)
    (h4 : ∀ k w p acc, k + 1 = n → p < P → ok k w p = true → G k w (nI p) (cmb acc (some (cost (fu w k p), fu w k p))) → G k w (nI p - 1) acc) :
    ∀ (m k : Nat) (w : Nat → Nat), k + (m + 1) = n → ∀ (d p : Nat) (acc : WY), p + d = P → BK k w (cmb acc (fol (fun p => if ok k w p = true then bst P ok cost m (k + 1) (fu w k p) else none) d p)) → G k w (nI p - 1) acc := by
  intro m
  induction m with
  | zero =>
    intro k w hk d
    induction d with
    | zero =>
      intro p acc hp B
      have hp : p = P := by omega
      subst hp
      rw [fol, cmb_nr] at B
      exact h1 k w acc (by omega) B
    | succ d ih =>
      intro p acc hp B
      rw [fol, ← cmb_assoc] at B
      have g := ih (p + 1) _ (by omega) B
      rw [show nI (p + 1) - 1 = nI p from nI_pred p] at g
      by_cases o : ok k w p = true
      · rw [if_pos o] at g
        exact h4 k w p acc (by omega) (by omega) o g
      · rw [if_neg o, cmb_nr] at g
        exact h2 k w p acc (by omega) (by omega) o g
  | succ m ihm =>
    intro k w hk d
    induction d with
    | zero =>
      intro p acc hp B
      have hp : p = P := by omega
      subst hp
      rw [fol, cmb_nr] at B
      exact h1 k w acc (by omega) B
    | succ d ih =>
      intro p acc hp B
      rw [fol, ← cmb_assoc] at B
      have g := ih (p + 1) _ (by omega) B
      rw [show nI (p + 1) - 1 = nI p from nI_pred p] at g
      by_cases o : ok k w p = true
      · rw [if_pos o] at g
        refine h3 k w p acc (by omega) (by omega) o ?_
        exact ihm (k + 1) (fu w k p) (by omega) P 0 acc (by omega) (hb k w p _ (by omega) (by omega) g)
      · rw [if_neg o, cmb_nr] at g
        exact h2 k w p acc (by omega) (by omega) o g
theorem fol_none {F : Nat → WY} : ∀ (d p : Nat), fol F d p = none ↔ ∀ s, p ≤ s → s < p + d → F s = none
  | 0, p => ⟨fun _ s h1 h2 => absurd h2 (by omega), fun _ => rfl⟩
  | d + 1, p => by
    have ih := fol_none (F := F) d (p + 1)
    rw [fol]
    constructor
    · intro h s h1 h2
      cases e : F p with
      | none =>
        rw [e, cmb_nl] at h
        by_cases z : s = p
        · rw [z]; exact e
        · exact ih.mp h s (by omega) (by omega)
      | some x =>
        rw [e] at h
        cases e2 : fol F d (p + 1) with
        | none => rw [e2, cmb_nr] at h; cases h
        | some y =>
          rw [e2, cmb_ss] at h
          split at h <;> cases h
    · intro h
      rw [h p (by omega) (by omega), cmb_nl]
      exact ih.mpr (fun s h1 h2 => h s (by omega) (by omega))
theorem fol_some {F : Nat → WY} : ∀ (d p : Nat) {y : Nat × (Nat → Nat)}, fol F d p = some y → ∃ r, p ≤ r ∧ r < p + d ∧ F r = some y ∧ (∀ s z, p ≤ s → s < r → F s = some z → y.1 < z.1) ∧ ∀ s z, p ≤ s → s < p + d → F s = some z → y.1 ≤ z.1
  | 0, p, y, h => by cases h
  | d + 1, p, y, h => by
    rw [fol] at h
    cases e : F p with
    | none =>
      rw [e, cmb_nl] at h
      obtain ⟨r, r1, r2, r3, r4, r5⟩ := fol_some d (p + 1) h
      refine ⟨r, by omega, by omega, r3, fun s z h1 h2 h3 => ?_, fun s z h1 h2 h3 => ?_⟩
      · by_cases q : s = p
        · subst q; rw [e] at h3; cases h3
        · exact r4 s z (by omega) h2 h3
      · by_cases q : s = p
        · subst q; rw [e] at h3; cases h3
        · exact r5 s z (by omega) (by omega) h3
    | some x =>
      rw [e] at h
      cases e2 : fol F d (p + 1) with
      | none =>
        rw [e2, cmb_nr] at h
        have hx : x = y := Option.some.inj h
        subst hx
        have en := (fol_none d (p + 1)).mp e2
        refine ⟨p, by omega, by omega, e, fun s z h1 h2 => absurd h2 (by omega), fun s z h1 h2 h3 => ?_⟩
        by_cases q : s = p
        · subst q; rw [e] at h3; cases h3; omega
        · rw [en s (by omega) (by omega)] at h3; cases h3
      | some y' =>
        rw [e2, cmb_ss] at h
        obtain ⟨r, r1, r2, r3, r4, r5⟩ := fol_some d (p + 1) e2
        by_cases l : y'.1 < x.1
        · rw [if_pos l] at h
          have hx : y' = y := Option.some.inj h
          subst hx
          refine ⟨r, by omega, by omega, r3, fun s z h1 h2 h3 => ?_, fun s z h1 h2 h3 => ?_⟩
          · by_cases q : s = p
            · subst q; rw [e] at h3; cases h3; exact l
            · exact r4 s z (by omega) h2 h3
          · by_cases q : s = p
            · subst q; rw [e] at h3; cases h3; omega
            · exact r5 s z (by omega) (by omega) h3
        · rw [if_neg l] at h
          have hx : x = y := Option.some.inj h
          subst hx
          refine ⟨p, by omega, by omega, e, fun s z h1 h2 => absurd h2 (by omega), fun s z h1 h2 h3 => ?_⟩
          by_cases q : s = p
          · subst q; rw [e] at h3; cases h3; omega
          · have := r5 s z (by omega) (by omega) h3
            omega
def co (a : WY) : Option Nat := a.map (fun x => x.1)
theorem cmb_eqco {a b : WY} (h : co b = co a) : cmb a b = a := by
  cases a with
  | none => cases b with
    | none => rfl
    | some y => cases h
  | some x => cases b with
    | none => rfl
    | some y =>
      have : y.1 = x.1 := Option.some.inj h
      rw [cmb_ss, if_neg (by omega)]
theorem co_fol {F F' : Nat → WY} {P : Nat} (h1 : ∀ s, s < P → ∃ s', s' < P ∧ co (F' s') = co (F s)) (h2 : ∀ s, s < P → ∃ s', s' < P ∧ co (F s') = co (F' s)) : co (fol F' P 0) = co (fol F P 0) := by
  have cn : ∀ {a : WY}, co a = none → a = none := fun {a} h => by cases a with
    | none => rfl
    | some x => cases h
  have cs : ∀ {a : WY} {c : Nat}, co a = some c → ∃ y, a = some y ∧ y.1 = c := fun {a c} h => by cases a with
    | none => cases h
    | some x => exact ⟨x, rfl, Option.some.inj h⟩
  cases e : fol F P 0 with
  | none =>
    have en := (fol_none P 0).mp e
    have : fol F' P 0 = none := (fol_none P 0).mpr (fun s _ hs => by
      obtain ⟨s', q1, q2⟩ := h2 s (by omega)
      rw [en s' (by omega) (by omega)] at q2
      exact cn q2.symm)
    rw [this]
  | some y =>
    obtain ⟨r, -, r2, r3, -, r5⟩ := fol_some P 0 e
    obtain ⟨r', q1, q2⟩ := h1 r (by omega)
    rw [r3] at q2
    obtain ⟨z, z1, z2⟩ := cs (c := y.1) q2
    cases e' : fol F' P 0 with
    | none =>
      have en := (fol_none P 0).mp e' r' (by omega) (by omega)
      rw [z1] at en; cases en
    | some y' =>
      obtain ⟨u, -, u2, u3, -, u5⟩ := fol_some P 0 e'
      have le1 := u5 r' z (by omega) (by omega) z1
      obtain ⟨u', v1, v2⟩ := h2 u (by omega)
      rw [u3] at v2
      obtain ⟨z', x1, x2⟩ := cs (c := y'.1) v2
      have le2 := r5 u' z' (by omega) (by omega) x1
      show some y'.1 = some y.1
      congr 1
      omega

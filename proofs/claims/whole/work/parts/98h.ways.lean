-- WAYS: pools apart, all ways and those with the first row named
/-- clashes of one with those ahead in the same pool -/
def cof (c : Nat → Nat → Nat) (w : Nat → Nat) (k p : Nat) : Nat → Nat
  | 0 => 0
  | j + 1 => cof c w k p j + (if w j = p then c k j else 0)
def pcs (c : Nat → Nat → Nat) (w : Nat → Nat) : Nat → Nat
  | 0 => 0
  | k + 1 => pcs c w k + cof c w k (w k) k
theorem cof_congr {c : Nat → Nat → Nat} {w w' : Nat → Nat} {k p : Nat} : ∀ j, (∀ i, i < j → w i = w' i) → cof c w k p j = cof c w' k p j := by
  intro j
  induction j with
  | zero => intro _; rfl
  | succ j ih =>
    intro h
    rw [cof, cof, ih (fun i hi => h i (by omega)), h j (by omega)]
theorem pcs_congr {c : Nat → Nat → Nat} {w w' : Nat → Nat} : ∀ k, (∀ i, i < k → w i = w' i) → pcs c w k = pcs c w' k := by
  intro k
  induction k with
  | zero => intro _; rfl
  | succ k ih =>
    intro h
    rw [pcs, pcs, ih (fun i hi => h i (by omega)), h k (by omega), cof_congr k (fun i hi => h i (by omega))]
theorem pcs_fu {c : Nat → Nat → Nat} {w : Nat → Nat} {k p : Nat} : pcs c (fu w k p) (k + 1) = pcs c w k + cof c w k p k := by
  rw [pcs, fu_s, pcs_congr k (w' := w) (fun i hi => fu_n _ _ (by omega)), cof_congr k (w' := w) (fun i hi => fu_n _ _ (by omega))]
theorem cof_le {c : Nat → Nat → Nat} (hc : ∀ k j, c k j ≤ 3) {w : Nat → Nat} {k p : Nat} : ∀ j, cof c w k p j ≤ 3 * j := by
  intro j
  induction j with
  | zero => exact Nat.zero_le _
  | succ j ih =>
    rw [cof]
    have := hc k j
    split <;> omega
theorem pcs_le {c : Nat → Nat → Nat} (hc : ∀ k j, c k j ≤ 3) {w : Nat → Nat} : ∀ k, k ≤ 12 → pcs c w k ≤ 36 * k := by
  intro k
  induction k with
  | zero => intro _; exact Nat.zero_le _
  | succ k ih =>
    intro h
    have := ih (by omega)
    have := cof_le hc (w := w) (k := k) (p := w k) k
    rw [pcs]; omega
def okf (P k : Nat) (w : Nat → Nat) (p : Nat) : Bool := decide (∀ j, j < k → k - k % P ≤ j → w j ≠ p)
def okr (P k : Nat) (w : Nat → Nat) (p : Nat) : Bool := if k < P then decide (p = k) else okf P k w p
theorem bst_lo {P n : Nat} {ok : Nat → (Nat → Nat) → Nat → Bool} {c : Nat → Nat → Nat} : ∀ (m k : Nat) (w : Nat → Nat) (y : Nat × (Nat → Nat)), k + m = n → bst P ok (fun w => pcs c w n) m k w = some y → pcs c w k ≤ y.1 := by
  intro m
  induction m with
  | zero =>
    intro k w y hk h
    have h := Option.some.inj h
    have hk : k = n := by omega
    rw [← h, hk]
    exact Nat.le_refl _
  | succ m ih =>
    intro k w y hk h
    have h : fol (fun p => if ok k w p = true then bst P ok (fun w => pcs c w n) m (k + 1) (fu w k p) else none) P 0 = some y := h
    obtain ⟨r, -, -, r3, -⟩ := fol_some _ _ h
    have r3 : (if ok k w r = true then bst P ok (fun w => pcs c w n) m (k + 1) (fu w k r) else none) = some y := r3
    split at r3
    · have := ih (k + 1) _ y (by omega) r3
      rw [pcs_fu] at this
      omega
    · cases r3
/-- other names of pools -/
theorem bst_sym {P n : Nat} {c : Nat → Nat → Nat} {g : Nat → Nat} (gg : ∀ x, g (g x) = x) (gP : ∀ x, x < P → g x < P) : ∀ (m k : Nat) (w : Nat → Nat), k + m = n → co (bst P (okf P) (fun w => pcs c w n) m k (fun i => g (w i))) = co (bst P (okf P) (fun w => pcs c w n) m k w) := by
  have gi : ∀ x y, g x = g y ↔ x = y := fun x y => ⟨fun h => by rw [← gg x, h, gg y], fun h => by rw [h]⟩
  have cg : ∀ (w : Nat → Nat) (k p j : Nat), cof c (fun i => g (w i)) k (g p) j = cof c w k p j := fun w k p j => by
    induction j with
    | zero => rfl
    | succ j ih =>
      rw [cof, cof, ih]
      by_cases q : w j = p
      · rw [if_pos ((gi _ _).mpr q), if_pos q]
      · rw [if_neg (fun z => q ((gi _ _).mp z)), if_neg q]
  have pg : ∀ (w : Nat → Nat) (k : Nat), pcs c (fun i => g (w i)) k = pcs c w k := fun w k => by
    induction k with
    | zero => rfl
    | succ k ih => rw [pcs, pcs, ih, cg]
  have og : ∀ (w : Nat → Nat) (k p : Nat), okf P k (fun i => g (w i)) (g p) = okf P k w p := fun w k p => by
    unfold okf
    congr 1
    apply propext
    constructor
    · intro h j h1 h2 z
      exact h j h1 h2 ((gi _ _).mpr z)
    · intro h j h1 h2 z
      exact h j h1 h2 ((gi _ _).mp z)
  intro m
  induction m with
  | zero =>
    intro k w _
    show some (pcs c (fun i => g (w i)) n) = some (pcs c w n)
    rw [pg]
  | succ m ih =>
    intro k w hk
    have fg : ∀ p, fu (fun i => g (w i)) k (g p) = fun i => g (fu w k p i) := fun p => by
      funext i
      by_cases q : i = k
      · rw [q, fu_s, fu_s]
      · rw [fu_n _ _ q, fu_n _ _ q]
    have one : ∀ p, co (if okf P k (fun i => g (w i)) (g p) = true then bst P (okf P) (fun w => pcs c w n) m (k + 1) (fu (fun i => g (w i)) k (g p)) else none) = co (if okf P k w p = true then bst P (okf P) (fun w => pcs c w n) m (k + 1) (fu w k p) else none) := fun p => by
      rw [og, fg]
      split
      · exact ih (k + 1) (fu w k p) (by omega)
      · rfl
    refine co_fol (F := fun p => if okf P k w p = true then bst P (okf P) (fun w => pcs c w n) m (k + 1) (fu w k p) else none) (F' := fun p => if okf P k (fun i => g (w i)) p = true then bst P (okf P) (fun w => pcs c w n) m (k + 1) (fu (fun i => g (w i)) k p) else none) (fun s hs => ⟨g s, gP s hs, one s⟩) (fun s hs => ⟨g s, gP s hs, ?_⟩)
    have := one (g s)
    rw [gg] at this
    exact this.symm
def swp (a b x : Nat) : Nat := if x = a then b else if x = b then a else x
theorem swp_swp (a b x : Nat) : swp a b (swp a b x) = x := by
  unfold swp
  by_cases h1 : x = a
  · rw [if_pos h1]
    by_cases h2 : b = a
    · rw [if_pos h2]; omega
    · rw [if_neg h2, if_pos rfl]; omega
  · rw [if_neg h1]
    by_cases h2 : x = b
    · rw [if_pos h2, if_pos rfl]; omega
    · rw [if_neg h2, if_neg h1, if_neg h2]
theorem swp_lt {a b P x : Nat} (ha : a < P) (hb : b < P) (hx : x < P) : swp a b x < P := by
  unfold swp
  split
  · exact hb
  · split
    · exact ha
    · exact hx
/-- the first of those that cost the same -/
theorem fol_same {F : Nat → WY} {P k : Nat} (hk : k < P) (h0 : ∀ s, s < k → F s = none) (h1 : ∀ s, k ≤ s → s < P → co (F s) = co (F k)) : fol F P 0 = F k := by
  have tail : ∀ d p, k < p → p + d = P → (fol F d p = none ∨ co (fol F d p) = co (F k)) := by
    intro d
    induction d with
    | zero => intro p _ _; exact Or.inl rfl
    | succ d ih =>
      intro p h2 h3
      rw [fol]
      rcases ih (p + 1) (by omega) (by omega) with z | z
      · rw [z, cmb_nr]; exact Or.inr (h1 p (by omega) (by omega))
      · rw [cmb_eqco (z.trans (h1 p (by omega) (by omega)).symm)]; exact Or.inr (h1 p (by omega) (by omega))
  have head : ∀ d p, p ≤ k → p + d = P → fol F d p = F k := by
    intro d
    induction d with
    | zero => intro p h2 h3; omega
    | succ d ih =>
      intro p h2 h3
      rw [fol]
      by_cases q : p = k
      · rw [q]
        rcases tail d (k + 1) (by omega) (by omega) with z | z
        · rw [z, cmb_nr]
        · exact cmb_eqco z
      · rw [h0 p (by omega), cmb_nl]
        exact ih (p + 1) (by omega) (by omega)
  exact head P 0 (by omega) (by omega)
/-- nothing named yet beyond k, and 0, 1, 2 before -/
def w99 (k : Nat) : Nat → Nat := fun i => if i < k then i else 99
theorem w99_s {k : Nat} : fu (w99 k) k k = w99 (k + 1) := by
  funext i
  unfold w99
  by_cases q : i = k
  · rw [q, fu_s, if_pos (by omega)]
  · rw [fu_n _ _ q]
    by_cases q2 : i < k
    · rw [if_pos q2, if_pos (by omega)]
    · rw [if_neg q2, if_neg (by omega)]
theorem bst_ok {P : Nat} {ok ok' : Nat → (Nat → Nat) → Nat → Bool} {cost : (Nat → Nat) → Nat} : ∀ (m k : Nat) (w : Nat → Nat), (∀ j w p, k ≤ j → ok j w p = ok' j w p) → bst P ok cost m k w = bst P ok' cost m k w := by
  intro m
  induction m with
  | zero => intro k w _; rfl
  | succ m ih =>
    intro k w h
    show fol _ P 0 = fol _ P 0
    congr 1
    funext p
    rw [h k w p (Nat.le_refl k), ih (k + 1) (fu w k p) (fun j w p hj => h j w p (by omega))]
theorem bst_same {P n : Nat} {c : Nat → Nat → Nat} (hP : P ≤ 3) : ∀ (m k : Nat), k + m = n → k ≤ P → bst P (okr P) (fun w => pcs c w n) m k (w99 k) = bst P (okf P) (fun w => pcs c w n) m k (w99 k) := by
  intro m
  induction m with
  | zero => intro k _ _; rfl
  | succ m ih =>
    intro k hk hkP
    by_cases q : k = P
    · refine bst_ok (m + 1) k (w99 k) (fun j w p hj => ?_)
      unfold okr
      rw [if_neg (by omega)]
    · have hkP : k < P := by omega
      have md : k - k % P = 0 := by rw [Nat.mod_eq_of_lt hkP]; omega
      have okk : okf P k (w99 k) k = true := by
        unfold okf
        rw [decide_eq_true_eq]
        intro j h1 _ z
        unfold w99 at z
        rw [if_pos h1] at z
        omega
      have e1 : bst P (okr P) (fun w => pcs c w n) (m + 1) k (w99 k) = bst P (okr P) (fun w => pcs c w n) m (k + 1) (w99 (k + 1)) := by
        show fol (fun p => if okr P k (w99 k) p = true then bst P (okr P) (fun w => pcs c w n) m (k + 1) (fu (w99 k) k p) else none) P 0 = _
        have ne : ∀ s, s ≠ k → ¬ okr P k (w99 k) s = true := fun s hs z => by
          unfold okr at z
          rw [if_pos hkP, decide_eq_true_eq] at z
          exact hs z
        have eq : okr P k (w99 k) k = true := by
          unfold okr
          rw [if_pos hkP]
          exact decide_eq_true rfl
        have head : ∀ d p, p ≤ k → p + d = P → fol (fun p => if okr P k (w99 k) p = true then bst P (okr P) (fun w => pcs c w n) m (k + 1) (fu (w99 k) k p) else none) d p = bst P (okr P) (fun w => pcs c w n) m (k + 1) (w99 (k + 1)) := by
          intro d
          induction d with
          | zero => intro p _ _; omega
          | succ d ihd =>
            intro p h2 h3
            rw [fol]
            by_cases qq : p = k
            · rw [qq, if_pos eq, w99_s, (fol_none d (k + 1)).mpr (fun s h4 h5 => if_neg (ne s (by omega))), cmb_nr]
            · rw [if_neg (ne p qq), cmb_nl]
              exact ihd (p + 1) (by omega) (by omega)
        exact head P 0 (by omega) (by omega)
      have e2 : bst P (okf P) (fun w => pcs c w n) (m + 1) k (w99 k) = bst P (okf P) (fun w => pcs c w n) m (k + 1) (w99 (k + 1)) := by
        show fol (fun p => if okf P k (w99 k) p = true then bst P (okf P) (fun w => pcs c w n) m (k + 1) (fu (w99 k) k p) else none) P 0 = _
        rw [fol_same (k := k) hkP]
        · rw [if_pos okk, w99_s]
        · intro s hs
          rw [if_neg]
          unfold okf
          rw [decide_eq_true_eq]
          intro z
          refine z s hs (by omega) ?_
          unfold w99
          rw [if_pos hs]
        · intro s h1 h2
          have oks : okf P k (w99 k) s = true := by
            unfold okf
            rw [decide_eq_true_eq]
            intro j h3 _ z
            unfold w99 at z
            rw [if_pos h3] at z
            omega
          rw [if_pos oks, if_pos okk]
          have := bst_sym (c := c) (P := P) (n := n) (g := swp k s) (swp_swp k s) (fun x hx => swp_lt hkP h2 hx) m (k + 1) (fu (w99 k) k k) (by omega)
          rw [← this]
          congr 2
          funext i
          unfold swp
          by_cases q1 : i = k
          · rw [q1, fu_s, fu_s, if_pos rfl]
          · rw [fu_n _ _ q1, fu_n _ _ q1]
            unfold w99
            by_cases q2 : i < k
            · rw [if_pos q2, if_neg (by omega), if_neg (by omega)]
            · rw [if_neg q2, if_neg (by omega), if_neg (by omega)]
      rw [e1, e2]
      exact ih (k + 1) (by omega) (by omega)

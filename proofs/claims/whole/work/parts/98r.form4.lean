-- FORMULA 4: levels of the class beside the reference's steps
def bop (c : Int32) (a b : Int64) : Int64 := if c = 3 then a * b else if c = 4 then (if b = 0 then 0 else a / b) else if c = 5 then a + b else a - b
def rstep (c : Int32) (v : Int64) (s : Nat × (Nat → Int64)) : Nat × (Nat → Int64) := if c = 0 ∨ c = 1 then (s.1 + 1, vp_updL s.2 s.1 v) else if c = 2 then (s.1, vp_updL s.2 (s.1 - 1) (-s.2 (s.1 - 1))) else (s.1 - 1, vp_updL s.2 (s.1 - 2) (bop c (s.2 (s.1 - 2)) (s.2 (s.1 - 1))))
def opv (nm : Int32 → Int64) (c a : Int32) : Int64 := if c = 0 then a.toInt64 else nm a
/-- the value row when k steps are done -/
def rpn (nm : Int32 → Int64) (st wj : Nat → Int32) (V0 : Nat → Int64) : Nat → Nat × (Nat → Int64)
  | 0 => (0, V0)
  | k + 1 => rstep (st k) (opv nm (st k) (wj k)) (rpn nm st wj V0 k)
theorem rpn_congr {nm : Int32 → Int64} {st wj st' wj' : Nat → Int32} {V0 : Nat → Int64} : ∀ k, (∀ i, i < k → st i = st' i ∧ wj i = wj' i) → rpn nm st wj V0 k = rpn nm st' wj' V0 k := by
  intro k
  induction k with
  | zero => intro _; rfl
  | succ k ih =>
    intro h
    rw [rpn, rpn, ih (fun i hi => h i (by omega)), (h k (by omega)).1, (h k (by omega)).2]
/-- one step answers alike on rows that are alike below -/
def vld (c : Int32) (nv : Nat) : Prop := ((c = 0 ∨ c = 1) ∧ nv < 60) ∨ (c = 2 ∧ 1 ≤ nv) ∨ (¬ (c = 0 ∨ c = 1) ∧ ¬ c = 2 ∧ 2 ≤ nv)
def VLD (nm : Int32 → Int64) (st wj : Nat → Int32) (V0 : Nat → Int64) (ns : Nat) : Prop := ∀ j, j < ns → vld (st j) (rpn nm st wj V0 j).1
def RPV (nm : Int32 → Int64) (st wj : Nat → Int32) (V0 : Nat → Int64) (ns nv : Nat) (V : Nat → Int64) : Prop := (rpn nm st wj V0 ns).1 = nv ∧ (∀ i, i < nv → (rpn nm st wj V0 ns).2 i = V i) ∧ VLD nm st wj V0 ns
theorem rpn_le {nm : Int32 → Int64} {st wj : Nat → Int32} {V0 : Nat → Int64} : ∀ k, (rpn nm st wj V0 k).1 ≤ k := by
  intro k
  induction k with
  | zero => exact Nat.le_refl 0
  | succ k ih =>
    rw [rpn]
    unfold rstep
    split
    · show (rpn nm st wj V0 k).1 + 1 ≤ k + 1
      omega
    · split
      · show (rpn nm st wj V0 k).1 ≤ k + 1
        omega
      · show (rpn nm st wj V0 k).1 - 1 ≤ k + 1
        omega
theorem VLD.app {nm : Int32 → Int64} {st wj : Nat → Int32} {V0 : Nat → Int64} {ns : Nat} (h : VLD nm st wj V0 ns) {c a : Int32} (hc : vld c (rpn nm st wj V0 ns).1) : VLD nm (upd st ns c) (upd wj ns a) V0 (ns + 1) := by
  intro j hj
  have e : rpn nm (upd st ns c) (upd wj ns a) V0 j = rpn nm st wj V0 j := rpn_congr j (fun i hi => ⟨upd_ne (by omega), upd_ne (by omega)⟩)
  rw [e]
  by_cases q : j = ns
  · rw [q, upd_eq]; exact hc
  · rw [upd_ne q]; exact h j (by omega)
section RPS
variable {nm : Int32 → Int64} {st wj : Nat → Int32} {V0 V : Nat → Int64} {ns nv : Nat}
theorem rpn_app {c a : Int32} : rpn nm (upd st ns c) (upd wj ns a) V0 (ns + 1) = rstep c (opv nm c a) (rpn nm st wj V0 ns) := by
  rw [rpn, upd_eq, upd_eq, rpn_congr (st' := st) (wj' := wj) ns (fun i hi => ⟨upd_ne (by omega), upd_ne (by omega)⟩)]
theorem RPV.unit (h : RPV nm st wj V0 ns nv V) (hns : ns < 60) {c a : Int32} (hc : c = 0 ∨ c = 1) : RPV nm (upd st ns c) (upd wj ns a) V0 (ns + 1) (nv + 1) (vp_updL V nv (opv nm c a)) := by
  obtain ⟨h1, h2, h3⟩ := h
  have le := rpn_le (nm := nm) (st := st) (wj := wj) (V0 := V0) ns
  have h3 := fun c a hc => h3.app (c := c) (a := a) hc
  unfold RPV
  rw [rpn_app]
  unfold rstep
  rw [if_pos hc, h1]
  refine ⟨rfl, fun i hi => ?_, h3 _ _ (Or.inl ⟨hc, by omega⟩)⟩
  dsimp only
  by_cases q : i = nv
  · rw [q, updL_eq, updL_eq]
  · rw [updL_ne q, updL_ne q]; exact h2 i (by omega)
theorem RPV.neg (h : RPV nm st wj V0 ns (nv + 1) V) : RPV nm (upd st ns 2) (upd wj ns 0) V0 (ns + 1) (nv + 1) (vp_updL V nv (-V nv)) := by
  obtain ⟨h1, h2, h3⟩ := h
  have le := rpn_le (nm := nm) (st := st) (wj := wj) (V0 := V0) ns
  have h3 := fun c a hc => h3.app (c := c) (a := a) hc
  unfold RPV
  rw [rpn_app]
  unfold rstep
  rw [if_neg (by decide), if_pos rfl, h1, Nat.add_sub_cancel, h2 nv (by omega)]
  refine ⟨rfl, fun i hi => ?_, h3 _ _ (Or.inr (Or.inl ⟨rfl, by omega⟩))⟩
  dsimp only
  by_cases q : i = nv
  · rw [q, updL_eq, updL_eq]
  · rw [updL_ne q, updL_ne q]; exact h2 i (by omega)
theorem RPV.bin (h : RPV nm st wj V0 ns (nv + 2) V) {c : Int32} (c0 : ¬ (c = 0 ∨ c = 1)) (c2 : ¬ c = 2) : RPV nm (upd st ns c) (upd wj ns 0) V0 (ns + 1) (nv + 1) (vp_updL V nv (bop c (V nv) (V (nv + 1)))) := by
  obtain ⟨h1, h2, h3⟩ := h
  have le := rpn_le (nm := nm) (st := st) (wj := wj) (V0 := V0) ns
  have h3 := fun c a hc => h3.app (c := c) (a := a) hc
  unfold RPV
  rw [rpn_app]
  unfold rstep
  rw [if_neg c0, if_neg c2, h1, show nv + 2 - 2 = nv by omega, show nv + 2 - 1 = nv + 1 by omega, h2 nv (by omega), h2 (nv + 1) (by omega)]
  refine ⟨rfl, fun i hi => ?_, h3 _ _ (Or.inr (Or.inr ⟨c0, c2, by omega⟩))⟩
  dsimp only
  by_cases q : i = nv
  · rw [q, updL_eq, updL_eq]
  · rw [updL_ne q, updL_ne q]; exact h2 i (by omega)
end RPS
/-- the closed terms of a level, its joint, its minuses -/
def clo (x : LVS) (W : Nat → Int32) (V : Nat → Int64) (l nw0 nv0 nw2 nv2 : Nat) : Prop := (x.1 l = 0 ∧ x.2.2.1 l = 0 ∧ nw2 = nw0 ∧ nv2 = nv0) ∨ (V nv0 = x.1 l ∧ nv2 = nv0 + 1 ∧ nw2 = nw0 + 1 ∧ ((W nw0 = 5 ∧ x.2.2.1 l = 0) ∨ (W nw0 = 6 ∧ x.2.2.1 l = 1)))
def joi (x : LVS) (W : Nat → Int32) (V : Nat → Int64) (l nw2 nv2 nw3 nv3 : Nat) : Prop := (x.2.2.2.2 l = 0 ∧ nw3 = nw2 ∧ nv3 = nv2) ∨ (V nv2 = x.2.1 l ∧ nv3 = nv2 + 1 ∧ nw3 = nw2 + 1 ∧ ((W nw2 = 3 ∧ x.2.2.2.2 l = 42) ∨ (W nw2 = 4 ∧ x.2.2.2.2 l = 47)))
def mns (x : LVS) (W : Nat → Int32) (l nw3 nw : Nat) : Prop := ∃ k, nw = nw3 + k ∧ (∀ i, i < k → W (nw3 + i) = 2) ∧ x.2.2.2.1 l = nI (k % 2)
def WLP (x : LVS) (W : Nat → Int32) (V : Nat → Int64) (l nw0 nv0 nw nv : Nat) : Prop := ∃ nw2 nv2 nw3, clo x W V l nw0 nv0 nw2 nv2 ∧ joi x W V l nw2 nv2 nw3 nv ∧ mns x W l nw3 nw
def WLS (x : LVS) (W : Nat → Int32) (V : Nat → Int64) : Nat → Nat → Nat → Prop
  | 0, nw, nv => WLP x W V 0 0 0 nw nv
  | l + 1, nw, nv => ∃ nw1 nv0, WLS x W V l nw1 nv0 ∧ W nw1 = 7 ∧ WLP x W V (l + 1) (nw1 + 1) nv0 nw nv
/-- what lies below level l -/
def BLS (x : LVS) (W : Nat → Int32) (V : Nat → Int64) (l nw0 nv0 : Nat) : Prop := (l = 0 ∧ nw0 = 0 ∧ nv0 = 0) ∨ ∃ m nw1, l = m + 1 ∧ nw0 = nw1 + 1 ∧ W nw1 = 7 ∧ WLS x W V m nw1 nv0
theorem WLS_iff {x : LVS} {W : Nat → Int32} {V : Nat → Int64} {l nw nv : Nat} : WLS x W V l nw nv ↔ ∃ nw0 nv0, BLS x W V l nw0 nv0 ∧ WLP x W V l nw0 nv0 nw nv := by
  constructor
  · intro h
    cases l with
    | zero => exact ⟨0, 0, Or.inl ⟨rfl, rfl, rfl⟩, h⟩
    | succ l =>
      obtain ⟨nw1, nv0, h1, h2, h3⟩ := h
      exact ⟨nw1 + 1, nv0, Or.inr ⟨l, nw1, rfl, rfl, h2, h1⟩, h3⟩
  · rintro ⟨nw0, nv0, (⟨rfl, rfl, rfl⟩ | ⟨m, nw1, rfl, rfl, h1, h2⟩), h3⟩
    · exact h3
    · exact ⟨nw1, nv0, h2, h1, h3⟩
def EQL (x x' : LVS) (l : Nat) : Prop := x'.1 l = x.1 l ∧ x'.2.1 l = x.2.1 l ∧ x'.2.2.1 l = x.2.2.1 l ∧ x'.2.2.2.1 l = x.2.2.2.1 l ∧ x'.2.2.2.2 l = x.2.2.2.2 l
theorem clo.congr {x x' : LVS} {W W' : Nat → Int32} {V V' : Nat → Int64} {l nw0 nv0 nw2 nv2 : Nat} (h : clo x W V l nw0 nv0 nw2 nv2) (e : EQL x x' l) (hW : ∀ i, i < nw2 → W' i = W i) (hV : ∀ i, i < nv2 → V' i = V i) : clo x' W' V' l nw0 nv0 nw2 nv2 := by
  obtain ⟨e1, e2, e3, e4, e5⟩ := e
  rcases h with ⟨a, b, c, d⟩ | ⟨a, b, c, d⟩
  · exact Or.inl ⟨by rw [e1]; exact a, by rw [e3]; exact b, c, d⟩
  · refine Or.inr ⟨by rw [hV _ (by omega), e1]; exact a, b, c, ?_⟩
    rw [hW _ (by omega), e3]
    exact d
theorem joi.congr {x x' : LVS} {W W' : Nat → Int32} {V V' : Nat → Int64} {l nw2 nv2 nw3 nv3 : Nat} (h : joi x W V l nw2 nv2 nw3 nv3) (e : EQL x x' l) (hW : ∀ i, i < nw3 → W' i = W i) (hV : ∀ i, i < nv3 → V' i = V i) : joi x' W' V' l nw2 nv2 nw3 nv3 := by
  obtain ⟨e1, e2, e3, e4, e5⟩ := e
  rcases h with ⟨a, b, c⟩ | ⟨a, b, c, d⟩
  · exact Or.inl ⟨by rw [e5]; exact a, b, c⟩
  · refine Or.inr ⟨by rw [hV _ (by omega), e2]; exact a, b, c, ?_⟩
    rw [hW _ (by omega), e5]
    exact d
theorem clo.le {x : LVS} {W : Nat → Int32} {V : Nat → Int64} {l nw0 nv0 nw2 nv2 : Nat} (h : clo x W V l nw0 nv0 nw2 nv2) : nw0 ≤ nw2 ∧ nv0 ≤ nv2 := by
  rcases h with ⟨a, b, c, d⟩ | ⟨a, b, c, d⟩ <;> omega
theorem joi.le {x : LVS} {W : Nat → Int32} {V : Nat → Int64} {l nw2 nv2 nw3 nv3 : Nat} (h : joi x W V l nw2 nv2 nw3 nv3) : nw2 ≤ nw3 ∧ nv2 ≤ nv3 := by
  rcases h with ⟨a, b, c⟩ | ⟨a, b, c, d⟩ <;> omega
theorem WLP.le {x : LVS} {W : Nat → Int32} {V : Nat → Int64} {l nw0 nv0 nw nv : Nat} (h : WLP x W V l nw0 nv0 nw nv) : nw0 ≤ nw ∧ nv0 ≤ nv := by
  obtain ⟨nw2, nv2, nw3, h1, h2, k, h3, -⟩ := h
  have := h1.le
  have := h2.le
  omega
theorem WLP.congr {x x' : LVS} {W W' : Nat → Int32} {V V' : Nat → Int64} {l nw0 nv0 nw nv : Nat} (h : WLP x W V l nw0 nv0 nw nv) (e : EQL x x' l) (hW : ∀ i, i < nw → W' i = W i) (hV : ∀ i, i < nv → V' i = V i) : WLP x' W' V' l nw0 nv0 nw nv := by
  obtain ⟨nw2, nv2, nw3, h1, h2, k, h3, h4, h5⟩ := h
  have a := h1.le
  have b := h2.le
  exact ⟨nw2, nv2, nw3, h1.congr e (fun i hi => hW i (by omega)) (fun i hi => hV i (by omega)), h2.congr e (fun i hi => hW i (by omega)) (fun i hi => hV i (by omega)), k, h3, fun i hi => by rw [hW _ (by omega)]; exact h4 i hi, by rw [e.2.2.2.1]; exact h5⟩
theorem WLS.congr {x x' : LVS} {W W' : Nat → Int32} {V V' : Nat → Int64} : ∀ (l nw nv : Nat), WLS x W V l nw nv → (∀ k, k ≤ l → EQL x x' k) → (∀ i, i < nw → W' i = W i) → (∀ i, i < nv → V' i = V i) → WLS x' W' V' l nw nv := by
  intro l
  induction l with
  | zero => intro nw nv h e hW hV; exact WLP.congr h (e 0 (Nat.le_refl 0)) hW hV
  | succ l ih =>
    intro nw nv h e hW hV
    obtain ⟨nw1, nv0, h1, h2, h3⟩ := h
    have le := h3.le
    exact ⟨nw1, nv0, ih nw1 nv0 h1 (fun k hk => e k (by omega)) (fun i hi => hW i (by omega)) (fun i hi => hV i (by omega)), by rw [hW _ (by omega)]; exact h2, WLP.congr h3 (e (l + 1) (Nat.le_refl _)) hW hV⟩
theorem BLS.congr {x x' : LVS} {W W' : Nat → Int32} {V V' : Nat → Int64} {l nw0 nv0 : Nat} (h : BLS x W V l nw0 nv0) (e : ∀ k, k < l → EQL x x' k) (hW : ∀ i, i < nw0 → W' i = W i) (hV : ∀ i, i < nv0 → V' i = V i) : BLS x' W' V' l nw0 nv0 := by
  rcases h with h | ⟨m, nw1, h1, h2, h3, h4⟩
  · exact Or.inl h
  · exact Or.inr ⟨m, nw1, h1, h2, by rw [hW _ (by omega)]; exact h3, h4.congr m _ _ (fun k hk => e k (by omega)) (fun i hi => hW i (by omega)) hV⟩
/-- behind a unit -/
def ULS (x : LVS) (W : Nat → Int32) (V : Nat → Int64) (l nw nv : Nat) : Prop := ∃ nw0 nv0 nw2 nv2, BLS x W V l nw0 nv0 ∧ clo x W V l nw0 nv0 nw2 nv2 ∧ x.2.2.2.1 l = 0 ∧ ((nw = nw2 ∧ nv = nv2 + 1 ∧ V nv2 = x.2.1 l) ∨ (nw = nw2 + 1 ∧ nv = nv2 + 2 ∧ (W nw2 = 3 ∨ W nw2 = 4) ∧ bop (W nw2) (V nv2) (V (nv2 + 1)) = x.2.1 l))
section SET
variable {X : MX} {B : MH} {Z : Nat → Int32} {nm : Int32 → Int64} {W : Nat → Int32} {V0 : Nat → Int64} {x : LVS}
theorem set_stop {nw : Nat} {t sp : Int32} {st wj : Nat → Int32} (hw : nw ≤ 60) (h : nw = 0 ∨ ∃ m, nw = m + 1 ∧ hld (W m) < t) : (ev X 195 0 [.ref 55, .int t] [] (RMH B Z sp (nI nw) st wj W)) = some (none, (RMH B Z sp (nI nw) st wj W)) := by
  rcases h with rfl | ⟨m, rfl, h⟩
  · exact m_set_0
  · exact m_set_stop (by omega) h
theorem set3 {nw3 nv : Nat} (hst : nw3 = 0 ∨ ∃ m, nw3 = m + 1 ∧ hld (W m) < 3) : ∀ (k ns : Nat) (st wj : Nat → Int32) (V : Nat → Int64), (∀ i, i < k → W (nw3 + i) = 2) → ns + k ≤ 60 → nw3 + k ≤ 60 → RPV nm st wj V0 ns (nv + 1) V → ∃ st' wj' V', (ev X 195 0 [.ref 55, .int 3] [] (RMH B Z (nI ns) (nI (nw3 + k)) st wj W)) = some (none, (RMH B Z (nI (ns + k)) (nI nw3) st' wj' W)) ∧ RPV nm st' wj' V0 (ns + k) (nv + 1) V' ∧ V' nv = (if k % 2 = 0 then V nv else -V nv) ∧ ∀ i, i < nv → V' i = V i := by
  intro k
  induction k with
  | zero =>
    intro ns st wj V _ h1 h2 R
    exact ⟨st, wj, V, set_stop (by omega) hst, R, by rw [if_pos (by decide)], fun _ _ => rfl⟩
  | succ k ih =>
    intro ns st wj V hm h1 h2 R
    have top : W (nw3 + k) = 2 := hm k (by omega)
    have step := m_set_step (X := X) (B := B) (Z := Z) (st := st) (wj := wj) (ww := W) (ns := ns) (nw := nw3 + k) (by omega) (by omega) (t := 3) (by rw [top]; decide)
    rw [top] at step
    obtain ⟨st', wj', V', e1, R', v1, v2⟩ := ih (ns + 1) (upd st ns 2) (upd wj ns 0) (vp_updL V nv (-V nv)) (fun i hi => hm i (by omega)) (by omega) (by omega) R.neg
    rw [show ns + 1 + k = ns + (k + 1) by omega] at e1 R'
    refine ⟨st', wj', V', ?_, R', ?_, fun i hi => by rw [v2 i hi, updL_ne (by omega)]⟩
    · rw [show nw3 + (k + 1) = nw3 + k + 1 by omega, step]
      exact e1
    · rw [v1, updL_eq]
      by_cases p : k % 2 = 0
      · rw [if_pos p, if_neg (by omega)]
      · rw [if_neg p, if_pos (by omega), Int64.neg_neg]
theorem BLS_stop {V : Nat → Int64} {l nw0 nv0 : Nat} (h : BLS x W V l nw0 nv0) {t : Int32} (ht : 0 < t) : nw0 = 0 ∨ ∃ m, nw0 = m + 1 ∧ hld (W m) < t := by
  rcases h with h | ⟨m, nw1, h1, h2, h3, h4⟩
  · exact Or.inl h.2.1
  · exact Or.inr ⟨nw1, h2, by rw [h3]; exact ht⟩
theorem clo_stop {V : Nat → Int64} {l nw0 nv0 nw2 nv2 : Nat} (hb : BLS x W V l nw0 nv0) (h : clo x W V l nw0 nv0 nw2 nv2) {t : Int32} (ht : 1 < t) (ht0 : 0 < t) : nw2 = 0 ∨ ∃ m, nw2 = m + 1 ∧ hld (W m) < t := by
  rcases h with ⟨a, b, c, d⟩ | ⟨a, b, c, d⟩
  · rw [c]; exact BLS_stop hb ht0
  · refine Or.inr ⟨nw0, c, ?_⟩
    rcases d with ⟨d, -⟩ | ⟨d, -⟩
    · rw [d]; exact ht
    · rw [d]; exact ht
/-- a unit is told: its minuses settle -/
theorem T_unit {d nw nv ns : Nat} {u : Int64} {st wj : Nat → Int32} {V V1 : Nat → Int64} (h : WLS x W V d nw nv) (hV : ∀ i, i < nv → V1 i = V i) (hu : V1 nv = u) (R : RPV nm st wj V0 ns (nv + 1) V1) (hn : ns + nw ≤ 60) : ∃ ns' nw' st' wj' V', (ev X 195 0 [.ref 55, .int 3] [] (RMH B Z (nI ns) (nI nw) st wj W)) = some (none, (RMH B Z (nI ns') (nI nw') st' wj' W)) ∧ RPV nm st' wj' V0 ns' (nv + 1) V' ∧ ULS (cuU x d u) W V' d nw' (nv + 1) ∧ ns' + nw' = ns + nw := by
  obtain ⟨nw0, nv0, hb, nw2, nv2, nw3, h1, h2, k, h3, h4, h5⟩ := WLS_iff.mp h
  have le1 := h1.le
  have le2 := h2.le
  have stop : nw3 = 0 ∨ ∃ m, nw3 = m + 1 ∧ hld (W m) < 3 := by
    rcases h2 with ⟨a, b, c⟩ | ⟨a, b, c, e⟩
    · rw [b]; exact clo_stop hb h1 (by decide) (by decide)
    · refine Or.inr ⟨nw2, c, ?_⟩
      rcases e with ⟨e, -⟩ | ⟨e, -⟩
      · rw [e]; decide
      · rw [e]; decide
  obtain ⟨st', wj', V', e1, R', v1, v2⟩ := set3 (X := X) (B := B) (Z := Z) (nm := nm) (V0 := V0) (nv := nv) stop k ns st wj V1 h4 (by omega) (by omega) R
  rw [← h3] at e1
  have vv : ∀ i, i < nv → V' i = V i := fun i hi => by rw [v2 i hi, hV i hi]
  have vu : V' nv = uOf x d u := by
    rw [v1, hu]
    unfold uOf
    rw [h5]
    rcases (by omega : k % 2 = 0 ∨ k % 2 = 1) with z | z
    · rw [z, if_pos rfl, if_pos (by decide)]
    · rw [z, if_neg (by decide), if_neg (by decide)]
  refine ⟨ns + k, nw3, st', wj', V', e1, R', ⟨nw0, nv0, nw2, nv2, ?_, ?_, ?_, ?_⟩, by omega⟩
  · refine hb.congr (fun j hj => ?_) (fun i hi => rfl) (fun i hi => vv i (by omega))
    unfold cuU
    exact ⟨rfl, updL_ne (by omega), rfl, upd_ne (by omega), rfl⟩
  · rcases h1 with ⟨a, b, c, e⟩ | ⟨a, b, c, e⟩
    · exact Or.inl ⟨a, b, c, e⟩
    · exact Or.inr ⟨by rw [vv _ (by omega)]; exact a, b, c, e⟩
  · unfold cuU; exact upd_eq
  · have pd : (cuU x d u).2.1 d = jnd (x.2.2.2.2 d) (x.2.1 d) (uOf x d u) := by unfold cuU; exact updL_eq
    rw [pd]
    rcases h2 with ⟨a, b, c⟩ | ⟨a, b, c, e⟩
    · refine Or.inl ⟨b, by omega, ?_⟩
      rw [a, ← c, vu]
      unfold jnd
      rw [if_neg (by decide), if_neg (by decide)]
    · refine Or.inr ⟨c, by omega, ?_, ?_⟩
      · rcases e with ⟨e, -⟩ | ⟨e, -⟩
        · exact Or.inl e
        · exact Or.inr e
      · rw [vv nv2 (by omega), a, ← b, vu]
        unfold jnd bop
        rcases e with ⟨e, f⟩ | ⟨e, f⟩
        · rw [e, f, if_pos rfl, if_pos rfl]
        · have n1 : ¬ (4 : Int32) = 3 := by decide
          have n2 : ¬ (47 : Int32) = 42 := by decide
          have y1 : ((4 : Int32) = 4) = True := eq_true rfl
          have y2 : ((47 : Int32) = 47) = True := eq_true rfl
          rw [e, f, if_neg n1, if_neg n2]
          simp only [y1, y2, if_true]
/-- a joint settles -/
theorem S_joint {d nw nv ns : Nat} {st wj : Nat → Int32} {V : Nat → Int64} (h : ULS x W V d nw nv) (R : RPV nm st wj V0 ns nv V) (hn : ns + nw ≤ 60) {t : Int32} (ht : ¬ (2 : Int32) < t) : ∃ nw0 nv0 nw2 nv2 ns' st' wj' V', BLS x W V' d nw0 nv0 ∧ clo x W V' d nw0 nv0 nw2 nv2 ∧ (ev X 195 0 [.ref 55, .int t] [] (RMH B Z (nI ns) (nI nw) st wj W)) = (ev X 195 0 [.ref 55, .int t] [] (RMH B Z (nI ns') (nI nw2) st' wj' W)) ∧ RPV nm st' wj' V0 ns' (nv2 + 1) V' ∧ V' nv2 = x.2.1 d ∧ x.2.2.2.1 d = 0 ∧ ns' + nw2 = ns + nw := by
  obtain ⟨nw0, nv0, nw2, nv2, hb, hc, hg, hu⟩ := h
  have le := hc.le
  rcases hu with ⟨rfl, rfl, u3⟩ | ⟨rfl, rfl, u3, u4⟩
  · exact ⟨nw0, nv0, nw, nv2, ns, st, wj, V, hb, hc, rfl, R, u3, hg, rfl⟩
  · have hl : ¬ hld (W nw2) < t := by
      rcases u3 with z | z
      · rw [z]; exact ht
      · rw [z]; exact ht
    have step := m_set_step (X := X) (B := B) (Z := Z) (st := st) (wj := wj) (ww := W) (ns := ns) (nw := nw2) (by omega) (by omega) hl
    have R' := R.bin (c := W nw2) (by rcases u3 with z | z <;> rw [z] <;> decide) (by rcases u3 with z | z <;> rw [z] <;> decide)
    rw [u4] at R'
    refine ⟨nw0, nv0, nw2, nv2, ns + 1, _, _, _, ?_, ?_, step, R', updL_eq, hg, by omega⟩
    · exact hb.congr (fun j hj => ⟨rfl, rfl, rfl, rfl, rfl⟩) (fun _ _ => rfl) (fun i hi => updL_ne (by omega))
    · exact hc.congr ⟨rfl, rfl, rfl, rfl, rfl⟩ (fun _ _ => rfl) (fun i hi => updL_ne (by omega))
/-- a whole level settles -/
theorem S_all {d nw nv ns : Nat} {st wj : Nat → Int32} {V : Nat → Int64} (h : ULS x W V d nw nv) (R : RPV nm st wj V0 ns nv V) (hn : ns + nw ≤ 60) : ∃ nw0 nv0 ns' st' wj' V', BLS x W V' d nw0 nv0 ∧ (ev X 195 0 [.ref 55, .int 1] [] (RMH B Z (nI ns) (nI nw) st wj W)) = some (none, (RMH B Z (nI ns') (nI nw0) st' wj' W)) ∧ RPV nm st' wj' V0 ns' (nv0 + 1) V' ∧ V' nv0 = (ctT x d).1 d ∧ x.2.2.2.1 d = 0 ∧ ns' + nw0 = ns + nw := by
  obtain ⟨nw0, nv0, nw2, nv2, ns1, st1, wj1, V1, hb, hc, e1, R1, v1, hg, hs⟩ := S_joint (X := X) (B := B) (Z := Z) h R hn (t := 1) (by decide)
  have sd : (ctT x d).1 d = x.1 d + (if x.2.2.1 d = 0 then x.2.1 d else -x.2.1 d) := by unfold ctT; exact updL_eq
  rcases hc with ⟨c1, c2, c3, c4⟩ | ⟨c1, c2, c3, c4⟩
  · have st := set_stop (X := X) (B := B) (Z := Z) (W := W) (nw := nw0) (t := 1) (sp := nI ns1) (st := st1) (wj := wj1) (by omega) (BLS_stop hb (by decide))
    rw [c3, st] at e1
    rw [c4] at R1 v1
    refine ⟨nw0, nv0, ns1, st1, wj1, V1, hb, e1, R1, ?_, hg, by omega⟩
    rw [v1, sd, c1, c2, if_pos rfl, Int64.zero_add]
  · have hl : ¬ hld (W nw0) < 1 := by rcases c4 with ⟨z, -⟩ | ⟨z, -⟩ <;> rw [z] <;> decide
    have step := m_set_step (X := X) (B := B) (Z := Z) (st := st1) (wj := wj1) (ww := W) (ns := ns1) (nw := nw0) (by omega) (by omega) hl
    rw [c2] at R1 v1
    have R' := R1.bin (c := W nw0) (by rcases c4 with ⟨z, -⟩ | ⟨z, -⟩ <;> rw [z] <;> decide) (by rcases c4 with ⟨z, -⟩ | ⟨z, -⟩ <;> rw [z] <;> decide)
    have hb' : BLS x W (vp_updL V1 nv0 (bop (W nw0) (V1 nv0) (V1 (nv0 + 1)))) d nw0 nv0 := hb.congr (fun j hj => ⟨rfl, rfl, rfl, rfl, rfl⟩) (fun _ _ => rfl) (fun i hi => updL_ne (by omega))
    have st := set_stop (X := X) (B := B) (Z := Z) (W := W) (nw := nw0) (t := 1) (sp := nI (ns1 + 1)) (st := upd st1 ns1 (W nw0)) (wj := upd wj1 ns1 0) (by omega) (BLS_stop hb (by decide))
    rw [c3, step, st] at e1
    refine ⟨nw0, nv0, ns1 + 1, _, _, _, hb', e1, R', ?_, hg, by omega⟩
    rw [updL_eq, sd, c1, v1]
    unfold bop
    rcases c4 with ⟨z, y⟩ | ⟨z, y⟩
    · rw [z, y, if_neg (by decide), if_neg (by decide), if_pos rfl, if_pos rfl]
    · rw [z, y, if_neg (by decide), if_neg (by decide), if_neg (by decide), if_neg (by decide), Int64.sub_eq_add_neg]
end SET

-- EV: the machine without fuel
noncomputable def ev (X : MX) (j pc : Nat) (loc st : List Value) (h : MH) : Option (Option Value × MH) :=
  @dite _ (∃ r, ∃ n, exec X n j pc loc st h = some r) (Classical.propDecidable _) (fun hx => some (Classical.choose hx)) (fun _ => none)
theorem ev_iff {X : MX} {j pc : Nat} {loc st : List Value} {h : MH} {r : Option Value × MH} : ev X j pc loc st h = some r ↔ ∃ n, exec X n j pc loc st h = some r := by
  unfold ev
  constructor
  · intro hh
    split at hh
    · rename_i hx
      have h1 := Classical.choose_spec hx
      cases hh
      exact h1
    · cases hh
  · intro hh
    have hx : ∃ r, ∃ n, exec X n j pc loc st h = some r := ⟨r, hh⟩
    rw [dif_pos hx]
    obtain ⟨n, hn⟩ := hh
    obtain ⟨m, hm⟩ := Classical.choose_spec hx
    have a := exec_mono' X hn (Nat.le_max_left n m)
    have b := exec_mono' X hm (Nat.le_max_right n m)
    rw [a] at b
    exact b.symm
theorem opt_ext {α : Type} {a b : Option α} (h : ∀ r, a = some r ↔ b = some r) : a = b := Option.ext h
theorem exec_ret {X : MX} {n j pc len : Nat} {ins : Instr} {loc st : List Value} {h : MH} (hd : decode (mt_b (mq j)) pc = .ok (ins, len)) (hk : kd ins = 6) : exec X (n + 1) j pc loc st h = (retv j ins len st).map (fun v => (v, h)) := by
  conv => lhs; unfold exec
  rw [hd]
  simp only [if_pos hk]
theorem exec_sim {X : MX} {n j pc len : Nat} {ins : Instr} {loc st : List Value} {h : MH} (hd : decode (mt_b (mq j)) pc = .ok (ins, len)) (hk : ¬ kd ins = 6) (hc : callOf j ins len st h = none) : exec X (n + 1) j pc loc st h = (sim X j pc ins len loc st h).bind (fun c => exec X n j c.1 c.2.1 c.2.2.1 c.2.2.2) := by
  conv => lhs; unfold exec
  rw [hd]
  simp only [if_neg hk, hc]
theorem exec_call {X : MX} {n j pc len : Nat} {ins : Instr} {loc st : List Value} {h : MH} {q : Nat × List Value × List Value} (hd : decode (mt_b (mq j)) pc = .ok (ins, len)) (hk : ¬ kd ins = 6) (hc : callOf j ins len st h = some q) (he : entOk q.1 q.2.1 = true) : exec X (n + 1) j pc loc st h = (exec X n q.1 0 (entryL q.1 q.2.1) [] h).bind (fun r => exec X n j (pc + 3) loc (r.1.toList ++ q.2.2) r.2) := by
  conv => lhs; unfold exec
  rw [hd]
  simp only [if_neg hk, hc, if_pos he]
theorem ev_ret {X : MX} {j pc len : Nat} {ins : Instr} {loc st : List Value} {h : MH} (hd : decode (mt_b (mq j)) pc = .ok (ins, len)) (hk : kd ins = 6) : ev X j pc loc st h = (retv j ins len st).map (fun v => (v, h)) := by
  apply opt_ext
  intro r
  rw [ev_iff]
  constructor
  · rintro ⟨n, hn⟩
    cases n with
    | zero => cases hn
    | succ n => rw [exec_ret hd hk] at hn; exact hn
  · intro hr
    exact ⟨1, by rw [exec_ret hd hk]; exact hr⟩
theorem ev_sim {X : MX} {j pc len : Nat} {ins : Instr} {loc st : List Value} {h : MH} (hd : decode (mt_b (mq j)) pc = .ok (ins, len)) (hk : ¬ kd ins = 6) (hc : callOf j ins len st h = none) : ev X j pc loc st h = (sim X j pc ins len loc st h).bind (fun c => ev X j c.1 c.2.1 c.2.2.1 c.2.2.2) := by
  apply opt_ext
  intro r
  rw [ev_iff]
  constructor
  · rintro ⟨n, hn⟩
    cases n with
    | zero => cases hn
    | succ n =>
      rw [exec_sim hd hk hc] at hn
      cases hs : sim X j pc ins len loc st h with
      | none => rw [hs] at hn; cases hn
      | some c =>
        rw [hs] at hn
        exact ev_iff.mpr ⟨n, hn⟩
  · intro hr
    cases hs : sim X j pc ins len loc st h with
    | none => rw [hs] at hr; cases hr
    | some c =>
      rw [hs] at hr
      obtain ⟨n, hn⟩ := ev_iff.mp hr
      exact ⟨n + 1, by rw [exec_sim hd hk hc, hs]; exact hn⟩
theorem ev_call {X : MX} {j pc len : Nat} {ins : Instr} {loc st : List Value} {h : MH} {q : Nat × List Value × List Value} (hd : decode (mt_b (mq j)) pc = .ok (ins, len)) (hk : ¬ kd ins = 6) (hc : callOf j ins len st h = some q) (he : entOk q.1 q.2.1 = true) : ev X j pc loc st h = (ev X q.1 0 (entryL q.1 q.2.1) [] h).bind (fun r => ev X j (pc + 3) loc (r.1.toList ++ q.2.2) r.2) := by
  apply opt_ext
  intro r
  rw [ev_iff]
  constructor
  · rintro ⟨n, hn⟩
    cases n with
    | zero => cases hn
    | succ n =>
      rw [exec_call hd hk hc he] at hn
      cases hs : exec X n q.1 0 (entryL q.1 q.2.1) [] h with
      | none => rw [hs] at hn; cases hn
      | some c =>
        rw [hs] at hn
        rw [ev_iff.mpr ⟨n, hs⟩]
        exact ev_iff.mpr ⟨n, hn⟩
  · intro hr
    cases hs : ev X q.1 0 (entryL q.1 q.2.1) [] h with
    | none => rw [hs] at hr; cases hr
    | some c =>
      rw [hs] at hr
      obtain ⟨n, hn⟩ := ev_iff.mp hs
      obtain ⟨m, hm⟩ := ev_iff.mp hr
      refine ⟨max n m + 1, ?_⟩
      rw [exec_call hd hk hc he, exec_mono' X hn (Nat.le_max_left n m)]
      exact exec_mono' X hm (Nat.le_max_right n m)

-- BOUTS: how a bout of both stays alike
def GIg (n k : Nat) (g : G8) : Prop := ∃ t0 t1 c0 c1 : Nat, g.1 = nI t0 ∧ g.2.1 = nI t1 ∧ t0 ≤ n ∧ t1 ≤ n ∧ (g.2.2.2.2.2.2.1 = 0 → t0 < n ∧ t1 < n) ∧ ((g.2.2.2.2.2.2.1 = 0 ∧ g.2.2.2.2.2.2.2 = -1) ∨ (g.2.2.2.2.2.2.1 = 1 ∧ (g.2.2.2.2.2.2.2 = 0 ∨ g.2.2.2.2.2.2.2 = 1))) ∧ (g.2.2.1 = 0 ∨ g.2.2.1 = 1) ∧ (g.2.2.2.1 = 0 ∨ g.2.2.2.1 = 1) ∧ g.2.2.2.2.1 = nI c0 ∧ g.2.2.2.2.2.1 = nI c1 ∧ c0 ≤ k ∧ c1 ≤ k
theorem GI_g {n k : Nat} {r : Nat → Int32} : GI n k r ↔ GIg n k (gcol r) := Iff.rfl
theorem GIg.mono {n k k' : Nat} {g : G8} (h : GIg n k g) (hk : k ≤ k') : GIg n k' g := by
  obtain ⟨t0, t1, c0, c1, q1, q2, q3, q4, q5, q6, q7, q8, q9, q10, q11, q12⟩ := h
  exact ⟨t0, t1, c0, c1, q1, q2, q3, q4, q5, q6, q7, q8, q9, q10, by omega, by omega⟩
theorem GIg.wins {n k : Nat} {g : G8} (h : GIg n k g) {x : Int32} (hx : x = 0 ∨ x = 1) : GIg n k (m_wins x g) := by
  obtain ⟨t0, t1, c0, c1, q1, q2, q3, q4, q5, q6, q7, q8, q9, q10, q11, q12⟩ := h
  exact ⟨t0, t1, c0, c1, q1, q2, q3, q4, fun z => absurd z (by show ¬ (1 : Int32) = 0; decide), Or.inr ⟨rfl, hx⟩, q7, q8, q9, q10, q11, q12⟩
theorem m_ahead01 {g : G8} {x : Int32} (hx : x = 0 ∨ x = 1) : m_ahead x g = 0 ∨ m_ahead x g = 1 := by
  unfold m_ahead
  by_cases h1 : g.2.1 < g.1
  · rw [if_pos h1]; exact Or.inl rfl
  · rw [if_neg h1]
    by_cases h2 : g.1 < g.2.1
    · rw [if_pos h2]; exact Or.inr rfl
    · rw [if_neg h2]; exact hx
theorem GIg.hits {n k w : Nat} {g : G8} {x : Int32} (h : GIg n k g) (hn : n < 100) (h8 : g.2.2.2.2.2.2.1 = 0) : GIg n k (m_hits w (nI n) x g) := by
  obtain ⟨t0, t1, c0, c1, q1, q2, q3, q4, q5, q6, q7, q8, q9, q10, q11, q12⟩ := h
  obtain ⟨q5, q5'⟩ := q5 h8
  unfold m_hits
  by_cases hw : w = 0
  · rw [if_pos hw]
    have e : g.1 + 1 = nI (t0 + 1) := by rw [q1, nI_1]
    by_cases c : x = 0 ∧ ¬ g.1 + 1 = nI n
    · rw [if_pos c]
      have : ¬ t0 + 1 = n := fun z => c.2 (by rw [e, z])
      exact ⟨t0 + 1, t1, c0, c1, e, q2, by omega, q4, fun _ => by omega, q6, q7, q8, q9, q10, q11, q12⟩
    · rw [if_neg c]
      exact ⟨t0 + 1, t1, c0, c1, e, q2, by omega, q4, fun z => absurd z (by show ¬ (1 : Int32) = 0; decide), Or.inr ⟨rfl, Or.inl rfl⟩, q7, q8, q9, q10, q11, q12⟩
  · rw [if_neg hw]
    have e : g.2.1 + 1 = nI (t1 + 1) := by rw [q2, nI_1]
    by_cases c : x = 0 ∧ ¬ g.2.1 + 1 = nI n
    · rw [if_pos c]
      have : ¬ t1 + 1 = n := fun z => c.2 (by rw [e, z])
      exact ⟨t0, t1 + 1, c0, c1, q1, e, q3, by omega, fun _ => by omega, q6, q7, q8, q9, q10, q11, q12⟩
    · rw [if_neg c]
      exact ⟨t0, t1 + 1, c0, c1, q1, e, q3, by omega, fun z => absurd z (by show ¬ (1 : Int32) = 0; decide), Or.inr ⟨rfl, Or.inr rfl⟩, q7, q8, q9, q10, q11, q12⟩
theorem GIg.hap {n k w : Nat} {g : G8} {s x : Int32} (h : GIg n k g) (hn : n < 100) (hw : w ≤ 1) (h8 : g.2.2.2.2.2.2.1 = 0) : GIg n (k + 1) (m_hap s w (nI n) x g) := by
  unfold m_hap
  by_cases s0 : s = 0
  · rw [if_pos s0]; exact (h.mono (by omega)).hits hn h8
  rw [if_neg s0]
  by_cases s1 : s = 1
  · rw [if_pos s1]
    obtain ⟨t0, t1, c0, c1, q1, q2, q3, q4, q5, q6, q7, q8, q9, q10, q11, q12⟩ := h
    obtain ⟨q5a, q5'⟩ := q5 h8
    have e0 : g.1 + 1 = nI (t0 + 1) := by rw [q1, nI_1]
    have e1 : g.2.1 + 1 = nI (t1 + 1) := by rw [q2, nI_1]
    by_cases c : ¬ x = 0 ∨ (g.1 + 1 = nI n ∧ g.2.1 + 1 = nI n)
    · rw [if_pos c]; exact ⟨t0, t1, c0, c1, q1, q2, q3, q4, q5, q6, q7, q8, q9, q10, by omega, by omega⟩
    rw [if_neg c]
    by_cases d0 : g.1 + 1 = nI n
    · rw [if_pos d0]
      exact ⟨t0 + 1, t1 + 1, c0, c1, e0, e1, by omega, by omega, fun z => absurd z (by show ¬ (1 : Int32) = 0; decide), Or.inr ⟨rfl, Or.inl rfl⟩, q7, q8, q9, q10, by omega, by omega⟩
    rw [if_neg d0]
    by_cases d1 : g.2.1 + 1 = nI n
    · rw [if_pos d1]
      exact ⟨t0 + 1, t1 + 1, c0, c1, e0, e1, by omega, by omega, fun z => absurd z (by show ¬ (1 : Int32) = 0; decide), Or.inr ⟨rfl, Or.inr rfl⟩, q7, q8, q9, q10, by omega, by omega⟩
    rw [if_neg d1]
    have n0 : ¬ t0 + 1 = n := fun z => d0 (by rw [e0, z])
    have n1 : ¬ t1 + 1 = n := fun z => d1 (by rw [e1, z])
    exact ⟨t0 + 1, t1 + 1, c0, c1, e0, e1, by omega, by omega, fun _ => by omega, q6, q7, q8, q9, q10, by omega, by omega⟩
  rw [if_neg s1]
  by_cases s3 : s = 3 ∨ (s = 2 ∧ 0 < (if w = 0 then g.2.2.1 else g.2.2.2.1))
  · rw [if_pos s3]
    refine GIg.hits ?_ hn h8
    obtain ⟨t0, t1, c0, c1, q1, q2, q3, q4, q5, q6, q7, q8, q9, q10, q11, q12⟩ := h
    by_cases hw0 : w = 0
    · simp only [hw0, if_true]
      exact ⟨t0, t1, c0 + 1, c1, q1, q2, q3, q4, q5, q6, q7, q8, by show g.2.2.2.2.1 + 1 = _; rw [q9, nI_1], q10, by omega, by omega⟩
    · simp only [hw0, if_false]
      exact ⟨t0, t1, c0, c1 + 1, q1, q2, q3, q4, q5, q6, q7, q8, q9, by show g.2.2.2.2.2.1 + 1 = _; rw [q10, nI_1], by omega, by omega⟩
  rw [if_neg s3]
  by_cases s2 : s = 2
  · rw [if_pos s2]
    have ny : ¬ 0 < (if w = 0 then g.2.2.1 else g.2.2.2.1) := fun z => s3 (Or.inr ⟨s2, z⟩)
    obtain ⟨t0, t1, c0, c1, q1, q2, q3, q4, q5, q6, q7, q8, q9, q10, q11, q12⟩ := h
    by_cases hw0 : w = 0
    · simp only [hw0, if_true] at ny ⊢
      have : g.2.2.1 = 0 := by
        rcases q7 with q | q
        · exact q
        · exact absurd (by rw [q]; decide) ny
      exact ⟨t0, t1, c0, c1, q1, q2, q3, q4, q5, q6, Or.inr (by show g.2.2.1 + 1 = 1; rw [this]; decide), q8, q9, q10, by omega, by omega⟩
    · simp only [hw0, if_false] at ny ⊢
      have : g.2.2.2.1 = 0 := by
        rcases q8 with q | q
        · exact q
        · exact absurd (by rw [q]; decide) ny
      exact ⟨t0, t1, c0, c1, q1, q2, q3, q4, q5, q6, q7, Or.inr (by show g.2.2.2.1 + 1 = 1; rw [this]; decide), q9, q10, by omega, by omega⟩
  rw [if_neg s2]
  refine (h.mono (by omega)).wins ?_
  rcases (by omega : w = 0 ∨ w = 1) with rfl | rfl
  · exact Or.inr (by decide)
  · exact Or.inl (by decide)
theorem g_run_snoc (x : Nat → Int32) : ∀ (m e : Nat) (g : G8), g_run x (m + 1) e g = if (g_run x m e g).2.2.2.2.2.2.1 = 0 then g_step x (e + m) (g_run x m e g) else g_run x m e g
  | 0, e, g => by
    by_cases q : g.2.2.2.2.2.2.1 = 0
    · simp only [g_run, q, if_true, Nat.add_zero]
    · simp only [g_run, q, if_false]
  | m + 1, e, g => by
    conv => lhs; rw [g_run]
    rw [show g_run x (m + 1) e g = (if g.2.2.2.2.2.2.1 = 0 then g_run x m (e + 1) (g_step x e g) else g) from rfl]
    by_cases q : g.2.2.2.2.2.2.1 = 0
    · rw [if_pos q, if_pos q, g_run_snoc x m (e + 1), show e + 1 + m = e + (m + 1) by omega]
    · rw [if_neg q, if_neg q, if_neg q]
theorem g_run_congr {x x' : Nat → Int32} {k : Nat} (h3 : x 3 = x' 3) (h4 : x 4 = x' 4) (h5 : x 5 = x' 5) (hE : ∀ c, 10 ≤ c → c < 10 + 3 * k → x c = x' c) : ∀ (m e : Nat) (g : G8), e + m ≤ k → g_run x m e g = g_run x' m e g
  | 0, _, _, _ => rfl
  | m + 1, e, g, he => by
    have e0 := hE (10 + 3 * e) (by omega) (by omega)
    have e1 := hE (10 + 3 * e + 1) (by omega) (by omega)
    have e2 := hE (10 + 3 * e + 2) (by omega) (by omega)
    have es : g_step x e g = g_step x' e g := by unfold g_step; rw [h3, h4, h5, e0, e1, e2]
    simp only [g_run]
    rw [es, g_run_congr h3 h4 h5 hE m (e + 1) _ (by omega)]
/-- a bout of both: x its numbers in the reference's row, r its row in the class -/
def BR (x r : Nat → Int32) : Prop := (∀ c, c < 6 → r c = x c) ∧ r 14 = x 8 ∧ (x 8 = 0 ∨ x 8 = 1) ∧ ∃ k n L a b : Nat, k ≤ 40 ∧ x 9 = nI k ∧ r 15 = nI k ∧ EVOK x k ∧ r 16 = (if k = 0 then 0 else x (10 + 3 * (k - 1) + 2)) ∧ gcol r = g_go x k ∧ GI n k r ∧ (r 8 = 0 → x 6 = 0 ∧ x 7 = -1) ∧ x 3 = nI n ∧ 1 ≤ n ∧ n ≤ 15 ∧ x 4 = nI L ∧ L < 10000 ∧ (x 5 = 0 ∨ x 5 = 1) ∧ x 0 = nI a ∧ a < 16 ∧ x 1 = nI b ∧ b < 16 ∧ (x 2 = -1 ∨ ∃ p, p < 6 ∧ x 2 = nI p)
theorem BR.congr {x r x' r' : Nat → Int32} (h : BR x r) (hr : ∀ c, c < 17 → r' c = r c) (hx : ∀ c, c < 130 → x' c = x c) : BR x' r' := by
  obtain ⟨p1, p2, p3, k, n, L, a, b, q1, q2, q3, q4, q5, q6, q7, q8, q9, q10, q11, q12, q13, q14, q15, q16, q17, q18, q19⟩ := h
  have gc : gcol r' = gcol r := by unfold gcol; rw [hr 6 (by decide), hr 7 (by decide), hr 10 (by decide), hr 11 (by decide), hr 12 (by decide), hr 13 (by decide), hr 8 (by decide), hr 9 (by decide)]
  have gg : g_go x' k = g_go x k := by
    unfold g_go g_fin
    rw [hx 7 (by decide), hx 6 (by decide), hx 5 (by decide), g_run_congr (k := k) (hx 3 (by decide)) (hx 4 (by decide)) (hx 5 (by decide)) (fun c _ h2 => hx c (by omega)) k 0 g00 (by omega)]
  refine ⟨fun c hc => by rw [hr c (by omega), hx c (by omega)]; exact p1 c hc, by rw [hr 14 (by decide), hx 8 (by decide)]; exact p2, by rw [hx 8 (by decide)]; exact p3, k, n, L, a, b, q1, by rw [hx 9 (by decide)]; exact q2, by rw [hr 15 (by decide)]; exact q3, fun e he => ?_, ?_, by rw [gc, gg]; exact q6, ?_, by rw [hr 8 (by decide), hx 6 (by decide), hx 7 (by decide)]; exact q8, by rw [hx 3 (by decide)]; exact q9, q10, q11, by rw [hx 4 (by decide)]; exact q12, q13, by rw [hx 5 (by decide)]; exact q14, by rw [hx 0 (by decide)]; exact q15, q16, by rw [hx 1 (by decide)]; exact q17, q18, by rw [hx 2 (by decide)]; exact q19⟩
  · rw [hx _ (by omega), hx _ (by omega)]; exact q4 e he
  · rw [hr 16 (by decide), q5]
    by_cases hk : k = 0
    · rw [if_pos hk, if_pos hk]
    · rw [if_neg hk, if_neg hk, hx _ (by omega)]
  · rw [GI_g, gc]; exact GI_g.mp q7
theorem g_go_run {x : Nat → Int32} {k : Nat} (h6 : x 6 = 0) (h7 : x 7 = -1) : g_go x k = g_run x k 0 g00 := by
  unfold g_go g_fin
  rw [if_pos h7, h6, if_neg (fun z => absurd z.2 (by decide))]
/-- the reference's row behind an event -/
def x_ev (x : Nat → Int32) (k : Nat) (s who t : Int32) : Nat → Int32 := upd (upd (upd (upd x (10 + 3 * k) s) (10 + 3 * k + 1) who) (10 + 3 * k + 2) t) 9 (nI (k + 1))
theorem b_judge_off {s x : Int32} {w c : Nat} {r : Nat → Int32} (hw : w ≤ 1) (hc : c < 6 ∨ 13 < c) : b_judge s w x r c = r c := by
  have sc : ∀ (u : Nat) (y : Int32) (q : Nat → Int32), u ≤ 1 → b_score u y q c = q c := fun u y q hu => by
    unfold b_score b_win
    split
    · rw [upd_ne (by omega)]
    · rw [upd_ne (by omega), upd_ne (by omega), upd_ne (by omega)]
  unfold b_judge
  split
  · exact sc w x r hw
  split
  · split
    · unfold b_both
      split
      · rw [sc 1 0 _ (by decide), sc 0 0 _ (by decide)]
      · rfl
    · rfl
  split
  · split
    · rw [upd_ne (by omega)]
    · unfold b_red
      rw [sc _ _ _ (by omega), upd_ne (by omega)]
  split
  · unfold b_red
    rw [sc _ _ _ (by omega), upd_ne (by omega)]
  · unfold b_win
    rw [upd_ne (by omega), upd_ne (by omega)]
theorem b_close_off {c : Nat} {r : Nat → Int32} (hc : c < 6 ∨ 13 < c) : b_close r c = r c := by
  unfold b_close b_win
  rw [upd_ne (by omega), upd_ne (by omega)]
theorem b_take_off {s t : Int32} {w c : Nat} {r : Nat → Int32} (hw : w ≤ 1) (hc : c < 6 ∨ 13 < c) : b_take s w t r c = upd (upd r 15 (r 15 + 1)) 16 t c := by
  unfold b_take
  split
  · exact b_close_off hc
  · exact b_judge_off hw hc
theorem take_n {r : Nat → Int32} {s t : Int32} {w n k L : Nat} (hs : s = 0 ∨ s = 1 ∨ s = 2 ∨ s = 3 ∨ s = 4 ∨ s = 5) (hw : w ≤ 1) (hI : GI n k r) (e3 : r 3 = nI n) (hn : n < 100) (h8 : r 8 = 0) (e4 : r 4 = nI L) (hL : L < 10000) : gcol (b_take s w t r) = if (r 4 < t ∧ ¬ r 6 = r 7) ∨ r 4 + 1000 < t then m_wins (m_ahead (r 5) (gcol r)) (gcol r) else m_hap s w (r 3) (if r 4 < t then 1 else 0) (gcol r) := by
  have hI' := hI
  obtain ⟨t0, t1, c0, c1, q1, q2, q3, q4, -⟩ := hI
  unfold b_take
  by_cases d : b_dec t r
  · rw [if_pos d, if_pos ((b_dec_n q1 q2 (by omega) (by omega) e4 hL).mp d)]
    rw [b_close_n (r := upd (upd r 15 (r 15 + 1)) 16 t) q1 q2 (by omega) (by omega)]
    rfl
  · rw [if_neg d, if_neg (fun z => d ((b_dec_n q1 q2 (by omega) (by omega) e4 hL).mpr z))]
    rw [judge_n (r := upd (upd r 15 (r 15 + 1)) 16 t) (n := n) (k := k) hs hw hI' e3 hn h8]
    rfl
theorem BR.event {x r : Nat → Int32} {k : Nat} {s t wv : Int32} (h : BR x r) (h8 : r 8 = 0) (hk : x 9 = nI k) (hk2 : k < 40) (hs : s = 0 ∨ s = 1 ∨ s = 2 ∨ s = 3 ∨ s = 4 ∨ s = 5) (hwv : wv = 0 ∨ wv = 1) : BR (x_ev x k s wv t) (b_take s (fN wv) t r) := by
  obtain ⟨p1, p2, p3, k', n, L, a, b, q1, q2, q3, q4, q5, q6, q7, q8, q9, q10, q11, q12, q13, q14, q15, q16, q17, q18, q19⟩ := h
  have ek : k' = k := by
    rw [hk] at q2
    exact ((nI_eq (by omega) (by omega)).mp q2).symm
  subst ek
  obtain ⟨x6, x7⟩ := q8 h8
  have hw := fN_le wv
  have ev : ∀ c, c < 9 → x_ev x k' s wv t c = x c := fun c hc => by
    unfold x_ev
    rw [upd_ne (by omega), upd_ne (by omega), upd_ne (by omega), upd_ne (by omega)]
  have ev2 : ∀ c, 10 ≤ c → c < 10 + 3 * k' → x_ev x k' s wv t c = x c := fun c h1 h2 => by
    unfold x_ev
    rw [upd_ne (by omega), upd_ne (by omega), upd_ne (by omega), upd_ne (by omega)]
  have v0 : x_ev x k' s wv t (10 + 3 * k') = s := by unfold x_ev; rw [upd_ne (by omega), upd_ne (by omega), upd_ne (by omega), upd_eq]
  have v1 : x_ev x k' s wv t (10 + 3 * k' + 1) = wv := by unfold x_ev; rw [upd_ne (by omega), upd_ne (by omega), upd_eq]
  have v2 : x_ev x k' s wv t (10 + 3 * k' + 2) = t := by unfold x_ev; rw [upd_ne (by omega), upd_eq]
  have v9 : x_ev x k' s wv t 9 = nI (k' + 1) := by unfold x_ev; rw [upd_eq]
  have r3 : r 3 = nI n := (p1 3 (by decide)).trans q9
  have r4 : r 4 = nI L := (p1 4 (by decide)).trans q12
  have tk := take_n (t := t) hs hw q7 r3 (by omega) h8 r4 q13
  have run : g_run x k' 0 g00 = gcol r := by rw [q6, g_go_run x6 x7]
  have run' : g_run (x_ev x k' s wv t) k' 0 g00 = gcol r := by rw [g_run_congr (k := k') (ev 3 (by decide)) (ev 4 (by decide)) (ev 5 (by decide)) ev2 k' 0 g00 (by omega), run]
  have go' : gcol (b_take s (fN wv) t r) = g_go (x_ev x k' s wv t) (k' + 1) := by
    rw [g_go_run (by rw [ev 6 (by decide)]; exact x6) (by rw [ev 7 (by decide)]; exact x7), g_run_snoc, run', if_pos (show (gcol r).2.2.2.2.2.2.1 = 0 from h8), tk]
    unfold g_step
    rw [Nat.zero_add, v0, v1, v2, ev 3 (by decide), ev 4 (by decide), ev 5 (by decide), ← p1 3 (by decide), ← p1 4 (by decide), ← p1 5 (by decide)]
    rfl
  have gi : GI n (k' + 1) (b_take s (fN wv) t r) := by
    rw [GI_g, tk]
    split
    · exact ((GI_g.mp q7).mono (by omega)).wins (m_ahead01 (by rw [p1 5 (by decide)]; exact q14))
    · rw [r3]; exact (GI_g.mp q7).hap (by omega) hw h8
  refine ⟨fun c hc => ?_, ?_, by rw [ev 8 (by decide)]; exact p3, k' + 1, n, L, a, b, by omega, v9, ?_, fun e he => ?_, ?_, go', gi, fun _ => ⟨by rw [ev 6 (by decide)]; exact x6, by rw [ev 7 (by decide)]; exact x7⟩, by rw [ev 3 (by decide)]; exact q9, q10, q11, by rw [ev 4 (by decide)]; exact q12, q13, by rw [ev 5 (by decide)]; exact q14, by rw [ev 0 (by decide)]; exact q15, q16, by rw [ev 1 (by decide)]; exact q17, q18, by rw [ev 2 (by decide)]; exact q19⟩
  · rw [b_take_off hw (Or.inl hc), upd_ne (by omega), upd_ne (by omega), ev c (by omega)]; exact p1 c hc
  · rw [b_take_off hw (by decide), upd_ne (by decide), upd_ne (by decide), ev 8 (by decide)]; exact p2
  · rw [b_take_off hw (by decide), upd_ne (by decide), upd_eq, q3, nI_1]
  · by_cases e0 : e = k'
    · subst e0; rw [v0, v1]; exact ⟨hs, hwv⟩
    · rw [ev2 _ (by omega) (by omega), ev2 _ (by omega) (by omega)]; exact q4 e (by omega)
  · rw [b_take_off hw (by decide), upd_eq, if_neg (by omega), Nat.add_sub_cancel, v2]
theorem BR.tear {x r : Nat → Int32} {v : Int32} (h : BR x r) (hv : v = 0 ∨ v = 1) : BR (upd x 8 v) (upd r 14 v) := by
  obtain ⟨p1, p2, p3, k, n, L, a, b, q1, q2, q3, q4, q5, q6, q7, q8, q9, q10, q11, q12, q13, q14, q15, q16, q17, q18, q19⟩ := h
  have gg : g_go (upd x 8 v) k = g_go x k := by
    unfold g_go g_fin
    rw [g_run_congr (x := upd x 8 v) (x' := x) (k := k) rfl rfl rfl (fun c h1 _ => upd_ne (by omega)) k 0 g00 (by omega)]
    rfl
  refine ⟨fun c hc => by rw [upd_ne (by omega), upd_ne (by omega)]; exact p1 c hc, rfl, hv, k, n, L, a, b, q1, q2, q3, fun e he => by rw [upd_ne (by omega), upd_ne (by omega)]; exact q4 e he, ?_, by rw [gg]; exact q6, q7, q8, q9, q10, q11, q12, q13, q14, q15, q16, q17, q18, q19⟩
  rw [upd_ne (by decide), q5]
  by_cases hk : k = 0
  · rw [if_pos hk, if_pos hk]
  · rw [if_neg hk, if_neg hk, upd_ne (by omega)]
theorem BR.walk {x r : Nat → Int32} {v : Int32} (h : BR x r) (h8 : r 8 = 0) (h9 : x 9 = 0) (hv : v = 0 ∨ v = 1) : BR (upd x 7 v) (b_win v r) := by
  obtain ⟨p1, p2, p3, k, n, L, a, b, q1, q2, q3, q4, q5, q6, q7, q8, q9, q10, q11, q12, q13, q14, q15, q16, q17, q18, q19⟩ := h
  have ek : k = 0 := by
    rw [h9] at q2
    exact ((nI_eq (a := 0) (by omega) (by omega)).mp q2).symm
  subst ek
  obtain ⟨x6, x7⟩ := q8 h8
  have gr : gcol r = g00 := by rw [q6, g_go_run x6 x7]; rfl
  have vn : ¬ v = -1 := by rcases hv with rfl | rfl <;> decide
  refine ⟨fun c hc => ?_, p2, p3, 0, n, L, a, b, q1, q2, q3, fun e he => absurd he (by omega), q5, ?_, ?_, fun z => absurd z (by show ¬ (1 : Int32) = 0; decide), q9, q10, q11, q12, q13, q14, q15, q16, q17, q18, q19⟩
  · unfold b_win
    rw [upd_ne (by omega), upd_ne (by omega), upd_ne (by omega)]; exact p1 c hc
  · rw [gcol_win, gr]
    unfold g_go
    rw [if_neg (by rw [upd_eq]; exact vn), upd_eq]
  · rw [GI_g, gcol_win]
    exact (GI_g.mp q7).wins hv
theorem BR.end_ {x r : Nat → Int32} (h : BR x r) (h8 : r 8 = 0) : BR (upd x 6 1) (b_close r) := by
  obtain ⟨p1, p2, p3, k, n, L, a, b, q1, q2, q3, q4, q5, q6, q7, q8, q9, q10, q11, q12, q13, q14, q15, q16, q17, q18, q19⟩ := h
  obtain ⟨x6, x7⟩ := q8 h8
  have q7' := q7
  obtain ⟨t0, t1, c0, c1, i1, i2, i3, i4, -⟩ := q7'
  have gr : gcol r = g_run x k 0 g00 := by rw [q6, g_go_run x6 x7]
  have bc := b_close_n i1 i2 (by omega) (by omega)
  have r5 : r 5 = x 5 := p1 5 (by decide)
  refine ⟨fun c hc => ?_, ?_, p3, k, n, L, a, b, q1, q2, ?_, fun e he => by rw [upd_ne (by omega), upd_ne (by omega)]; exact q4 e he, ?_, ?_, ?_, fun z => absurd z (by rw [bc]; show ¬ (1 : Int32) = 0; decide), q9, q10, q11, q12, q13, q14, q15, q16, q17, q18, q19⟩
  · rw [b_close_off (Or.inl hc), p1 c hc]
    by_cases hc6 : c = 6
    · omega
    · rw [upd_ne hc6]
  · rw [b_close_off (by decide)]; exact p2
  · rw [b_close_off (by decide)]; exact q3
  · rw [b_close_off (by decide), q5]
    by_cases hk : k = 0
    · rw [if_pos hk, if_pos hk]
    · rw [if_neg hk, if_neg hk, upd_ne (by omega)]
  · rw [bc, gcol_win]
    unfold g_go g_fin
    rw [if_pos (show upd x 6 1 7 = -1 by rw [upd_ne (by decide)]; exact x7), g_run_congr (x := upd x 6 1) (x' := x) (k := k) rfl rfl rfl (fun c h1 _ => upd_ne (by omega)) k 0 g00 (by omega), ← gr, if_pos ⟨h8, upd_eq⟩, r5]
    rfl
  · rw [GI_g, bc, gcol_win]
    exact (GI_g.mp q7).wins (m_ahead01 (by rw [r5]; exact q14))
theorem BR.new {x r : Nat → Int32} {n L a b : Nat} (hr : ∀ c, c < 6 → r c = x c) (r6 : ∀ c, 6 ≤ c → c < 17 → c ≠ 9 → r c = 0) (r9 : r 9 = -1) (x6 : x 6 = 0) (x7 : x 7 = -1) (x8 : x 8 = 0) (x9 : x 9 = 0) (e3 : x 3 = nI n) (hn1 : 1 ≤ n) (hn : n ≤ 15) (e4 : x 4 = nI L) (hL : L < 10000) (e5 : x 5 = 0 ∨ x 5 = 1) (e0 : x 0 = nI a) (ha : a < 16) (e1 : x 1 = nI b) (hb : b < 16) (e2 : x 2 = -1 ∨ ∃ p, p < 6 ∧ x 2 = nI p) : BR x r := by
  have gr : gcol r = g00 := by
    unfold gcol g00
    rw [r6 6 (by decide) (by decide) (by decide), r6 7 (by decide) (by decide) (by decide), r6 8 (by decide) (by decide) (by decide), r6 10 (by decide) (by decide) (by decide), r6 11 (by decide) (by decide) (by decide), r6 12 (by decide) (by decide) (by decide), r6 13 (by decide) (by decide) (by decide), r9]
  refine ⟨hr, by rw [r6 14 (by decide) (by decide) (by decide), x8], Or.inl x8, 0, n, L, a, b, by omega, x9, r6 15 (by decide) (by decide) (by decide), fun e he => absurd he (by omega), r6 16 (by decide) (by decide) (by decide), ?_, ?_, fun _ => ⟨x6, x7⟩, e3, hn1, hn, e4, hL, e5, e0, ha, e1, hb, e2⟩
  · rw [gr, g_go_run x6 x7]; rfl
  · rw [GI_g, gr]
    exact ⟨0, 0, 0, 0, rfl, rfl, by omega, by omega, fun _ => by omega, Or.inl ⟨rfl, rfl⟩, Or.inl rfl, Or.inl rfl, rfl, rfl, by omega, by omega⟩

-- THE RELATION of both, what always holds, a step
def soff (i : Nat) : Nat := ([10, 70, 850, 118, 646, 124, 148, 388, 628] : List Nat).getD i 0
def scnt (i : Nat) : Nat := ([0, 1, 2, 3, 0, 4, 5, 6] : List Nat).getD i 0
def ssz (i : Nat) : Nat := ([60, 48, 15600, 6, 204, 24, 240, 240, 18] : List Nat).getD i 0
def ST (S f : Nat → Int32) (o w : Nat) : Prop := ∀ i, i < w → S (o + i) = f i
def REL (D : LD) (S : Nat → Int32) : Prop := (∀ i, i < 8 → i ≠ 4 → S (scnt i) = nI (D.1 i)) ∧ S 7 = D.2.2 ∧ D.1 4 = 4 ∧ (∀ i, i < 9 → i ≠ 2 → ST S (D.2.1 i) (soff i) (ssz i)) ∧ ∀ b, b < D.1 2 → BR (tx S b) (rof17 (D.2.1 2) b)
theorem soff_far : ∀ i, i < 9 → ∀ j, j < 9 → i ≠ j → soff i + ssz i ≤ soff j ∨ soff j + ssz j ≤ soff i := by decide
theorem soff_10 : ∀ i, i < 9 → 10 ≤ soff i ∧ soff i + ssz i ≤ 16450 := by decide
theorem scnt_7 : ∀ i, i < 8 → scnt i < 7 := by decide
theorem scnt_ne : ∀ i, i < 8 → ∀ j, j < 8 → i ≠ 4 → j ≠ 4 → i ≠ j → scnt i ≠ scnt j := fun i hi j hj => (by decide : ∀ i, i < 8 → ∀ j, j < 8 → (i = 4 ∨ j = 4 ∨ i = j ∨ scnt i ≠ scnt j)) i hi j hj |>.elim (fun z h _ _ => absurd z h) (fun z => z.elim (fun z _ h _ => absurd z h) (fun z => z.elim (fun z _ _ h => absurd z h) (fun z _ _ _ => z)))
theorem BRx {S S' : Nat → Int32} {b : Nat} {r : Nat → Int32} (h : BR (tx S b) r) (hs : ∀ c, c < 130 → S' (850 + 130 * b + c) = S (850 + 130 * b + c)) : BR (tx S' b) r := h.congr (fun _ _ => rfl) hs
theorem REL.cnt {D : LD} {S : Nat → Int32} (R : REL D S) {i : Nat} (hi : i < 8) (h4 : i ≠ 4) (h2 : i ≠ 2) (n : Nat) : REL (fu D.1 i n, D.2.1, D.2.2) (upd S (scnt i) (nI n)) := by
  obtain ⟨r1, r2, r3, r4, r5⟩ := R
  have c7 := scnt_7 i hi
  refine ⟨fun j hj hj4 => ?_, by rw [upd_ne (by omega)]; exact r2, by show fu D.1 i n 4 = 4; rw [fu_n _ _ (Ne.symm h4)]; exact r3, fun j hj hj2 k hk => ?_, fun b hb => ?_⟩
  · by_cases e : j = i
    · subst e; rw [upd_eq]; show _ = nI (fu D.1 j n j); rw [fu_s]
    · rw [upd_ne (fun z => scnt_ne j hj i hi hj4 h4 e z)]; show _ = nI (fu D.1 i n j); rw [fu_n _ _ e]; exact r1 j hj hj4
  · have := soff_10 j hj
    rw [upd_ne (by omega)]; exact r4 j hj hj2 k hk
  · have hb : b < fu D.1 i n 2 := hb
    rw [fu_n _ _ (Ne.symm h2)] at hb
    exact BRx (r5 b hb) (fun c hc => upd_ne (by omega))
theorem REL.kk {D : LD} {S : Nat → Int32} (R : REL D S) (k : Int32) : REL (D.1, D.2.1, k) (upd S 7 k) := by
  obtain ⟨r1, r2, r3, r4, r5⟩ := R
  refine ⟨fun j hj hj4 => ?_, upd_eq, r3, fun j hj hj2 k hk => ?_, fun b hb => BRx (r5 b hb) (fun c hc => upd_ne (by omega))⟩
  · have := scnt_7 j hj
    rw [upd_ne (by omega)]; exact r1 j hj hj4
  · have := soff_10 j hj
    rw [upd_ne (by omega)]; exact r4 j hj hj2 k hk
/-- one cell of a table that is not the bouts' -/
theorem REL.put {D : LD} {S f : Nat → Int32} (R : REL D S) {i : Nat} (hi : i < 9) (h2 : i ≠ 2) {c k : Nat} (hc : c < ssz i) (ek : k = soff i + c) (ef : D.2.1 i = f) (x : Int32) : REL (D.1, fu D.2.1 i (upd f c x), D.2.2) (upd S k x) := by
  obtain ⟨r1, r2, r3, r4, r5⟩ := R
  subst ek ef
  have c7 := soff_10 i hi
  refine ⟨fun j hj hj4 => ?_, by rw [upd_ne (by omega)]; exact r2, r3, fun j hj hj2 k hk => ?_, fun b hb => ?_⟩
  · have := scnt_7 j hj
    rw [upd_ne (by omega)]; exact r1 j hj hj4
  · by_cases e : j = i
    · subst e
      show _ = fu D.2.1 j _ j k
      rw [fu_s]
      by_cases e2 : k = c
      · rw [e2, upd_eq, upd_eq]
      · rw [upd_ne (by omega), upd_ne e2]; exact r4 j hj hj2 k hk
    · show _ = fu D.2.1 i _ j k
      rw [fu_n _ _ e]
      have := soff_far i hi j hj (Ne.symm e)
      rw [upd_ne (by omega)]; exact r4 j hj hj2 k hk
  · show BR _ (rof17 (fu D.2.1 i _ 2) b)
    rw [fu_n _ _ (Ne.symm h2)]
    have := soff_far i hi 2 (by decide) h2
    have e8 : soff 2 = 850 := rfl
    have e9 : ssz 2 = 15600 := rfl
    have := (soff_10 i hi).2
    by_cases hb120 : b < 120
    · exact BRx (r5 b hb) (fun q hq => upd_ne (by omega))
    · exact BRx (r5 b hb) (fun q hq => upd_ne (by omega))
/-- the numbers of one bout, on both sides -/
theorem REL.bout {D : LD} {S S' f r : Nat → Int32} (R : REL D S) {b : Nat} (hb : b < 120) (hs : ∀ k, k < 850 + 130 * b ∨ 850 + 130 * b + 130 ≤ k → S' k = S k) (ef : D.2.1 2 = f) (hr : b < D.1 2 → BR (tx S' b) r) : REL (D.1, fu D.2.1 2 (rwb f b r), D.2.2) S' := by
  obtain ⟨r1, r2, r3, r4, r5⟩ := R
  subst ef
  refine ⟨fun j hj hj4 => ?_, by rw [hs 7 (by omega)]; exact r2, r3, fun j hj hj2 k hk => ?_, fun q hq => ?_⟩
  · have := scnt_7 j hj
    rw [hs _ (by omega)]; exact r1 j hj hj4
  · show _ = fu D.2.1 2 _ j k
    rw [fu_n _ _ hj2]
    have := soff_far 2 (by decide) j hj (Ne.symm hj2)
    have e8 : soff 2 = 850 := rfl
    have e9 : ssz 2 = 15600 := rfl
    have := soff_10 j hj
    rw [hs _ (by omega)]; exact r4 j hj hj2 k hk
  · show BR _ (rof17 (fu D.2.1 2 _ 2) q)
    rw [fu_s]
    by_cases e : q = b
    · subst e
      exact (hr hq).congr (fun c hc => rwb_at hc) (fun c _ => rfl)
    · refine (r5 q hq).congr (fun c hc => ?_) (fun c hc => ?_)
      · show rwb _ b r (q * 17 + c) = D.2.1 2 (q * 17 + c)
        unfold rwb
        rw [if_neg (by omega)]
      · show S' _ = S _
        exact hs _ (by omega)
/-- one more bout -/
theorem REL.more {D : LD} {S : Nat → Int32} (R : REL D S) (hn : BR (tx S (D.1 2)) (rof17 (D.2.1 2) (D.1 2))) : REL (fu D.1 2 (D.1 2 + 1), D.2.1, D.2.2) (upd S 2 (nI (D.1 2 + 1))) := by
  obtain ⟨r1, r2, r3, r4, r5⟩ := R
  refine ⟨fun j hj hj4 => ?_, by rw [upd_ne (by omega)]; exact r2, by show fu D.1 2 (D.1 2 + 1) 4 = 4; rw [fu_n _ _ (by decide)]; exact r3, fun j hj hj2 k hk => ?_, fun b hb => ?_⟩
  · by_cases e : j = 2
    · subst e; rw [show scnt 2 = 2 from rfl, upd_eq]; show _ = nI (fu D.1 2 (D.1 2 + 1) 2); rw [fu_s]
    · have := scnt_ne j hj 2 (by decide) hj4 (by decide) e
      rw [upd_ne (show scnt j ≠ 2 from this)]; show _ = nI (fu D.1 2 (D.1 2 + 1) j); rw [fu_n _ _ e]; exact r1 j hj hj4
  · have := soff_10 j hj
    rw [upd_ne (by omega)]; exact r4 j hj hj2 k hk
  · have hb : b < fu D.1 2 (D.1 2 + 1) 2 := hb
    rw [fu_s] at hb
    by_cases e : b = D.1 2
    · subst e; exact BRx hn (fun c hc => upd_ne (by omega))
    · exact BRx (r5 b (by omega)) (fun c hc => upd_ne (by omega))
def pcn : Nat → Nat → Nat
  | 0, _ => 0
  | k + 1, m => m % 2 + pcn k (m / 2)
/-- ranges; t calls are done -/
def RNG (t : Nat) (D : LD) : Prop := ACTS (D.1 0) (D.2.1 0) ∧ (∀ i, i < D.1 1 → ∃ s, 1 ≤ s ∧ s < 1000 ∧ D.2.1 1 (i * 3 + 2) = nI s) ∧ (∀ p, p < D.1 3 → ∃ m, m < 2 ^ D.1 1 ∧ pcn 32 m ≤ 7 ∧ D.2.1 3 p = nI m) ∧ (∀ x, x < 4 → ∃ m, m ≤ 50 ∧ D.2.1 4 (x * 51) = nI m ∧ ∀ c, c < m → ∃ q, q < 128 ∧ D.2.1 4 (x * 51 + (1 + c)) = nI q) ∧ (∀ r, r < D.1 5 → ∃ hh, hh ≤ t ∧ D.2.1 5 (r * 3 + 2) = nI hh) ∧ (∀ i, i < D.1 7 → ∃ w p k, w < 1000 ∧ p ≤ 1000 ∧ k < 1000 ∧ D.2.1 7 (i * 4 + 1) = nI w ∧ D.2.1 7 (i * 4 + 2) = nI p ∧ D.2.1 7 (i * 4 + 3) = nI k) ∧ (∀ c, c < 9 → ∃ m, m ≤ 15 ∧ D.2.1 8 (c * 2) = nI m) ∧ (∃ q, 1 ≤ q ∧ q ≤ 10 ∧ D.2.2 = nI q) ∧ ∀ b, b < D.1 2 → D.2.1 2 (b * 17 + 2) = -1 ∨ ∃ p, p < D.1 3 ∧ D.2.1 2 (b * 17 + 2) = nI p
theorem RNG.mono {t t' : Nat} {D : LD} (N : RNG t D) (h : t ≤ t') : RNG t' D := by
  obtain ⟨n1, n2, n3, n4, n5, n6, n7, n8, n9⟩ := N
  refine ⟨n1, n2, n3, n4, fun r hr => ?_, n6, n7, n8, n9⟩
  obtain ⟨hh, h1, h2⟩ := n5 r hr
  exact ⟨hh, by omega, h2⟩
def cnt01 (q : Option Nat) : Nat := match q with
  | none => 0
  | some _ => 1
/-- the images of both -/
def IMG (t : Nat) (h : MH) (IM KP : Nat → Int32) : Prop := ∃ q : Nat → Option Nat, hg h 20 = qA 2 q ∧ (∀ i, i < 2 → (q i = none ∧ KP i = 0) ∨ ∃ b, q i = some b ∧ KP i = 1 ∧ 88 ≤ b ∧ b + 19 ≤ h.1 ∧ ∃ D, LG h b D ∧ REL D (fun k => IM (16450 * i + k)) ∧ RNG t D) ∧ (∀ a b, q 0 = some a → q 1 = some b → a + 19 ≤ b ∨ b + 19 ≤ a) ∧ h.1 = 88 + 19 * (cnt01 (q 0) + cnt01 (q 1)) ∧ h.2.1 ≤ 100000 + 10000 * (cnt01 (q 0) + cnt01 (q 1))
theorem IMG.same {t t' : Nat} {h h' : MH} {IM KP : Nat → Int32} (G : IMG t h IM KP) (ht : t ≤ t') (e1 : h'.1 = h.1) (e2 : h'.2.1 = h.2.1) (e3 : hg h' 20 = hg h 20) (e4 : ∀ k, 88 ≤ k → hg h' k = hg h k) : IMG t' h' IM KP := by
  obtain ⟨q, g1, g2, g3, g4, g5⟩ := G
  refine ⟨q, by rw [e3]; exact g1, fun i hi => ?_, g3, by rw [e1]; exact g4, by rw [e2]; exact g5⟩
  rcases g2 i hi with z | ⟨b, z1, z2, z3, z4, D, z5, z6, z7⟩
  · exact Or.inl z
  · exact Or.inr ⟨b, z1, z2, z3, by rw [e1]; exact z4, D, z5.same (fun k h1 h2 => e4 k (by omega)), z6, z7.mono ht⟩
def INVD (t : Nat) (h : MH) (D : LD) (S IM KP : Nat → Int32) : Prop := LG h 1 D ∧ FIX h ∧ MD h S IM KP ∧ REL D S ∧ RNG t D ∧ IMG t h IM KP
def INV (t : Nat) (h : MH) : Prop := ∃ (D : LD) (S IM KP : Nat → Int32), INVD t h D S IM KP
/-- both answer the same to the next call, and all that holds, holds again -/
def SAME (X : MX) (t : Nat) (h : MH) (j1 : Nat) (a1 : List Value) (j2 : Nat) (a2 : List Value) : Prop := ∃ (v : Value) (h1 h2 : MH), ev X j1 0 a1 [] h = some (some v, h1) ∧ ev X j2 0 a2 [] h1 = some (some v, h2) ∧ FIX h1 ∧ INV (t + 1) h2
theorem step_ok {X : MX} {t : Nat} {h : MH} {D : LD} {S IM KP : Nat → Int32} (I : INVD t h D S IM KP) {j1 j2 : Nat} {a1 a2 : List Value} {v : Value} {D' : LD} {S' : Nat → Int32} (c : CA X j1 a1 h v D') (m : ∀ h', FIX h' → MD h' S IM KP → MA X j2 a2 h' v S' IM KP) (R : REL D' S') (N : RNG (t + 1) D') : SAME X t h j1 a1 j2 a2 := by
  obtain ⟨L, F, M, R0, N0, G⟩ := I
  obtain ⟨h1, e1, K1, L1⟩ := c
  obtain ⟨h2, e2, K2, M2⟩ := m h1 K1.1 (K1.md M)
  refine ⟨v, h1, h2, e1, e2, K1.1, D', S', IM, KP, K2.lg L1, K2.1, M2, R, N, ?_⟩
  refine G.same (by omega) (K2.2.1.trans K1.2.1) (K2.2.2.1.trans K1.2.2.1) ?_ (fun k hk => (K2.2.2.2.2.2.2 k hk).trans (K1.2.2.2.2.2 k hk))
  rw [K2.2.2.2.1 20 (by decide) (by decide)]
  exact K1.2.2.2.1

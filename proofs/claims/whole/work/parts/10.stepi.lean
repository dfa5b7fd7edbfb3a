-- SOUNDNESS of the library's own calls; how sizes grow; returns
section SNI
variable {p : Program} {l : Launch} {e : Env} {R : Room} {s : State} {m : MethodId} {args : Array Value} {below : List Frame} {meth : Method} {c : Code} {Q : State → Prop} {G : GX} {X : MX} {j n0 s0 : Nat}
theorem cpy_eq {h h1 : MH} {a b : Nat} {sp dp n : Int32} (hv : cpy h a sp b dp n = some h1) : ∃ n0 f n1 g, hg h a = .inl (0, n0, .inl f) ∧ hg h b = .inl (0, n1, .inl g) ∧ ¬ sp < 0 ∧ ¬ dp < 0 ∧ ¬ n < 0 ∧ sp.toNatClampNeg + n.toNatClampNeg ≤ n0 ∧ dp.toNatClampNeg + n.toNatClampNeg ≤ n1 ∧ h1 = hp h b (.inl (0, n1, .inl (va_cpy f g sp.toNatClampNeg dp.toNatClampNeg n.toNatClampNeg))) := by
  unfold cpy at hv
  split at hv
  · rename_i n0 f n1 g ha hb
    split at hv
    · rename_i hc
      simp only [Bool.and_eq_true, decide_eq_true_eq] at hc
      obtain ⟨⟨⟨⟨c1, c2⟩, c3⟩, c4⟩, c5⟩ := hc
      cases hv
      exact ⟨n0, f, n1, g, ha, hb, Int32.not_lt.mpr c1, Int32.not_lt.mpr c2, Int32.not_lt.mpr c3, c4, c5, rfl⟩
    · cases hv
  · cases hv
theorem simI_ok {pc len pc' : Nat} {ins : Instr} {loc st loc' st' : List Value} {h h' : MH} (C : CX G X j n0 p s m args meth c) (hd : decode (mt_b (mq j)) pc = .ok (ins, len)) (hs : simI j pc ins len loc st h = some (pc', loc', st', h')) (hc1 : h'.1 ≤ n0 + R.cells) (hc2 : h'.2.1 ≤ s0 + R.slots) (hR1 : mt_rk (mq j) ≤ R.frames) (hR2 : 64 * mt_rk (mq j) ≤ R.locals) (k : WS G j n0 s0 p l e R s m args below meth c Q pc' loc' st' h') : WS G j n0 s0 p l e R s m args below meth c Q pc loc st h := by
  obtain ⟨hx, hb, hml, hown, hts, hr, hlk, hnm, hK, hE, hsz⟩ := C
  have hrp := rk_pos j
  unfold simI at hs
  split at hs
  · rename_i i
    split at hs
    · rename_i a r
      split at hs
      · rename_i hc
        obtain ⟨hi, hl⟩ := hc
        cases hs
        intro H locs cells slots ls a1 a2 a3 a4 a5
        have hsm := lite_sum (G := G) hl
        exact W.objInit hx hb hown (hts _ (itab_ok _ (tab_find hi))) (hts _ w_110) (hts _ w_111) rfl (a3.1.1.trans hml.symm) rfl hd (by omega) (by show 2 * 0 + _ + 12 ≤ _; omega) (k H locs cells slots ls a1 a2 a3 a4 a5)
      · cases hs
    · cases hs
  · rename_i i
    split at hs
    · rename_i hi
      split at hs
      · rename_i n dp b sp a r
        split at hs
        · rename_i hl
          cases hv : cpy h a sp b dp n with
          | none => rw [hv] at hs; cases hs
          | some h1 =>
            obtain ⟨m0, f, m1, g, ha, hbb, c1, c2, c3, c4, c5, rfl⟩ := cpy_eq hv
            rw [hv] at hs; cases hs
            intro H locs cells slots ls a1 a2 a3 a4 a5
            have hsm := lite_sum (G := G) hl
            obtain ⟨hlta, hea⟩ := cell_he a1 ha inl_ne
            obtain ⟨hltb, heb⟩ := cell_he a1 hbb inl_ne
            have hnf : nativeFrameWords "java/lang/System" "arraycopy" 5 = 7 := by decide
            have hq1 : 1 ≤ R.frames := by omega
            have hq2 : ((st'.map (rv G)).map fun v => v.category).sum + (nativeFrameWords "java/lang/System" "arraycopy" 5 + 11) ≤ R.locals := by rw [hnf]; omega
            exact va_copyi (ty := .int) hx hb (hml.trans a3.1.1.symm) hown (hts _ (itab_ok _ (tab_find hi))) (hts _ w_909) (hts _ w_908) (hts _ w_103) hK a1.2.1 mws_D a2 a b 0 0 hea heb rfl rfl rfl c1 c2 c3 c4 c5 (fun _ _ => rfl) hq1 hq2 hd (fun H1 locs1 b1 b2 b3 => k H1 locs1 cells slots ls (a1.put hltb b1) b3 a3 a4 a5)
        · cases hs
      · cases hs
    · rename_i hi
      split at hs
      · rename_i y x r
        split at hs
        · rename_i hl
          cases hs
          intro H locs cells slots ls a1 a2 a3 a4 a5
          have hsm := lite_sum (G := G) hl
          exact va_mmax hx hb (hml.trans a3.1.1.symm) hown (hts _ (itab_ok _ (tab_find hi))) (hts _ w_125) (hts _ w_86) (hts _ w_126) (by omega) (by omega) (by omega) (by omega) hd (k H locs cells slots ls a1 a2 a3 a4 a5)
        · cases hs
      · cases hs
    · rename_i hi
      split at hs
      · rename_i y x r
        split at hs
        · rename_i hl
          cases hs
          intro H locs cells slots ls a1 a2 a3 a4 a5
          have hsm := lite_sum (G := G) hl
          exact va_mmin hx hb (hml.trans a3.1.1.symm) hown (hts _ (itab_ok _ (tab_find hi))) (hts _ w_545) (hts _ w_86) (hts _ w_546) (by omega) (by omega) (by omega) (by omega) hd (k H locs cells slots ls a1 a2 a3 a4 a5)
        · cases hs
      · cases hs
    · rename_i hi
      split at hs
      · rename_i y r
        split at hs
        · rename_i hl
          cases hs
          intro H locs cells slots ls a1 a2 a3 a4 a5
          have hsm := lite_sum (G := G) hl
          exact va_mabs hx hb (hml.trans a3.1.1.symm) hown (hts _ (itab_ok _ (tab_find hi))) (hts _ w_539) (hts _ w_86) (hts _ w_540) (by omega) (by omega) (by omega) (by omega) hd (k H locs cells slots ls a1 a2 a3 a4 a5)
        · cases hs
      · cases hs
    · cases hs
  · cases hs
theorem ret_ok {Qc : Array Value → State → Outcome → State → Prop} {free : Addr → Prop} {pc len cells slots : Nat} {ins : Instr} {st : List Value} {v : Option Value} {H : Heap} {locs : List Loc} {ls : Array Slot} (C : CX G X j n0 p s m args meth c) (hd : decode (mt_b (mq j)) pc = .ok (ins, len)) (hs : retv j ins len st = some v)
    (hq : ∀ t : State, t.heap = H → s.WarmedH t.vm → Qc args s (.returned (v.map (rv G))) t) (hf : ∀ q ∈ locs, free q.base) : W p l e R s m args below meth c H locs cells slots (MQ below Qc args s cells slots free) (F0 m pc ls (st.map (rv G))) := by
  obtain ⟨hx, hb, hml, hown, hts, hr, hlk, hnm, hK, hE, hsz⟩ := C
  unfold retv at hs
  split at hs
  · split at hs
    · rename_i hn
      cases hs
      exact W.vret hx hb (hr.trans hn) hq hf hd hlk
    · cases hs
  · split at hs
    · rename_i hn
      cases hs
      exact W.iret hx hb (hr.trans hn) hq hf hd hlk
    · rename_i hn
      split at hs
      · rename_i hw
        cases hs
        exact W.zret hx hb (hr.trans hn) hw hq hf hd hlk
      · cases hs
    · rename_i hn
      split at hs
      · rename_i hw
        cases hs
        exact W.zret hx hb (hr.trans hn) hw hq hf hd hlk
      · cases hs
    · cases hs
  · split at hs
    · rename_i hn
      cases hs
      exact W.lret hx hb (hr.trans hn) hq hf hd hlk
    · cases hs
  · cases hs
end SNI
theorem retv_st {j len : Nat} {ins : Instr} {st : List Value} {v : Option Value} (hs : retv j ins len st = some v) : st = v.toList := by
  unfold retv at hs
  split at hs
  · split at hs <;> cases hs; rfl
  · split at hs
    · cases hs; rfl
    · split at hs <;> cases hs; rfl
    · split at hs <;> cases hs; rfl
    · cases hs
  · split at hs <;> cases hs; rfl
  · cases hs
theorem sim_grow {X : MX} {j pc len : Nat} {ins : Instr} {loc st : List Value} {h : MH} {q : MS} (hs : sim X j pc ins len loc st h = some q) : h.1 ≤ q.2.2.2.1 ∧ h.2.1 ≤ q.2.2.2.2.1 := by
  have same : ∀ {q : MS}, q.2.2.2 = h → h.1 ≤ q.2.2.2.1 ∧ h.2.1 ≤ q.2.2.2.2.1 := fun e => by rw [e]; exact ⟨Nat.le_refl _, Nat.le_refl _⟩
  have mp : ∀ {α : Type} {o : Option α} {f : α → MS} {q : MS}, o.map f = some q → ∃ a, o = some a ∧ q = f a := fun {α o f q} e => by
    cases o with
    | none => cases e
    | some a => cases e; exact ⟨a, rfl, rfl⟩
  unfold sim at hs
  split at hs
  · unfold simK at hs
    split at hs
    · cases hs; exact same rfl
    · cases hs; exact same rfl
    · cases hs; exact same rfl
    · cases hs; exact same rfl
    · split at hs
      · cases hs; exact same rfl
      · obtain ⟨a, -, rfl⟩ := mp hs; exact same rfl
    · obtain ⟨a, -, rfl⟩ := mp hs; exact same rfl
    · obtain ⟨a, -, rfl⟩ := mp hs; exact same rfl
    · cases hs
  · unfold simL at hs
    split at hs
    · obtain ⟨a, -, rfl⟩ := mp hs; exact same rfl
    · obtain ⟨a, -, rfl⟩ := mp hs; exact same rfl
    · obtain ⟨a, -, rfl⟩ := mp hs; exact same rfl
    · obtain ⟨a, -, rfl⟩ := mp hs; exact same rfl
    · obtain ⟨a, -, rfl⟩ := mp hs; exact same rfl
    · obtain ⟨a, -, rfl⟩ := mp hs; exact same rfl
    · split at hs
      · obtain ⟨a, -, rfl⟩ := mp hs; exact same rfl
      · cases hs
    · split at hs
      · obtain ⟨a, -, rfl⟩ := mp hs; exact same rfl
      · cases hs
    · split at hs
      · split at hs
        · obtain ⟨a, -, rfl⟩ := mp hs; exact same rfl
        · cases hs
      · cases hs
    · split at hs
      · split at hs
        · obtain ⟨a, -, rfl⟩ := mp hs; exact same rfl
        · cases hs
      · cases hs
    · split at hs
      · obtain ⟨a, -, rfl⟩ := mp hs; exact same rfl
      · cases hs
    · split at hs
      · obtain ⟨a, -, rfl⟩ := mp hs; exact same rfl
      · cases hs
    · split at hs
      · obtain ⟨a, -, rfl⟩ := mp hs; exact same rfl
      · cases hs
    · cases hs
  · unfold simA at hs
    split at hs
    all_goals first
      | (cases hs; exact same rfl)
      | (split at hs <;> first | (cases hs; exact same rfl) | cases hs)
      | cases hs
  · unfold simB at hs
    split at hs
    · obtain ⟨a, -, rfl⟩ := mp hs; exact same rfl
    · obtain ⟨a, -, rfl⟩ := mp hs; exact same rfl
    · obtain ⟨a, -, rfl⟩ := mp hs; exact same rfl
    · obtain ⟨a, -, rfl⟩ := mp hs; exact same rfl
    · cases hs; exact same rfl
    · split at hs
      · obtain ⟨a, -, rfl⟩ := mp hs; exact same rfl
      · obtain ⟨b, -, hb⟩ := Option.bind_eq_some_iff.mp hs
        obtain ⟨a, -, rfl⟩ := mp hb; exact same rfl
    · cases hs
  · unfold simH at hs
    have grow : ∀ {pc t n : Nat} {a0 : Nat → vp_A} {x : Int32} {loc r : List Value} {q : MS}, anw pc t n a0 x loc r h = some q → h.1 ≤ q.2.2.2.1 ∧ h.2.1 ≤ q.2.2.2.2.1 := fun hs => by
      obtain ⟨-, -, rfl⟩ := anw_eq hs
      exact ⟨Nat.le_add_right _ _, Nat.le_add_right _ _⟩
    split at hs
    · obtain ⟨b, -, hb⟩ := Option.bind_eq_some_iff.mp hs
      obtain ⟨a, -, rfl⟩ := mp hb; exact same rfl
    · obtain ⟨a, -, rfl⟩ := mp hs; exact same rfl
    · obtain ⟨b, -, hb⟩ := Option.bind_eq_some_iff.mp hs
      split at hb
      · obtain ⟨a, ha, rfl⟩ := mp hb
        obtain ⟨fs, -, -, rfl⟩ := pf_eq ha
        exact ⟨Nat.le_refl _, Nat.le_refl _⟩
      · cases hb
    · obtain ⟨a, -, rfl⟩ := mp hs; exact same rfl
    · obtain ⟨a, -, rfl⟩ := mp hs; exact same rfl
    · obtain ⟨b, -, hb⟩ := Option.bind_eq_some_iff.mp hs
      split at hb
      · cases hb; exact same rfl
      · cases hb
    · obtain ⟨a, -, rfl⟩ := mp hs; exact same rfl
    · split at hs
      · cases hs; exact same rfl
      · cases hs
    · obtain ⟨a, -, rfl⟩ := mp hs; exact same rfl
    · obtain ⟨a, -, rfl⟩ := mp hs; exact same rfl
    · obtain ⟨a, ha, rfl⟩ := mp hs
      obtain ⟨_, _, -, -, rfl⟩ := pa_eq ha
      exact ⟨Nat.le_refl _, Nat.le_refl _⟩
    · obtain ⟨a, ha, rfl⟩ := mp hs
      obtain ⟨_, _, -, -, rfl⟩ := pz_eq ha
      exact ⟨Nat.le_refl _, Nat.le_refl _⟩
    · obtain ⟨a, ha, rfl⟩ := mp hs
      obtain ⟨_, _, -, -, rfl⟩ := pl_eq ha
      exact ⟨Nat.le_refl _, Nat.le_refl _⟩
    · obtain ⟨a, ha, rfl⟩ := mp hs
      obtain ⟨_, _, _, -, -, -, rfl⟩ := pq_eq ha
      exact ⟨Nat.le_refl _, Nat.le_refl _⟩
    · obtain ⟨a, -, rfl⟩ := mp hs; exact same rfl
    · split at hs
      · cases hs; exact same rfl
      · obtain ⟨a, -, rfl⟩ := mp hs; exact same rfl
    · exact grow hs
    · exact grow hs
    · exact grow hs
    · split at hs
      · exact grow hs
      · cases hs
    · obtain ⟨a, -, rfl⟩ := mp hs
      exact ⟨Nat.le_add_right _ _, Nat.le_add_right _ _⟩
    · cases hs
  · unfold simI at hs
    split at hs
    · split at hs
      · split at hs
        · cases hs; exact same rfl
        · cases hs
      · cases hs
    · split at hs
      · split at hs
        · split at hs
          · obtain ⟨a, ha, rfl⟩ := mp hs
            obtain ⟨_, _, _, _, -, -, -, -, -, -, -, rfl⟩ := cpy_eq ha
            exact ⟨Nat.le_refl _, Nat.le_refl _⟩
          · cases hs
        · cases hs
      · split at hs
        · split at hs
          · cases hs; exact same rfl
          · cases hs
        · cases hs
      · split at hs
        · split at hs
          · cases hs; exact same rfl
          · cases hs
        · cases hs
      · split at hs
        · split at hs
          · cases hs; exact same rfl
          · cases hs
        · cases hs
      · cases hs
    · cases hs
  · cases hs
theorem exec_grow (X : MX) : ∀ (n j pc : Nat) (loc st : List Value) (h : MH) (r : Option Value × MH), exec X n j pc loc st h = some r → h.1 ≤ r.2.1 ∧ h.2.1 ≤ r.2.2.1
  | 0, _, _, _, _, _, _, hh => by cases hh
  | n + 1, j, pc, loc, st, h, r, hh => by
    unfold exec at hh
    cases hd : decode (mt_b (mq j)) pc with
    | error e => rw [hd] at hh; cases hh
    | ok q =>
      obtain ⟨ins, len⟩ := q
      rw [hd] at hh
      simp only at hh
      by_cases hk : kd ins = 6
      · rw [if_pos hk] at hh
        cases hr : retv j ins len st with
        | none => rw [hr] at hh; cases hh
        | some v => rw [hr] at hh; cases hh; exact ⟨Nat.le_refl _, Nat.le_refl _⟩
      · rw [if_neg hk] at hh
        cases hc : callOf j ins len st h with
        | some q =>
          rw [hc] at hh
          simp only at hh
          by_cases he : entOk q.1 q.2.1 = true
          · rw [if_pos he] at hh
            cases h1 : exec X n q.1 0 (entryL q.1 q.2.1) [] h with
            | none => rw [h1] at hh; cases hh
            | some r1 =>
              rw [h1] at hh
              have a := exec_grow X n _ _ _ _ _ _ h1
              have b := exec_grow X n _ _ _ _ _ _ hh
              exact ⟨Nat.le_trans a.1 b.1, Nat.le_trans a.2 b.2⟩
          · rw [if_neg he] at hh; cases hh
        | none =>
          rw [hc] at hh
          simp only at hh
          cases hs : sim X j pc ins len loc st h with
          | none => rw [hs] at hh; cases hh
          | some c =>
            rw [hs] at hh
            have a := sim_grow hs
            have b := exec_grow X n _ _ _ _ _ _ hh
            exact ⟨Nat.le_trans a.1 b.1, Nat.le_trans a.2 b.2⟩

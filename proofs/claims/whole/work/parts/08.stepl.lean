-- SOUNDNESS of locals
section SNL
variable {p : Program} {l : Launch} {e : Env} {R : Room} {s : State} {m : MethodId} {args : Array Value} {below : List Frame} {meth : Method} {c : Code} {Q : State → Prop} {G : GX} {X : MX} {j n0 s0 : Nat}
theorem ldI_eq {loc : List Value} {i : Nat} {v : Value} (h : ldI loc i = some v) : ∃ x, v = .int x ∧ loc[i]? = some (.int x) := by
  unfold ldI at h
  split at h
  · rename_i x hx; cases h; exact ⟨x, rfl, hx⟩
  · cases h
theorem ldL_eq {loc : List Value} {i : Nat} {v : Value} (h : ldL loc i = some v) : ∃ x, v = .long x ∧ loc[i]? = some (.long x) := by
  unfold ldL at h
  split at h
  · rename_i x hx; cases h; exact ⟨x, rfl, hx⟩
  · cases h
theorem ldA_eq {loc : List Value} {i : Nat} {v : Value} (h : ldA loc i = some v) : loc[i]? = some v ∧ isA v = true := by
  unfold ldA at h
  split at h
  · rename_i x hx; cases h; exact ⟨hx, rfl⟩
  · rename_i x hx; cases h; exact ⟨hx, rfl⟩
  · rename_i hx; cases h; exact ⟨hx, rfl⟩
  · cases h
theorem isA_rv {v : Value} (h : isA v = true) : (∃ a, rv G v = .ref a) ∨ rv G v = .null := by
  cases v with
  | ref k => exact Or.inl ⟨_, rfl⟩
  | retAddr k => exact Or.inl ⟨_, rfl⟩
  | null => exact Or.inr rfl
  | _ => simp [isA] at h
theorem isA_notF {v : Value} (h : isA v = true) : notF v = true := by cases v <;> first | rfl | simp [isA] at h
theorem isA_cat {v : Value} (h : isA v = true) : v.category = 1 := by cases v <;> first | rfl | simp [isA] at h
theorem setI_eq {loc loc' : List Value} {i : Nat} {v : Value} (h : setI j loc i v = some loc') : stO j loc i = true ∧ loc' = loc.set i v := by
  unfold setI at h
  split at h
  · rename_i hs; cases h; exact ⟨hs, rfl⟩
  · cases h
theorem setL_eq {loc loc' : List Value} {i : Nat} {v : Int64} (h : setL j loc i v = some loc') : stO j loc i = true ∧ i + 1 < loc.length ∧ (mt_s (mq j)).contains i = true ∧ loc' = (loc.set i (.long v)).set (i + 1) (.float 0) := by
  unfold setL at h
  split at h
  · rename_i hs
    simp only [Bool.and_eq_true, decide_eq_true_eq] at hs
    cases h; exact ⟨hs.1.1, hs.1.2, hs.2, rfl⟩
  · cases h
theorem simL_ok {pc len pc' : Nat} {ins : Instr} {loc st loc' st' : List Value} {h h' : MH} (C : CX G X j n0 p s m args meth c) (hd : decode (mt_b (mq j)) pc = .ok (ins, len)) (hs : simL j pc ins len loc st h = some (pc', loc', st', h')) (k : WS G j n0 s0 p l e R s m args below meth c Q pc' loc' st' h') : WS G j n0 s0 p l e R s m args below meth c Q pc loc st h := by
  obtain ⟨hx, hb, -⟩ := C
  unfold simL at hs
  split at hs
  · rename_i i
    cases hv : ldI loc i with
    | none => rw [hv] at hs; cases hs
    | some v =>
      obtain ⟨x, rfl, hl⟩ := ldI_eq hv
      rw [hv] at hs; cases hs
      exact fun H locs cells slots ls a1 a2 a3 a4 a5 => lv_iload hx hb hd (a3.get hl rfl) (k H locs cells slots ls a1 a2 a3 a4 a5)
  · rename_i i
    cases hv : ldI loc i.val with
    | none => rw [hv] at hs; cases hs
    | some v =>
      obtain ⟨x, rfl, hl⟩ := ldI_eq hv
      rw [hv] at hs; cases hs
      exact fun H locs cells slots ls a1 a2 a3 a4 a5 => lv_iload_n hx hb hd rfl (a3.get hl rfl) (k H locs cells slots ls a1 a2 a3 a4 a5)
  · rename_i i
    cases hv : ldL loc i with
    | none => rw [hv] at hs; cases hs
    | some v =>
      obtain ⟨x, rfl, hl⟩ := ldL_eq hv
      rw [hv] at hs; cases hs
      exact fun H locs cells slots ls a1 a2 a3 a4 a5 => lv_lload hx hb hd (a3.get hl rfl) (k H locs cells slots ls a1 a2 a3 a4 a5)
  · rename_i i
    cases hv : ldL loc i.val with
    | none => rw [hv] at hs; cases hs
    | some v =>
      obtain ⟨x, rfl, hl⟩ := ldL_eq hv
      rw [hv] at hs; cases hs
      exact fun H locs cells slots ls a1 a2 a3 a4 a5 => lv_lload_n hx hb hd rfl (a3.get hl rfl) (k H locs cells slots ls a1 a2 a3 a4 a5)
  · rename_i i
    cases hv : ldA loc i with
    | none => rw [hv] at hs; cases hs
    | some v =>
      obtain ⟨hl, ha⟩ := ldA_eq hv
      rw [hv] at hs; cases hs
      intro H locs cells slots ls a1 a2 a3 a4 a5
      have g := a3.get hl (isA_notF ha)
      have k1 : W p l e R s m args below meth c H locs cells slots Q (F0 m (pc + 2) ls (rv G v :: st.map (rv G))) := k H locs cells slots ls a1 a2 a3 a4 a5
      rcases isA_rv (G := G) ha with ⟨a, ea⟩ | ea
      · rw [ea] at g k1; exact lv_aload hx hb hd g k1
      · rw [ea] at g k1; exact lv_aloadN hx hb hd g k1
  · rename_i i
    cases hv : ldA loc i.val with
    | none => rw [hv] at hs; cases hs
    | some v =>
      obtain ⟨hl, ha⟩ := ldA_eq hv
      rw [hv] at hs; cases hs
      intro H locs cells slots ls a1 a2 a3 a4 a5
      have g := a3.get hl (isA_notF ha)
      have k1 : W p l e R s m args below meth c H locs cells slots Q (F0 m (pc + 1) ls (rv G v :: st.map (rv G))) := k H locs cells slots ls a1 a2 a3 a4 a5
      rcases isA_rv (G := G) ha with ⟨a, ea⟩ | ea
      · rw [ea] at g k1; exact lv_aload_n hx hb hd rfl g k1
      · rw [ea] at g k1; exact lv_aload_nN hx hb hd rfl g k1
  · rename_i i
    split at hs
    · rename_i x r
      cases hv : setI j loc i (.int x) with
      | none => rw [hv] at hs; cases hs
      | some l2 =>
        obtain ⟨hst, rfl⟩ := setI_eq hv
        rw [hv] at hs; cases hs
        exact fun H locs cells slots ls a1 a2 a3 a4 a5 => lv_istore hx hb hd a3.1 (by rw [← a3.2.1]; exact stO_lt hst) rfl (fun ls' h2 => k H locs cells slots ls' a1 a2 (a3.set1 hst rfl h2) a4 a5)
    · cases hs
  · rename_i i
    split at hs
    · rename_i x r
      cases hv : setI j loc i.val (.int x) with
      | none => rw [hv] at hs; cases hs
      | some l2 =>
        obtain ⟨hst, rfl⟩ := setI_eq hv
        rw [hv] at hs; cases hs
        exact fun H locs cells slots ls a1 a2 a3 a4 a5 => lv_istore_n hx hb hd rfl a3.1 (by rw [← a3.2.1]; exact stO_lt hst) rfl (fun ls' h2 => k H locs cells slots ls' a1 a2 (a3.set1 hst rfl h2) a4 a5)
    · cases hs
  · rename_i i
    split at hs
    · rename_i v r
      split at hs
      · rename_i ha
        cases hv : setI j loc i v with
        | none => rw [hv] at hs; cases hs
        | some l2 =>
          obtain ⟨hst, rfl⟩ := setI_eq hv
          rw [hv] at hs; cases hs
          intro H locs cells slots ls a1 a2 a3 a4 a5
          show W p l e R s m args below meth c H locs cells slots Q (F0 m pc ls (rv G v :: st'.map (rv G)))
          have hn : i < mt_l (mq j) := by rw [← a3.2.1]; exact stO_lt hst
          have kk := fun (ls' : Array Slot) (h2 : lv_has ls' (mt_l (mq j)) ((i, rv G v) :: (lvO G loc).filter (fun q => !(q.1 == i) && !(q.1 + 1 == i && q.2.category == 2)))) => k H locs cells slots ls' a1 a2 (a3.set1 hst (isA_cat ha) h2) a4 a5
          rcases isA_rv (G := G) ha with ⟨a, ea⟩ | ea
          · rw [ea] at kk ⊢; exact lv_astore hx hb hd a3.1 hn rfl kk
          · rw [ea] at kk ⊢; exact lv_astoreN hx hb hd a3.1 hn rfl kk
      · cases hs
    · cases hs
  · rename_i i
    split at hs
    · rename_i v r
      split at hs
      · rename_i ha
        cases hv : setI j loc i.val v with
        | none => rw [hv] at hs; cases hs
        | some l2 =>
          obtain ⟨hst, rfl⟩ := setI_eq hv
          rw [hv] at hs; cases hs
          intro H locs cells slots ls a1 a2 a3 a4 a5
          show W p l e R s m args below meth c H locs cells slots Q (F0 m pc ls (rv G v :: st'.map (rv G)))
          have hn : i.val < mt_l (mq j) := by rw [← a3.2.1]; exact stO_lt hst
          have kk := fun (ls' : Array Slot) (h2 : lv_has ls' (mt_l (mq j)) ((i.val, rv G v) :: (lvO G loc).filter (fun q => !(q.1 == i.val) && !(q.1 + 1 == i.val && q.2.category == 2)))) => k H locs cells slots ls' a1 a2 (a3.set1 hst (isA_cat ha) h2) a4 a5
          rcases isA_rv (G := G) ha with ⟨a, ea⟩ | ea
          · rw [ea] at kk ⊢; exact lv_astore_n hx hb hd rfl a3.1 hn rfl kk
          · rw [ea] at kk ⊢; exact lv_astore_nN hx hb hd rfl a3.1 hn rfl kk
      · cases hs
    · cases hs
  · rename_i i
    split at hs
    · rename_i x r
      cases hv : setL j loc i x with
      | none => rw [hv] at hs; cases hs
      | some l2 =>
        obtain ⟨hst, hi1, hm, rfl⟩ := setL_eq hv
        rw [hv] at hs; cases hs
        exact fun H locs cells slots ls a1 a2 a3 a4 a5 => lv_lstore hx hb hd a3.1 (by rw [← a3.2.1]; exact hi1) rfl (fun ls' h2 => k H locs cells slots ls' a1 a2 (a3.set2 hst hi1 hm h2) a4 a5)
    · cases hs
  · rename_i i
    split at hs
    · rename_i x r
      cases hv : setL j loc i.val x with
      | none => rw [hv] at hs; cases hs
      | some l2 =>
        obtain ⟨hst, hi1, hm, rfl⟩ := setL_eq hv
        rw [hv] at hs; cases hs
        exact fun H locs cells slots ls a1 a2 a3 a4 a5 => lv_lstore_n hx hb hd rfl a3.1 (by rw [← a3.2.1]; exact hi1) rfl (fun ls' h2 => k H locs cells slots ls' a1 a2 (a3.set2 hst hi1 hm h2) a4 a5)
    · cases hs
  · rename_i i n
    split at hs
    · rename_i x hl
      cases hv : setI j loc i (.int (x + Int32.ofInt n)) with
      | none => rw [hv] at hs; cases hs
      | some l2 =>
        obtain ⟨hst, rfl⟩ := setI_eq hv
        rw [hv] at hs; cases hs
        intro H locs cells slots ls a1 a2 a3 a4 a5
        obtain ⟨q, hq⟩ := List.getElem?_of_mem (lvO_mem (G := G) (q := (i, .int x)) |>.mpr ⟨.int x, hl, rfl, rfl⟩)
        exact lv_iinc hx hb hd a3.1 hq rfl (by rw [← a3.2.1]; exact stO_lt hst) rfl (fun ls' h2 => k H locs cells slots ls' a1 a2 (a3.set1 hst rfl h2) a4 a5)
    · cases hs
  · cases hs
end SNL

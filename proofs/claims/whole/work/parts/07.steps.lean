-- SOUNDNESS of single steps
theorem rk_pos (j : Nat) : 1 ≤ mt_rk (mq j) := by
  have h1 : mtab.all (fun q => decide (1 ≤ mt_rk q)) = true := by decide +kernel
  unfold mq
  split
  · decide
  · rw [List.getD_eq_getElem?_getD]
    cases hq : mtab[j]? with
    | none => decide
    | some q => exact of_decide_eq_true (List.all_eq_true.mp h1 q (List.mem_of_getElem? hq))
theorem cat_sum : ∀ st : List Value, (st.map fun v => v.category).sum ≤ 2 * st.length
  | [] => by simp
  | a :: st => by
    have ih := cat_sum st
    have ha : a.category ≤ 2 := by rcases lv_cat a with h | h <;> omega
    simp only [List.map_cons, List.sum_cons, List.length_cons]
    omega
theorem lite_sum {G : GX} {st : List Value} (h : lite st = true) : ((st.map (rv G)).map fun v => v.category).sum ≤ 8 := by
  have e : (st.map (rv G)).map (fun v => v.category) = st.map fun v => v.category := by
    rw [List.map_map]
    apply List.map_congr_left
    intro v _
    exact rv_cat G v
  rw [e]
  unfold lite at h
  simp only [Bool.or_eq_true, decide_eq_true_eq] at h
  rcases h with h | h
  · have := cat_sum st; omega
  · exact h
theorem inR_in {i : Int32} {n : Nat} (h : inR i n = true) : vp_in i n := by
  unfold inR at h
  simp only [Bool.and_eq_true, decide_eq_true_eq] at h
  intro q
  rcases q with q | q
  · exact absurd q (Int32.not_lt.mpr h.1)
  · omega
theorem cls_w : ∀ (ci : Nat) (r : vw_C), vwCl[ci]? = some r → ∀ w ∈ u_ws r.1 r.2.1 r.2.2, w ∈ BIG := by
  intro ci r h
  match ci, h with
  | 0, h => cases h; exact bX0
  | 1, h => cases h; exact bX1
  | 2, h => cases h; exact bX2
  | 3, h => cases h; exact bX3
  | 4, h => cases h; exact bX4
  | 5, h => cases h; exact bX5
  | 6, h => cases h; exact bX6
  | 7, h => cases h; exact bX7
  | 8, h => cases h; exact bX8
  | 9, h => cases h; exact bX9
  | 10, h => cases h; exact bX10
  | 11, h => cases h; exact bX11
  | 12, h => cases h; exact bX12
  | k + 13, h => simp [vwCl] at h
theorem cls_t : ∀ (ci : Nat) (r : vw_C), vwCl[ci]? = some r → (∃ ty : Nat → FieldType, ∀ k, k < r.2.2 → parseFieldDescriptor (r.2.1 k).2.2.1 = some (ty k)) ∧ (∀ a, a < r.2.2 → ∀ b, b < r.2.2 → a ≠ b → (r.2.1 a).2.1 ≠ (r.2.1 b).2.1) := by
  intro ci r h
  match ci, h with
  | 0, h => cases h; exact ⟨⟨_, tyX0_ok⟩, nmX0⟩
  | 1, h => cases h; exact ⟨⟨_, tyX1_ok⟩, nmX1⟩
  | 2, h => cases h; exact ⟨⟨_, tyX2_ok⟩, nmX2⟩
  | 3, h => cases h; exact ⟨⟨_, tyX3_ok⟩, nmX3⟩
  | 4, h => cases h; exact ⟨⟨_, tyX4_ok⟩, nmX4⟩
  | 5, h => cases h; exact ⟨⟨_, tyX5_ok⟩, nmX5⟩
  | 6, h => cases h; exact ⟨⟨_, tyX6_ok⟩, nmX6⟩
  | 7, h => cases h; exact ⟨⟨_, tyX7_ok⟩, nmX7⟩
  | 8, h => cases h; exact ⟨⟨_, tyX8_ok⟩, nmX8⟩
  | 9, h => cases h; exact ⟨⟨_, tyX9_ok⟩, nmX9⟩
  | 10, h => cases h; exact ⟨⟨_, tyX10_ok⟩, nmX10⟩
  | 11, h => cases h; exact ⟨⟨_, tyX11_ok⟩, nmX11⟩
  | 12, h => cases h; exact ⟨⟨_, tyX12_ok⟩, nmX12⟩
  | k + 13, h => simp [vwCl] at h
theorem cls_d : ∀ (ci : Nat) (r : vw_C), vwCl[ci]? = some r → r.1 = cn ci ∧ ∀ k, k < r.2.2 → (r.2.1 k).1 = r.1 := by
  intro ci r h
  match ci, h with
  | 0, h => cases h; exact ⟨rfl, by decide +kernel⟩
  | 1, h => cases h; exact ⟨rfl, by decide +kernel⟩
  | 2, h => cases h; exact ⟨rfl, by decide +kernel⟩
  | 3, h => cases h; exact ⟨rfl, by decide +kernel⟩
  | 4, h => cases h; exact ⟨rfl, by decide +kernel⟩
  | 5, h => cases h; exact ⟨rfl, by decide +kernel⟩
  | 6, h => cases h; exact ⟨rfl, by decide +kernel⟩
  | 7, h => cases h; exact ⟨rfl, by decide +kernel⟩
  | 8, h => cases h; exact ⟨rfl, by decide +kernel⟩
  | 9, h => cases h; exact ⟨rfl, by decide +kernel⟩
  | 10, h => cases h; exact ⟨rfl, by decide +kernel⟩
  | 11, h => cases h; exact ⟨rfl, by decide +kernel⟩
  | 12, h => cases h; exact ⟨rfl, by decide +kernel⟩
  | k + 13, h => simp [vwCl] at h
theorem tgo_eq {pc t : Nat} {off : Int} (h : tgo pc off = some t) : (pc : Int) + off = (t : Int) := by
  unfold tgo at h
  split at h
  · cases h; omega
  · cases h
theorem fit_rv {G : GX} {t : Option FieldType} {v : Value} (h : fitF t v = true) : ∃ ty, t = some ty ∧ narrow ty (rv G v) = rv G v ∧ fits ty (rv G v) = true := by
  cases t with
  | none => cases v <;> simp [fitF] at h
  | some ty =>
    refine ⟨ty, rfl, ?_⟩
    cases v with
    | retAddr k => simp [fitF] at h
    | ref k =>
      simp only [fitF, fitV, Bool.and_eq_true, decide_eq_true_eq] at h
      refine ⟨?_, ?_⟩
      · cases ty <;> rfl
      · cases ty <;> simp_all [rv, fits]
    | _ =>
      simp only [fitF, fitV, Bool.and_eq_true, decide_eq_true_eq] at h
      exact h
section SND
variable {p : Program} {l : Launch} {e : Env} {R : Room} {s : State} {m : MethodId} {args : Array Value} {below : List Frame} {meth : Method} {c : Code} {Q : State → Prop} {G : GX} {X : MX} {j n0 s0 : Nat}
theorem W_sz {H : Heap} {locs : List Loc} {cells slots : Nat} {g : JFrame} (k : H.size ≤ s.heap.size + cells → W p l e R s m args below meth c H locs cells slots Q g) : W p l e R s m args below meth c H locs cells slots Q g := fun T hT Y => k (by rw [← hT]; exact Y.heapSize) T hT Y
theorem simA_ok {pc len pc' : Nat} {ins : Instr} {loc st loc' st' : List Value} {h h' : MH} (C : CX G X j n0 p s m args meth c) (hd : decode (mt_b (mq j)) pc = .ok (ins, len)) (hs : simA pc ins len loc st h = some (pc', loc', st', h')) (k : WS G j n0 s0 p l e R s m args below meth c Q pc' loc' st' h') : WS G j n0 s0 p l e R s m args below meth c Q pc loc st h := by
  obtain ⟨hx, hb, -⟩ := C
  unfold simA at hs
  split at hs
  · cases hs; exact fun H locs cells slots ls a1 a2 a3 a4 a5 => lv_iadd hx hb hd (k H locs cells slots ls a1 a2 a3 a4 a5)
  · cases hs; exact fun H locs cells slots ls a1 a2 a3 a4 a5 => lv_isub hx hb hd (k H locs cells slots ls a1 a2 a3 a4 a5)
  · cases hs; exact fun H locs cells slots ls a1 a2 a3 a4 a5 => lv_imul hx hb hd (k H locs cells slots ls a1 a2 a3 a4 a5)
  · cases hs; exact fun H locs cells slots ls a1 a2 a3 a4 a5 => lv_iand hx hb hd (k H locs cells slots ls a1 a2 a3 a4 a5)
  · cases hs; exact fun H locs cells slots ls a1 a2 a3 a4 a5 => lv_ior hx hb hd (k H locs cells slots ls a1 a2 a3 a4 a5)
  · split at hs
    · cases hs
    · rename_i hne; cases hs; exact fun H locs cells slots ls a1 a2 a3 a4 a5 => lv_idiv hx hb hd hne (k H locs cells slots ls a1 a2 a3 a4 a5)
  · split at hs
    · cases hs
    · rename_i hne; cases hs; exact fun H locs cells slots ls a1 a2 a3 a4 a5 => lv_irem hx hb hd hne (k H locs cells slots ls a1 a2 a3 a4 a5)
  · cases hs; exact fun H locs cells slots ls a1 a2 a3 a4 a5 => lv_ishl hx hb hd (k H locs cells slots ls a1 a2 a3 a4 a5)
  · cases hs; exact fun H locs cells slots ls a1 a2 a3 a4 a5 => lv_ishr hx hb hd (k H locs cells slots ls a1 a2 a3 a4 a5)
  · cases hs; exact fun H locs cells slots ls a1 a2 a3 a4 a5 => lv_iushr hx hb hd rfl (k H locs cells slots ls a1 a2 a3 a4 a5)
  · cases hs; exact fun H locs cells slots ls a1 a2 a3 a4 a5 => lv_ineg hx hb hd (k H locs cells slots ls a1 a2 a3 a4 a5)
  · cases hs; exact fun H locs cells slots ls a1 a2 a3 a4 a5 => lv_ladd hx hb hd (k H locs cells slots ls a1 a2 a3 a4 a5)
  · cases hs; exact fun H locs cells slots ls a1 a2 a3 a4 a5 => lv_lsub hx hb hd (k H locs cells slots ls a1 a2 a3 a4 a5)
  · cases hs; exact fun H locs cells slots ls a1 a2 a3 a4 a5 => lv_lmul hx hb hd (k H locs cells slots ls a1 a2 a3 a4 a5)
  · split at hs
    · cases hs
    · rename_i hne; cases hs; exact fun H locs cells slots ls a1 a2 a3 a4 a5 => lv_ldiv hx hb hd hne (k H locs cells slots ls a1 a2 a3 a4 a5)
  · cases hs; exact fun H locs cells slots ls a1 a2 a3 a4 a5 => lv_lneg hx hb hd (k H locs cells slots ls a1 a2 a3 a4 a5)
  · cases hs; exact fun H locs cells slots ls a1 a2 a3 a4 a5 => lv_lshl hx hb hd rfl (k H locs cells slots ls a1 a2 a3 a4 a5)
  · cases hs; exact fun H locs cells slots ls a1 a2 a3 a4 a5 => lv_i2l hx hb hd rfl (k H locs cells slots ls a1 a2 a3 a4 a5)
  · cases hs; exact fun H locs cells slots ls a1 a2 a3 a4 a5 => lv_i2c hx hb hd rfl (k H locs cells slots ls a1 a2 a3 a4 a5)
  · cases hs; exact fun H locs cells slots ls a1 a2 a3 a4 a5 => lv_i2b hx hb hd rfl (k H locs cells slots ls a1 a2 a3 a4 a5)
  · cases hs; exact fun H locs cells slots ls a1 a2 a3 a4 a5 => W.lcmp hx hb hd (k H locs cells slots ls a1 a2 a3 a4 a5)
  · split at hs
    · rename_i hv; cases hs; exact fun H locs cells slots ls a1 a2 a3 a4 a5 => lv_dup hx hb hd (by rw [rv_cat]; exact hv) (k H locs cells slots ls a1 a2 a3 a4 a5)
    · cases hs
  · split at hs
    · rename_i hv; cases hs; exact fun H locs cells slots ls a1 a2 a3 a4 a5 => lv_dup2_11 hx hb hd (by rw [rv_cat]; exact hv.1) (by rw [rv_cat]; exact hv.2) (k H locs cells slots ls a1 a2 a3 a4 a5)
    · cases hs
  · split at hs
    · rename_i hv; cases hs; exact fun H locs cells slots ls a1 a2 a3 a4 a5 => lv_pop hx hb hd (by rw [rv_cat]; exact hv) (k H locs cells slots ls a1 a2 a3 a4 a5)
    · cases hs
  · cases hs
theorem simK_ok {pc len pc' : Nat} {ins : Instr} {loc st loc' st' : List Value} {h h' : MH} (C : CX G X j n0 p s m args meth c) (hd : decode (mt_b (mq j)) pc = .ok (ins, len)) (hs : simK j pc ins len loc st h = some (pc', loc', st', h')) (k : WS G j n0 s0 p l e R s m args below meth c Q pc' loc' st' h') : WS G j n0 s0 p l e R s m args below meth c Q pc loc st h := by
  obtain ⟨hx, hb, -, hown, hts, -, -, -, -, hE, -⟩ := C
  unfold simK at hs
  split at hs
  · cases hs; exact fun H locs cells slots ls a1 a2 a3 a4 a5 => lv_iconst hx hb hd rfl (k H locs cells slots ls a1 a2 a3 a4 a5)
  · cases hs; exact fun H locs cells slots ls a1 a2 a3 a4 a5 => lv_bipush hx hb hd rfl (k H locs cells slots ls a1 a2 a3 a4 a5)
  · cases hs; exact fun H locs cells slots ls a1 a2 a3 a4 a5 => lv_sipush hx hb hd rfl (k H locs cells slots ls a1 a2 a3 a4 a5)
  · cases hs; exact fun H locs cells slots ls a1 a2 a3 a4 a5 => lv_lconst hx hb hd rfl (k H locs cells slots ls a1 a2 a3 a4 a5)
  · split at hs
    · rename_i hc
      obtain ⟨hc, rfl⟩ := hc
      cases hs
      rw [hc] at hown
      exact fun H locs cells slots ls a1 a2 a3 a4 a5 => va_ldcS hx hb hown hE.2.2.1 hd (k H locs cells slots ls a1 a2 a3 a4 a5)
    · rename_i i _
      cases hk : kt (mt_c (mq j)) i with
      | none => rw [hk] at hs; cases hs
      | some v =>
        rw [hk] at hs
        cases hs
        exact fun H locs cells slots ls a1 a2 a3 a4 a5 => lv_ldc hx hb hown (hts _ (ktab_ok _ (tab_find hk))) hd (k H locs cells slots ls a1 a2 a3 a4 a5)
  · rename_i i
    cases hk : kt (mt_c (mq j)) i with
    | none => rw [hk] at hs; cases hs
    | some v =>
      rw [hk] at hs
      cases hs
      exact fun H locs cells slots ls a1 a2 a3 a4 a5 => lv_ldcw hx hb hown (hts _ (ktab_ok _ (tab_find hk))) hd (k H locs cells slots ls a1 a2 a3 a4 a5)
  · rename_i i
    cases hk : jt (mt_c (mq j)) i with
    | none => rw [hk] at hs; cases hs
    | some v =>
      rw [hk] at hs
      cases hs
      exact fun H locs cells slots ls a1 a2 a3 a4 a5 => lv_ldc2 hx hb hown (hts _ (jtab_ok _ (tab_find hk))) hd (k H locs cells slots ls a1 a2 a3 a4 a5)
  · cases hs
theorem simB_ok {pc len pc' : Nat} {ins : Instr} {loc st loc' st' : List Value} {h h' : MH} (C : CX G X j n0 p s m args meth c) (hd : decode (mt_b (mq j)) pc = .ok (ins, len)) (hs : simB pc ins len loc st h = some (pc', loc', st', h')) (k : WS G j n0 s0 p l e R s m args below meth c Q pc' loc' st' h') : WS G j n0 s0 p l e R s m args below meth c Q pc loc st h := by
  obtain ⟨hx, hb, -⟩ := C
  unfold simB at hs
  split at hs
  · rename_i cc off y x r
    cases ht : tgo pc off with
    | none => rw [ht] at hs; cases hs
    | some t =>
      rw [ht] at hs
      cases hs
      intro H locs cells slots ls a1 a2 a3 a4 a5
      have k1 := k H locs cells slots ls a1 a2 a3 a4 a5
      cases cc with
      | eq => exact lv_icmp_eq hx hb hd (tgo_eq ht) (fun q => by rw [if_pos (by simpa [cmpI] using q)] at k1; exact k1) (fun q => by rw [if_neg (by simpa [cmpI] using q)] at k1; exact k1)
      | ne => exact lv_icmp_ne hx hb hd (tgo_eq ht) (fun q => by rw [if_pos (by simpa [cmpI] using q)] at k1; exact k1) (fun q => by rw [if_neg (by simpa [cmpI] using q)] at k1; exact k1)
      | lt => exact lv_icmp_lt hx hb hd (tgo_eq ht) (fun q => by rw [if_pos (by simpa only [cmpI, decide_eq_true_eq] using q)] at k1; exact k1) (fun q => by rw [if_neg (by simpa only [cmpI, decide_eq_true_eq] using q)] at k1; exact k1)
      | ge => exact lv_icmp_ge hx hb hd (tgo_eq ht) (fun q => by rw [if_pos (by simpa only [cmpI, decide_eq_true_eq] using q)] at k1; exact k1) (fun q => by rw [if_neg (by simpa only [cmpI, decide_eq_true_eq] using q)] at k1; exact k1)
      | gt => exact lv_icmp_gt hx hb hd (tgo_eq ht) (fun q => by rw [if_pos (by simpa only [cmpI, decide_eq_true_eq] using q)] at k1; exact k1) (fun q => by rw [if_neg (by simpa only [cmpI, decide_eq_true_eq] using q)] at k1; exact k1)
      | le => exact lv_icmp_le hx hb hd (tgo_eq ht) (fun q => by rw [if_pos (by simpa only [cmpI, decide_eq_true_eq] using q)] at k1; exact k1) (fun q => by rw [if_neg (by simpa only [cmpI, decide_eq_true_eq] using q)] at k1; exact k1)
  · rename_i cc off x r
    cases ht : tgo pc off with
    | none => rw [ht] at hs; cases hs
    | some t =>
      rw [ht] at hs
      cases hs
      intro H locs cells slots ls a1 a2 a3 a4 a5
      have k1 := k H locs cells slots ls a1 a2 a3 a4 a5
      cases cc with
      | eq => exact lv_if_eq hx hb hd (tgo_eq ht) (fun q => by rw [if_pos (by simpa [cmpI] using q)] at k1; exact k1) (fun q => by rw [if_neg (by simpa [cmpI] using q)] at k1; exact k1)
      | ne => exact lv_if_ne hx hb hd (tgo_eq ht) (fun q => by rw [if_pos (by simpa [cmpI] using q)] at k1; exact k1) (fun q => by rw [if_neg (by simpa [cmpI] using q)] at k1; exact k1)
      | lt => exact lv_if_lt hx hb hd (tgo_eq ht) (fun q => by rw [if_pos (by simpa only [cmpI, decide_eq_true_eq] using q)] at k1; exact k1) (fun q => by rw [if_neg (by simpa only [cmpI, decide_eq_true_eq] using q)] at k1; exact k1)
      | ge => exact lv_if_ge hx hb hd (tgo_eq ht) (fun q => by rw [if_pos (by simpa only [cmpI, decide_eq_true_eq] using q)] at k1; exact k1) (fun q => by rw [if_neg (by simpa only [cmpI, decide_eq_true_eq] using q)] at k1; exact k1)
      | gt => exact lv_if_gt hx hb hd (tgo_eq ht) (fun q => by rw [if_pos (by simpa only [cmpI, decide_eq_true_eq] using q)] at k1; exact k1) (fun q => by rw [if_neg (by simpa only [cmpI, decide_eq_true_eq] using q)] at k1; exact k1)
      | le => exact lv_if_le hx hb hd (tgo_eq ht) (fun q => by rw [if_pos (by simpa only [cmpI, decide_eq_true_eq] using q)] at k1; exact k1) (fun q => by rw [if_neg (by simpa only [cmpI, decide_eq_true_eq] using q)] at k1; exact k1)
  · rename_i off
    cases ht : tgo pc off with
    | none => rw [ht] at hs; cases hs
    | some t =>
      rw [ht] at hs
      cases hs
      exact fun H locs cells slots ls a1 a2 a3 a4 a5 => lv_goto hx hb hd (tgo_eq ht) (k H locs cells slots ls a1 a2 a3 a4 a5)
  · rename_i off a r
    cases ht : tgo pc off with
    | none => rw [ht] at hs; cases hs
    | some t =>
      rw [ht] at hs
      cases hs
      exact fun H locs cells slots ls a1 a2 a3 a4 a5 => lv_ifnonnull hx hb hd (tgo_eq ht) (k H locs cells slots ls a1 a2 a3 a4 a5)
  · cases hs; exact fun H locs cells slots ls a1 a2 a3 a4 a5 => lv_ifnonnullN hx hb hd (k H locs cells slots ls a1 a2 a3 a4 a5)
  · rename_i d lo hi offs x r
    split at hs
    · rename_i hcnd
      cases ht : tgo pc d with
      | none => rw [ht] at hs; cases hs
      | some t =>
        rw [ht] at hs
        cases hs
        exact fun H locs cells slots ls a1 a2 a3 a4 a5 => lv_tableOut hx hb hd hcnd (tgo_eq ht) (k H locs cells slots ls a1 a2 a3 a4 a5)
    · rename_i hcnd
      cases ho : offs[(x.toInt - lo).toNat]? with
      | none => rw [ho] at hs; cases hs
      | some o =>
        rw [ho] at hs
        simp only [Option.bind_some] at hs
        cases ht : tgo pc o with
        | none => rw [ht] at hs; cases hs
        | some t =>
          rw [ht] at hs
          cases hs
          exact fun H locs cells slots ls a1 a2 a3 a4 a5 => lv_tableIn hx hb hd (fun q => hcnd (Or.inl q)) (fun q => hcnd (Or.inr q)) ho (tgo_eq ht) (k H locs cells slots ls a1 a2 a3 a4 a5)
  · cases hs
end SND

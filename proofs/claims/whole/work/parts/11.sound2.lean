-- SOUNDNESS: calls, and the whole
theorem big_good : GoodIn BIG BIG := fun w hw => ⟨hw, good_of_word (List.mem_filter.mp hw).2⟩
theorem ws_good {k : Nat} (hk : k < 263) : GoodIn BIG (Cond.code (mt_y (mq k)) (mt_b (mq k)) (mt_l (mq k)) (mt_r (mq k)) :: BIG) := fun w hw => by
  rcases List.mem_cons.mp hw with rfl | hw
  · exact big_good _ (mq_ok hk).2.2.1
  · exact big_good w hw
theorem spread_sl (G : GX) : ∀ As : List Value, (lg_sl (As.map (rv G))).length = (spread As).length
  | [] => rfl
  | a :: as => by
    have ih := spread_sl G as
    unfold lg_sl spread at *
    simp only [List.map_cons, List.flatMap_cons, List.length_append, rv_cat]
    rw [ih]
    split <;> rfl
theorem spread_mem (G : GX) : ∀ (As : List Value) (off i : Nat) (v : Value), (spread As)[i]? = some v → notF v = true → (off + i, rv G v) ∈ lv_args off (As.map (rv G))
  | [], off, i, v, h, _ => by simp [spread] at h
  | a :: as, off, i, v, h, hn => by
    have ih := spread_mem G as
    simp only [List.map_cons, lv_args, rv_cat]
    have e : spread (a :: as) = (if a.category = 2 then [a, .float 0] else [a]) ++ spread as := by simp [spread]
    rw [e] at h
    by_cases hc : a.category = 2
    · rw [if_pos hc] at h ⊢
      match i, h with
      | 0, h => cases h; exact List.mem_cons_self
      | 1, h => cases h; cases hn
      | i + 2, h =>
        have h2 : (spread as)[i]? = some v := h
        have := ih (off + 2) i v h2 hn
        rw [show off + 2 + i = off + (i + 2) by omega] at this
        exact List.mem_cons_of_mem _ this
    · rw [if_neg hc] at h ⊢
      match i, h with
      | 0, h => cases h; exact List.mem_cons_self
      | i + 1, h =>
        have h2 : (spread as)[i]? = some v := h
        have := ih (off + 1) i v h2 hn
        rw [show off + 1 + i = off + (i + 1) by omega] at this
        exact List.mem_cons_of_mem _ this
theorem entry_LR (G : GX) {k : Nat} {As : List Value} (he : entOk k As = true) : LR G k ((lg_sl (As.map (rv G)) ++ List.replicate (mt_l (mq k) - (lg_sl (As.map (rv G))).length) Slot.unset).toArray) (entryL k As) := by
  unfold entOk at he
  simp only [Bool.and_eq_true, decide_eq_true_eq, List.all_eq_true, List.mem_range] at he
  obtain ⟨h1, h2⟩ := he
  have hl := lv_entry (As.map (rv G)) (n := mt_l (mq k)) (by rw [spread_sl]; exact h1)
  have hlen : (entryL k As).length = mt_l (mq k) := by unfold entryL; rw [List.length_append, List.length_replicate]; omega
  refine ⟨⟨hl.1, hl.2.1, fun q hq => ?_⟩, hlen, fun i v hv hc => ?_⟩
  · obtain ⟨v, hv, hn, hq2⟩ := lvO_mem.mp hq
    apply hl.2.2
    have hi : (spread As)[q.1]? = some v := by
      unfold entryL at hv
      by_cases hlt : q.1 < (spread As).length
      · rwa [List.getElem?_append_left hlt] at hv
      · rw [List.getElem?_append_right (by omega)] at hv
        have := List.eq_of_mem_replicate (List.mem_of_getElem? hv)
        rw [this] at hn
        cases hn
    have := spread_mem G As 0 q.1 v hi hn
    rw [Nat.zero_add, ← hq2] at this
    exact this
  · have hi : i < mt_l (mq k) := by rw [← hlen]; exact (List.getElem?_eq_some_iff.mp hv).1
    have := h2 i hi
    rw [hv] at this
    cases v <;> first | exact this | (cases this; done) | simp [Value.category] at hc
def PcM (G : GX) (X : MX) (As : List Value) (h : MH) : Array Value → State → Prop := fun a U => a = (As.map (rv G)).toArray ∧ HR G h U.heap ∧ va_K G.1 vwCl (mty G) U ∧ EX G X U U.heap ∧ U.heap.size = gb G + h.1
def QcM (G : GX) (v : Option Value) (h1 : MH) : Array Value → State → Outcome → State → Prop := fun _ st o t => o = .returned (v.map (rv G)) ∧ HR G h1 t.heap ∧ va_F (AA G) st t
theorem PcM_blind (G : GX) (X : MX) (As : List Value) (h : MH) : FrameBlind (PcM G X As h) := fun a U g mk q => by
  obtain ⟨q1, q2, q3, q4, q5⟩ := q
  exact ⟨q1, q2, va_K.moved (u := U) (U := U.calling g mk a) (Vm.Alike.refl U.vm) q3, q4.same rfl rfl, q5⟩
abbrev rmM (k : Nat) (h h1 : MH) : Room := { frames := mt_rk (mq k), cells := h1.1 - h.1, slots := h1.2.1 - h.2.1, locals := 64 * mt_rk (mq k) }
/-- what a run of method k says, over every machine -/
def Says (X : MX) (k pc : Nat) (loc st : List Value) (h : MH) (v : Option Value) (h1 : MH) : Prop :=
  ∀ (G : GX) (p : Program) (l : Launch) (e : Env) (R : Room) (s : State) (m : MethodId) (args : Array Value) (below : List Frame) (meth : Method) (c : Code) (Q : State → Prop) (n0 s0 : Nat), CX G X k n0 p s m args meth c → mt_rk (mq k) ≤ R.frames → 64 * mt_rk (mq k) ≤ R.locals → h1.1 ≤ n0 + R.cells → h1.2.1 ≤ s0 + R.slots →
    (∀ (H : Heap) (locs : List Loc) (cells slots : Nat) (ls : Array Slot) (pc len : Nat) (ins : Instr) (st : List Value), HR G h1 H → va_S (AA G) s.heap H locs → n0 + cells = h1.1 → s0 + slots = h1.2.1 → decode (mt_b (mq k)) pc = .ok (ins, len) → retv k ins len st = some v → W p l e R s m args below meth c H locs cells slots Q (F0 m pc ls (st.map (rv G)))) →
    WS G k n0 s0 p l e R s m args below meth c Q pc loc st h
set_option maxHeartbeats 4000000 in
theorem met_of {X : MX} {k : Nat} {As : List Value} {h h1 : MH} {v : Option Value} (hk : k < 263) (he : entOk k As = true) (hgr : h.1 ≤ h1.1 ∧ h.2.1 ≤ h1.2.1) (hS : Says X k 0 (entryL k As) [] h v h1) (l : Launch) (G : GX) :
    Met l (mt_y (mq k)) (Cond.code (mt_y (mq k)) (mt_b (mq k)) (mt_l (mq k)) (mt_r (mq k)) :: BIG) (rmM k h h1) (PcM G X As h) (QcM G v h1) (h1.1 - h.1) (h1.2.1 - h.2.1) (AA G) := by
  have hok := mq_ok hk
  refine Met.ofW (cc := mt_b (mq k)) (maxL := mt_l (mq k)) (ret := mt_r (mq k)) hok.1 rfl ?_
  intro p e s m args below meth c s₁ B hml hv
  obtain ⟨rfl, hR, hK, hE, hsz⟩ := hv
  have hts : ∀ w ∈ BIG, w.before (As.map (rv G)).toArray s = true := fun w hw => atoms_spec (ws := Cond.code (mt_y (mq k)) (mt_b (mq k)) (mt_l (mq k)) (mt_r (mq k)) :: BIG) B.pre w (List.mem_cons_of_mem _ hw)
  have hown : s.vm.findClass (cn (mt_c (mq k))) = some m.cls := by
    rw [hok.2.2.2.2.2.2.2]
    exact findClass_of_methodNamed B.named
  have hC : CX G X k h.1 p s m (As.map (rv G)).toArray meth c := ⟨B.exec, B.bytes, hml, hown, hts, B.returns, B.notSynchronized, fun h => (name_of_methodNamed B.named B.method).1.trans h, hK, hE, hsz⟩
  rw [lg_entry_eq]
  refine hS G p l e _ s m _ below meth c _ h.1 h.2.1 hC (Nat.le_refl _) (Nat.le_refl _) (by show h1.1 ≤ h.1 + (h1.1 - h.1); omega) (by show h1.2.1 ≤ h.2.1 + (h1.2.1 - h.2.1); omega) ?_ s.heap [] 0 0 _ hR va_S.rf (entry_LR G he) rfl rfl
  intro H locs cells slots ls pc len ins st a1 a2 a3 a4 hd hr
  have e1 : cells = h1.1 - h.1 := by omega
  have e2 : slots = h1.2.1 - h.2.1 := by omega
  subst e1
  subst e2
  exact ret_ok hC hd hr (fun t ht _ => ⟨rfl, by rw [ht]; exact a1, a2.F ht⟩) a2.2.2
section SNC
variable {p : Program} {l : Launch} {e : Env} {R : Room} {s : State} {m : MethodId} {args : Array Value} {below : List Frame} {meth : Method} {c : Code} {Q : State → Prop} {G : GX} {X : MX} {j n0 s0 : Nat}
theorem run_then {H : Heap} {locs : List Loc} {cells slots mc ms pc : Nat} {ls : Array Slot} {st0 rest : List Value} {v : Option Value} {h1 : MH} {a : Array Value} (hr : va_Run p l e R s m args below meth c H locs cells slots mc ms (F0 m pc ls st0) rest (QcM G v h1 a) (AA G)) (hS : va_S (AA G) s.heap H locs)
    (kk : ∀ (H1 : Heap) (locs1 : List Loc), HR G h1 H1 → va_S (AA G) s.heap H1 locs1 → W p l e R s m args below meth c H1 locs1 (cells + mc) (slots + ms) Q (F0 m (pc + 3) ls ((v.map (rv G)).toList ++ rest))) : W p l e R s m args below meth c H locs cells slots Q (F0 m pc ls st0) := by
  intro T hT Y
  obtain ⟨v', st₀, t, T', L, h0, Y', hL, e1, e2, ⟨hv, hR, hz, hk⟩, st⟩ := hr T hT Y
  cases hv
  rw [h0] at hz hk
  obtain ⟨t2, b1, b2⟩ := kk T'.heap (locs ++ L) (by rw [e1]; exact hR) ⟨Nat.le_trans hS.1 (by rw [e1]; exact hz), fun q h1 h2 => by rw [e1, hk q (Nat.lt_of_lt_of_le h1 hS.1) h2]; exact hS.2.1 q h1 h2, fun q hq => by
    rcases List.mem_append.mp hq with h | h
    · exact hS.2.2 q h
    · exact hL q h⟩ T' rfl Y'
  exact ⟨t2, st t2 b1, b2⟩
theorem drop_cons {α : Type} {l : List α} {n : Nat} {b : α} {r : List α} (h : l.drop n = b :: r) : n < l.length ∧ l = l.take n ++ b :: r := by
  have h1 : n < l.length := by
    rcases Nat.lt_or_ge n l.length with q | q
    · exact q
    · rw [List.drop_eq_nil_of_le q] at h; cases h
  exact ⟨h1, by rw [← h, List.take_append_drop]⟩
set_option maxHeartbeats 4000000 in
theorem call_ok {pc len : Nat} {ins : Instr} {loc st : List Value} {h h1 : MH} {v : Option Value} {q : Nat × List Value × List Value} (C : CX G X j n0 p s m args meth c) (hd : decode (mt_b (mq j)) pc = .ok (ins, len)) (hc : callOf j ins len st h = some q) (he : entOk q.1 q.2.1 = true) (hgr : h.1 ≤ h1.1 ∧ h.2.1 ≤ h1.2.1) (hS : Says X q.1 0 (entryL q.1 q.2.1) [] h v h1) (hR1 : mt_rk (mq j) ≤ R.frames) (hR2 : 64 * mt_rk (mq j) ≤ R.locals) (hc1 : h1.1 ≤ n0 + R.cells) (hc2 : h1.2.1 ≤ s0 + R.slots) (k : WS G j n0 s0 p l e R s m args below meth c Q (pc + 3) loc (v.toList ++ q.2.2) h1) : WS G j n0 s0 p l e R s m args below meth c Q pc loc st h := by
  obtain ⟨hx, hb, hml, hown, hts, hr, hlk, hnm, hK, hE, hsz⟩ := C
  intro H locs cells slots ls a1 a2 a3 a4 a5
  refine W_sz (fun hz => ?_)
  have hH : H.size = gb G + h.1 := by have := a1.1; omega
  have hfx : CallFix p m c (mt_b (mq j)) (mt_l (mq j)) s args BIG (cn (mt_c (mq j))) := ⟨hx, hb, hml, hown, hts⟩
  have hpre : ∀ (As : List Value) (U : State), U.heap = H → s.WarmedH U.vm → PcM G X As h (As.map (rv G)).toArray U := fun As U hU hW => ⟨rfl, by rw [hU]; exact a1, va_K.moved hW.alike hK, hE.go a2 hU hW, by rw [hU]; exact hH⟩
  have k1 : ∀ (H1 : Heap) (locs1 : List Loc), HR G h1 H1 → va_S (AA G) s.heap H1 locs1 → W p l e R s m args below meth c H1 locs1 (cells + (h1.1 - h.1)) (slots + (h1.2.1 - h.2.1)) Q (F0 m (pc + 3) ls ((v.map (rv G)).toList ++ q.2.2.map (rv G))) := by
    intro H1 locs1 b1 b2
    have := k H1 locs1 (cells + (h1.1 - h.1)) (slots + (h1.2.1 - h.2.1)) ls b1 b2 a3 (by omega) (by omega)
    have e1 : (v.toList ++ q.2.2).map (rv G) = (v.map (rv G)).toList ++ q.2.2.map (rv G) := by
      rw [List.map_append]; cases v <;> rfl
    rw [e1] at this
    exact this
  have room : ∀ {k : Nat}, mayc j k = true → (rmM k h h1).frames + 1 ≤ R.frames ∧ 8 + (mt_l (mq k) + 11) + (rmM k h h1).locals ≤ R.locals := fun {k} hm => by
    unfold mayc at hm
    simp only [Bool.and_eq_true, decide_eq_true_eq] at hm
    refine ⟨?_, ?_⟩
    · show mt_rk (mq k) + 1 ≤ R.frames; omega
    · show 8 + (mt_l (mq k) + 11) + 64 * mt_rk (mq k) ≤ R.locals; omega
  have hfit : cells + (h1.1 - h.1) ≤ R.cells ∧ slots + (h1.2.1 - h.2.1) ≤ R.slots := ⟨by omega, by omega⟩
  unfold callOf at hc
  split at hc
  · -- invokevirtual
    rename_i i
    cases hct : ct (mt_c (mq j)) i with
    | none => rw [hct] at hc; cases hc
    | some q0 =>
      obtain ⟨kk, lk⟩ := q0
      rw [hct] at hc
      simp only [Option.bind_some] at hc
      obtain ⟨hk, hl0, hl1⟩ := ctab_ok _ (tab_find hct)
      have hk : kk < 263 := hk
      have hok := mq_ok hk
      split at hc
      · rename_i b r hdr
        split at hc
        · rename_i hcc
          obtain ⟨hkd, hlk0, hmc, hrv, hlt⟩ := hcc
          cases hc
          obtain ⟨hn, hst⟩ := drop_cons hdr
          have hM := met_of hk he hgr hS l G
          have hin := hok.2.2.2.2.2.1 hkd
          have hrec : ∃ b', rv G b = .ref b' ∧ ∃ cellB : Cell, H[b']? = some cellB ∧ cellB.vm.isStatics = false ∧ s.vm.findClass (mt_y (mq kk)).cls = some cellB.cls := by
            unfold recvOk at hrv
            split at hrv
            · rename_i a
              split at hrv
              · rename_i ci fs hcell
                split at hrv
                · rename_i rc hrc
                  refine ⟨gb G + a, rfl, ?_⟩
                  obtain ⟨hltc, hec⟩ := cell_he a1 hcell (vw_ne hrc)
                  have := va_recv hK a1.2.1 hrc hec
                  rw [(cls_d ci rc hrc).1] at this
                  have hcn : cn ci = (mt_y (mq kk)).cls := by
                    rw [← hok.2.2.2.2.2.2.2]
                    rcases of_decide_eq_true hrv with e | ⟨e1, e2⟩
                    · rw [e]
                    · rw [e1]
                      unfold cn
                      rw [if_neg (by decide), if_pos e2]
                      rfl
                  rw [hcn] at this
                  exact this
                · cases hrv
              · cases hrv
            · refine ⟨gr G 4, rfl, ?_⟩
              obtain ⟨cell, g1, g2, g3, -⟩ := hE.2.2.2.2.2.2.2.2.2.1.kept a2.2.1
              have hcn : (mt_y (mq kk)).cls = RJ0 := by
                rw [← hok.2.2.2.2.2.2.2, of_decide_eq_true hrv]
                rfl
              rw [hcn]
              exact ⟨cell, g1, g2, g3⟩
            · cases hrv
          obtain ⟨b', hb', hcB⟩ := hrec
          refine run_then (va_runV (b := b') (As := ((st.take (mt_n (mq kk))).reverse).map (rv G)) (rest := r.map (rv G)) hfx hM ⟨callB_of (mt_n (mq kk)) hts (ws_good hk) rfl rfl rfl (hts _ hok.2.2.2.1) (hts _ (hl0 hlk0)) hok.2.1 (room hmc), hts _ hin.1, hts _ hin.2⟩ ⟨PcM_blind _ _ _ _, hcB, fun U hU hW => ?_⟩ rfl (by rw [List.length_map, List.length_reverse, List.length_take]; omega) a3.1.1 ?_ (lv_room (lite_sum hlt)) hd hfit) a2 k1
          · have := hpre (b :: (st.take (mt_n (mq kk))).reverse) U hU hW
            rw [List.map_cons, hb'] at this
            exact this
          · show st.map (rv G) = _
            conv => lhs; rw [hst]
            rw [List.map_append, List.map_cons, hb', List.map_reverse, List.reverse_reverse]
        · cases hc
      · cases hc
  · -- invokespecial
    rename_i i
    cases hct : ct (mt_c (mq j)) i with
    | none => rw [hct] at hc; cases hc
    | some q0 =>
      obtain ⟨kk, lk⟩ := q0
      rw [hct] at hc
      simp only [Option.bind_some] at hc
      obtain ⟨hk, hl0, hl1⟩ := ctab_ok _ (tab_find hct)
      have hk : kk < 263 := hk
      have hok := mq_ok hk
      split at hc
      · rename_i b r hdr
        split at hc
        · rename_i hcc
          obtain ⟨hkd, hlk0, hmc, hrv, hlt⟩ := hcc
          cases hc
          obtain ⟨hn, hst⟩ := drop_cons hdr
          have hM := met_of hk he hgr hS l G
          obtain ⟨hy1, hin, hrn⟩ := hok.2.2.2.2.2.2.1 hkd
          obtain ⟨b', hb'⟩ : ∃ b', rv G b = .ref b' := by
            cases b with
            | ref a => exact ⟨_, rfl⟩
            | _ => cases hrv
          have hw2 : ∀ {ret : Option FieldType}, ret = none → (Cond.code (mt_y (mq kk)) (mt_b (mq kk)) (mt_l (mq kk)) ret :: BIG) = Cond.code (mt_y (mq kk)) (mt_b (mq kk)) (mt_l (mq kk)) none :: BIG := fun h => by rw [h]
          refine run_then (va_runI (b := b') (As := ((st.take (mt_n (mq kk))).reverse).map (rv G)) (rest := r.map (rv G)) hfx hM ⟨callB_of (mt_n (mq kk)) hts (ws_good hk) (hw2 hrn) rfl rfl (hts _ hok.2.2.2.1) (hts _ (hl0 hlk0)) hok.2.1 (room hmc), hy1, hts _ hin⟩ ⟨PcM_blind _ _ _ _, fun U hU hW => ?_⟩ rfl (by rw [List.length_map, List.length_reverse, List.length_take]; omega) a3.1.1 ?_ (lv_room (lite_sum hlt)) hd hfit) a2 k1
          · have := hpre (b :: (st.take (mt_n (mq kk))).reverse) U hU hW
            rw [List.map_cons, hb'] at this
            exact this
          · show st.map (rv G) = _
            conv => lhs; rw [hst]
            rw [List.map_append, List.map_cons, hb', List.map_reverse, List.reverse_reverse]
        · cases hc
      · cases hc
  · -- invokestatic
    rename_i i
    cases hct : ct (mt_c (mq j)) i with
    | none => rw [hct] at hc; cases hc
    | some q0 =>
      obtain ⟨kk, lk⟩ := q0
      rw [hct] at hc
      simp only [Option.bind_some] at hc
      obtain ⟨hk, hl0, hl1⟩ := ctab_ok _ (tab_find hct)
      have hk : kk < 263 := hk
      have hok := mq_ok hk
      split at hc
      · rename_i hcc
        obtain ⟨hkd, hlkk, hmc, hnl, hlt⟩ := hcc
        cases hc
        have hM := met_of hk he hgr hS l G
        have hin := hok.2.2.2.2.1 hkd
        have hpr : PreS s H (PcM G X (st.take (mt_n (mq kk))).reverse h) (((st.take (mt_n (mq kk))).reverse).map (rv G)) := ⟨PcM_blind _ _ _ _, fun U hU hW => hpre _ U hU hW⟩
        have hstk : (F0 m pc ls (st.map (rv G))).stack = (((st.take (mt_n (mq kk))).reverse).map (rv G)).reverse ++ (st.drop (mt_n (mq kk))).map (rv G) := by
          show st.map (rv G) = _
          conv => lhs; rw [← List.take_append_drop (mt_n (mq kk)) st]
          rw [List.map_append, List.map_reverse, List.reverse_reverse]
        have hlen : (((st.take (mt_n (mq kk))).reverse).map (rv G)).length = mt_n (mq kk) := by rw [List.length_map, List.length_reverse, List.length_take]; omega
        rcases hlkk with h0 | h0
        · exact run_then (va_runS (As := ((st.take (mt_n (mq kk))).reverse).map (rv G)) (rest := (st.drop (mt_n (mq kk))).map (rv G)) hfx hM ⟨callB_of (mt_n (mq kk)) hts (ws_good hk) rfl rfl rfl (hts _ hok.2.2.2.1) (hts _ (hl0 h0)) hok.2.1 (room hmc), hts _ hin⟩ hpr rfl hlen a3.1.1 hstk (lv_room (lite_sum hlt)) hd hfit) a2 k1
        · exact run_then (va_runSN (host := RX11) (As := ((st.take (mt_n (mq kk))).reverse).map (rv G)) (rest := (st.drop (mt_n (mq kk))).map (rv G)) hfx hM ⟨va_cnB (mt_n (mq kk)) hts (ws_good hk) rfl rfl rfl (hE.1 _ (hl1 h0)) (hts _ hok.2.2.2.1) hok.2.1 (room hmc), hts _ hin, trivial⟩ hpr rfl hlen a3.1.1 hstk (lv_room (lite_sum hlt)) hd hfit) a2 k1
      · cases hc
  · cases hc
end SNC
set_option maxHeartbeats 4000000 in
/-- THE MINI MACHINE IS SOUND -/
theorem sound (X : MX) : ∀ (n j pc : Nat) (loc st : List Value) (h : MH) (v : Option Value) (h1 : MH), exec X n j pc loc st h = some (v, h1) → Says X j pc loc st h v h1
  | 0, _, _, _, _, _, _, _, hh => by cases hh
  | n + 1, j, pc, loc, st, h, v, h1, hh => by
    intro G p l e R s m args below meth c Q n0 s0 C hR1 hR2 hc1 hc2 K
    unfold exec at hh
    cases hd : decode (mt_b (mq j)) pc with
    | error e => rw [hd] at hh; cases hh
    | ok q =>
      obtain ⟨ins, len⟩ := q
      rw [hd] at hh
      simp only at hh
      by_cases hk : kd ins = 6
      · rw [if_pos hk] at hh
        cases hr : retv j ins len st with
        | none => rw [hr] at hh; cases hh
        | some v' =>
          rw [hr] at hh; cases hh
          exact fun H locs cells slots ls a1 a2 a3 a4 a5 => K H locs cells slots ls pc len ins st a1 a2 a4 a5 hd hr
      · rw [if_neg hk] at hh
        cases hc : callOf j ins len st h with
        | some q =>
          rw [hc] at hh
          simp only at hh
          by_cases he : entOk q.1 q.2.1 = true
          · rw [if_pos he] at hh
            cases h2 : exec X n q.1 0 (entryL q.1 q.2.1) [] h with
            | none => rw [h2] at hh; cases hh
            | some r1 =>
              rw [h2] at hh
              obtain ⟨v1, hm⟩ := r1
              have a := exec_grow X n _ _ _ _ _ _ h2
              have b := exec_grow X n _ _ _ _ _ _ hh
              have b1 : hm.1 ≤ h1.1 := b.1
              have b2 : hm.2.1 ≤ h1.2.1 := b.2
              exact call_ok C hd hc he a (sound X n _ _ _ _ _ _ _ h2) hR1 hR2 (Nat.le_trans b1 hc1) (Nat.le_trans b2 hc2) (sound X n _ _ _ _ _ _ _ hh G p l e R s m args below meth c Q n0 s0 C hR1 hR2 hc1 hc2 K)
          · rw [if_neg he] at hh; cases hh
        | none =>
          rw [hc] at hh
          simp only at hh
          cases hs : sim X j pc ins len loc st h with
          | none => rw [hs] at hh; cases hh
          | some cq =>
            rw [hs] at hh
            obtain ⟨pc', loc', st', h'⟩ := cq
            have b := exec_grow X n _ _ _ _ _ _ hh
            have b1 : h'.1 ≤ h1.1 := b.1
            have b2 : h'.2.1 ≤ h1.2.1 := b.2
            have k := sound X n _ _ _ _ _ _ _ hh G p l e R s m args below meth c Q n0 s0 C hR1 hR2 hc1 hc2 K
            unfold sim at hs
            split at hs
            · exact simK_ok C hd hs k
            · exact simL_ok C hd hs k
            · exact simA_ok C hd hs k
            · exact simB_ok C hd hs k
            · exact simH_ok C hd hs (by omega) (by omega) k
            · exact simI_ok C hd hs (by omega) (by omega) hR1 hR2 k
            · cases hs

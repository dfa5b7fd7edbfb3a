-- SOUNDNESS, first half: the picture of the heap, of the locals; what a method's body stands on
abbrev GX : Type := va_G × (Nat → ClassId) × Nat × (Nat → Nat)
abbrev gb (G : GX) : Nat := G.2.2.1
abbrev gr (G : GX) : Nat → Nat := G.2.2.2
def rv (G : GX) (v : Value) : Value := match v with
  | .ref k => .ref (gb G + k)
  | .retAddr k => .ref (gr G k)
  | .int x => .int x
  | .long x => .long x
  | .float x => .float x
  | .double x => .double x
  | .null => .null
theorem rv_cat (G : GX) (v : Value) : (rv G v).category = v.category := by cases v <;> rfl
def mA (G : GX) (a : vp_A) : vp_A := match a with
  | (n, .inl f) => (n, .inl f)
  | (n, .inr (.inl f)) => (n, .inr (.inl f))
  | (n, .inr (.inr (.inl f))) => (n, .inr (.inr (.inl f)))
  | (n, .inr (.inr (.inr (.inl f)))) => (n, .inr (.inr (.inr (.inl f))))
  | (n, .inr (.inr (.inr (.inr f)))) => (n, .inr (.inr (.inr (.inr (fun j => (f j).map (fun k => gb G + k))))))
theorem mA_len (G : GX) (a : vp_A) : (mA G a).1 = a.1 := by obtain ⟨n, f | f | f | f | f⟩ := a <;> rfl
def mE (G : GX) (c : MC) : va_E := match c with
  | .inl (t, a) => .inl (G.2.1 t, mA G a)
  | .inr (ci, fs) => .inr (ci, fs.map (rv G))
def mws (G : GX) (h : MH) : va_W := (List.range h.1).map (fun k => (gb G + k, mE G (hg h k)))
def AA (G : GX) : Nat → Prop := fun q => gb G ≤ q
theorem mws_get {G : GX} {h : MH} {k : Nat} (hk : k < h.1) : (mws G h)[k]? = some (gb G + k, mE G (hg h k)) := by
  unfold mws
  rw [List.getElem?_map, List.getElem?_range hk]
  rfl
theorem mws_lt {G : GX} {h : MH} {k : Nat} {q : Nat × va_E} (hk : (mws G h)[k]? = some q) : k < h.1 ∧ q = (gb G + k, mE G (hg h k)) := by
  have h1 : k < (mws G h).length := (List.getElem?_eq_some_iff.mp hk).1
  have h2 : k < h.1 := by simpa [mws] using h1
  rw [mws_get h2] at hk
  exact ⟨h2, (Option.some.inj hk).symm⟩
theorem mws_D {G : GX} {h : MH} : va_D (AA G) (mws G h) := by
  refine ⟨fun i j p q hi hj e => ?_, fun k q hk => ?_⟩
  · obtain ⟨_, rfl⟩ := mws_lt hi
    obtain ⟨_, rfl⟩ := mws_lt hj
    have e : gb G + i = gb G + j := e
    omega
  · obtain ⟨_, rfl⟩ := mws_lt hk
    exact Nat.le_add_right _ _
theorem mws_len {G : GX} {h : MH} : (mws G h).length = h.1 := by simp [mws]
theorem mws_set {G : GX} {h : MH} {k : Nat} {c : MC} (hk : k < h.1) : (mws G h).set k (gb G + k, mE G c) = mws G (hp h k c) := by
  apply List.ext_getElem?
  intro i
  by_cases hi : i < h.1
  · rw [mws_get (h := hp h k c) (k := i) hi]
    by_cases hik : i = k
    · subst hik
      rw [List.getElem?_set_self (by rw [mws_len]; exact hi)]
      simp [hg, hp]
    · rw [List.getElem?_set_ne (Ne.symm hik), mws_get hi]
      simp [hg, hp, hik]
  · rw [List.getElem?_eq_none (by rw [List.length_set, mws_len]; omega), List.getElem?_eq_none (by rw [mws_len]; show h.1 ≤ i; omega)]
def HR (G : GX) (h : MH) (H : Heap) : Prop := gb G + h.1 ≤ H.size ∧ va_P G.1 vwCl (mws G h) H ∧ ∀ k, h.1 ≤ k → hg h k = mjunk
theorem HR.lt {G : GX} {h : MH} {H : Heap} {k : Nat} (hR : HR G h H) (hk : ¬ hg h k = mjunk) : k < h.1 := Nat.lt_of_not_le fun q => hk (hR.2.2 k q)
theorem HR.put {G : GX} {h : MH} {H H1 : Heap} {k : Nat} {c : MC} (hR : HR G h H) (hk : k < h.1) (hP : va_P G.1 vwCl ((mws G h).set k (gb G + k, mE G c)) H1) : HR G (hp h k c) H1 := by
  rw [mws_set hk] at hP
  refine ⟨?_, hP, fun i hi => ?_⟩
  · have h1 := (hP (h.1 - 1) _ (mws_get (h := hp h k c) (by show h.1 - 1 < h.1; omega))).lt
    have h2 : gb G + (h.1 - 1) < H1.size := h1
    show gb G + h.1 ≤ H1.size
    omega
  · have hi : h.1 ≤ i := hi
    show (if i = k then c else h.2.2 i) = mjunk
    rw [if_neg (by omega)]
    exact hR.2.2 i hi
theorem HR.push {G : GX} {h : MH} {H H1 : Heap} {c : MC} {sz : Nat} (hR : HR G h H) (hz : H.size = gb G + h.1) (hz1 : H1.size = H.size + 1) (ho : ∀ q, q < H.size → H1[q]? = H[q]?) (hc : va_at G.1 vwCl (H.size, mE G c) H1) : HR G (hnw h c sz) H1 := by
  refine ⟨?_, ?_, fun i hi => ?_⟩
  · show gb G + (h.1 + 1) ≤ H1.size
    omega
  · intro k q hk
    obtain ⟨h1, rfl⟩ := mws_lt hk
    have h1 : k < h.1 + 1 := h1
    by_cases hkn : k = h.1
    · subst hkn
      have e : hg (hnw h c sz) h.1 = c := by simp [hg, hnw]
      rw [e, ← hz]
      exact hc
    · have e : hg (hnw h c sz) k = hg h k := by simp [hg, hnw, hkn]
      rw [e]
      refine (hR.2.1 k _ (mws_get (by omega))).kept (ho _ ?_)
      show gb G + k < H.size
      omega
  · have hi : h.1 + 1 ≤ i := hi
    show (if i = h.1 then c else h.2.2 i) = mjunk
    rw [if_neg (by omega)]
    exact hR.2.2 i (by omega)
def mty (G : GX) : List (ClassId × FieldType) := [(G.2.1 0, .int), (G.2.1 1, .long), (G.2.1 2, .boolean), (G.2.1 3, .object RX4)]
def EX (G : GX) (X : MX) (U : State) (H : Heap) : Prop :=
  (∀ w ∈ nestw, va_Nw w U) ∧ va_AO RX4 U ∧ vk_R RX2 111 "wdgbsyr" (gr G 4) U ∧
  va_Z RX9 "ORDERS" "[I" (.ref (gr G 1)) (AA G) U H ∧ va_Z RX9 "FIRST_PLACES" "[I" (.ref (gr G 2)) (AA G) U H ∧ va_Z RX9 "SECOND_PLACES" "[I" (.ref (gr G 3)) (AA G) U H ∧ va_Z RJ0 "COMPACT_STRINGS" "Z" (.int 1) (AA G) U H ∧
  (∀ (k : Nat) (q : Nat × (Nat → Int32)), roA X k = some q → va_T .int (gr G k) q.1 (fun j => .int (q.2 j)) (AA G) U H) ∧
  va_T .byte (gr G 5) 7 (fun j => .int (roB j)) (AA G) U H ∧ va_O RJ0 (gr G 4) (AA G) U H ∧ va_OF RJ0 "coder" "B" (.int 0) (gr G 4) (AA G) U H ∧ va_OF RJ0 "value" "[B" (.ref (gr G 5)) (gr G 4) (AA G) U H
theorem nestw_shape : ∀ w ∈ nestw, ∃ a i x b, w = Cond.methodLinkNest a i x b := by
  intro w hw
  simp only [nestw, List.mem_cons, List.not_mem_nil, or_false] at hw
  rcases hw with rfl | rfl | rfl | rfl | rfl | rfl | rfl <;> exact ⟨_, _, _, _, rfl⟩
theorem EX.go {G : GX} {X : MX} {s U : State} {H : Heap} {locs : List Loc} (h : EX G X s s.heap) (hS : va_S (AA G) s.heap H locs) (hU : U.heap = H) (hW : s.WarmedH U.vm) : EX G X U U.heap := by
  obtain ⟨h1, h2, h3, h4, h5, h6, h7, h8, h9, h10, h11, h12⟩ := h
  subst hU
  have ha := hW.alike
  refine ⟨fun w hw => ?_, va_AO.moved ha h2, vk_R.warm hW h3, va_Z.moved ha (h4.kept hS.2.1), va_Z.moved ha (h5.kept hS.2.1), va_Z.moved ha (h6.kept hS.2.1), va_Z.moved ha (h7.kept hS.2.1), fun k q hq => va_T.moved ha ((h8 k q hq).kept hS.2.1), va_T.moved ha (h9.kept hS.2.1), va_O.moved ha (h10.kept hS.2.1), va_OF.moved ha (h11.kept hS.2.1), va_OF.moved ha (h12.kept hS.2.1)⟩
  have h0 := h1 w hw
  obtain ⟨a, i, x, b, rfl⟩ := nestw_shape w hw
  exact va_Nw.warmM hW h0
theorem EX.same {G : GX} {X : MX} {s U : State} (h : EX G X s s.heap) (hv : U.vm = s.vm) (hU : U.heap = s.heap) : EX G X U U.heap := by
  obtain ⟨h1, h2, h3, h4, h5, h6, h7, h8, h9, h10, h11, h12⟩ := h
  have ha : s.vm.Alike U.vm := by rw [hv]; exact Vm.Alike.refl s.vm
  rw [hU]
  refine ⟨fun w hw => ?_, va_AO.moved ha h2, vk_R.same hv h3, va_Z.moved ha h4, va_Z.moved ha h5, va_Z.moved ha h6, va_Z.moved ha h7, fun k q hq => va_T.moved ha (h8 k q hq), va_T.moved ha h9, va_O.moved ha h10, va_OF.moved ha h11, va_OF.moved ha h12⟩
  have h0 := h1 w hw
  obtain ⟨a, i, x, b, rfl⟩ := nestw_shape w hw
  exact va_Nw.same rfl hv.symm h0
def notF (v : Value) : Bool := match v with
  | .float _ => false
  | _ => true
def lvO (G : GX) (loc : List Value) : List (Nat × Value) := (List.range loc.length).filterMap (fun i => (loc[i]?).bind (fun v => if notF v then some (i, rv G v) else none))
theorem lvO_mem {G : GX} {loc : List Value} {q : Nat × Value} : q ∈ lvO G loc ↔ ∃ v, loc[q.1]? = some v ∧ notF v = true ∧ q.2 = rv G v := by
  unfold lvO
  rw [List.mem_filterMap]
  constructor
  · rintro ⟨i, -, hi⟩
    cases hv : loc[i]? with
    | none => rw [hv] at hi; cases hi
    | some v =>
      rw [hv] at hi
      simp only [Option.bind_some] at hi
      split at hi
      · rename_i hn
        cases hi
        exact ⟨v, hv, hn, rfl⟩
      · cases hi
  · rintro ⟨v, hv, hn, he⟩
    refine ⟨q.1, List.mem_range.mpr (List.getElem?_eq_some_iff.mp hv).1, ?_⟩
    rw [hv]
    simp only [Option.bind_some, hn, if_true]
    rw [← he]
def LR (G : GX) (j : Nat) (ls : Array Slot) (loc : List Value) : Prop := lv_has ls (mt_l (mq j)) (lvO G loc) ∧ loc.length = mt_l (mq j) ∧ ∀ (i : Nat) (v : Value), loc[i]? = some v → v.category = 2 → (mt_s (mq j)).contains i = true
theorem LR.get {G : GX} {j : Nat} {ls : Array Slot} {loc : List Value} {i : Nat} {v : Value} (h : LR G j ls loc) (hv : loc[i]? = some v) (hn : notF v = true) : ls[i]? = some (.val (rv G v)) := h.1.2.2 (i, rv G v) (lvO_mem.mpr ⟨v, hv, hn, rfl⟩)
theorem stO_lt {j : Nat} {loc : List Value} {i : Nat} (h : stO j loc i = true) : i < loc.length := by
  unfold stO at h
  simp only [Bool.and_eq_true, decide_eq_true_eq] at h
  exact h.1
theorem stO_cat {G : GX} {j : Nat} {ls : Array Slot} {loc : List Value} {i k : Nat} {v : Value} (hL : LR G j ls loc) (h : stO j loc i = true) (hk : k + 1 = i) (hv : loc[k]? = some v) : ¬ v.category = 2 := by
  intro hc
  have h1 := hL.2.2 k v hv hc
  have e : i - 1 = k := by omega
  unfold stO at h
  rw [e, h1, hv] at h
  have hi0 : ¬ i = 0 := by omega
  cases v <;> simp [hi0, Value.category] at h hc
theorem LR.set1 {G : GX} {j : Nat} {ls ls' : Array Slot} {loc : List Value} {i : Nat} {v : Value} (hL : LR G j ls loc) (hs : stO j loc i = true) (hc : v.category = 1) (h' : lv_has ls' (mt_l (mq j)) ((i, rv G v) :: (lvO G loc).filter (fun q => !(q.1 == i) && !(q.1 + 1 == i && q.2.category == 2)))) : LR G j ls' (loc.set i v) := by
  have hi := stO_lt hs
  refine ⟨⟨h'.1, h'.2.1, fun q hq => ?_⟩, by rw [List.length_set]; exact hL.2.1, fun k w hw hcw => ?_⟩
  · obtain ⟨w, hw, hn, he⟩ := lvO_mem.mp hq
    by_cases hqi : q.1 = i
    · rw [hqi, List.getElem?_set_self hi] at hw
      cases hw
      have : q = (i, rv G v) := by rw [← hqi, ← he]
      rw [this]
      exact h'.2.2 _ List.mem_cons_self
    · rw [List.getElem?_set_ne (Ne.symm hqi)] at hw
      refine h'.2.2 q (List.mem_cons_of_mem _ (List.mem_filter.mpr ⟨lvO_mem.mpr ⟨w, hw, hn, he⟩, ?_⟩))
      by_cases hk : q.1 + 1 = i
      · have hnc := stO_cat hL hs hk hw
        simp [hqi, he, rv_cat, hnc]
      · simp [hqi, hk]
  · by_cases hki : k = i
    · rw [hki, List.getElem?_set_self hi] at hw
      cases hw
      omega
    · rw [List.getElem?_set_ne (Ne.symm hki)] at hw
      exact hL.2.2 k w hw hcw
theorem LR.set2 {G : GX} {j : Nat} {ls ls' : Array Slot} {loc : List Value} {i : Nat} {x : Int64} (hL : LR G j ls loc) (hs : stO j loc i = true) (hi1 : i + 1 < loc.length) (hm : (mt_s (mq j)).contains i = true) (h' : lv_has ls' (mt_l (mq j)) ((i, .long x) :: (lvO G loc).filter (fun q => !(q.1 == i) && (!(q.1 == i + 1) && !(q.1 + 1 == i && q.2.category == 2))))) : LR G j ls' ((loc.set i (.long x)).set (i + 1) (.float 0)) := by
  have hi := stO_lt hs
  refine ⟨⟨h'.1, h'.2.1, fun q hq => ?_⟩, by rw [List.length_set, List.length_set]; exact hL.2.1, fun k w hw hcw => ?_⟩
  · obtain ⟨w, hw, hn, he⟩ := lvO_mem.mp hq
    by_cases hq1 : q.1 = i + 1
    · rw [hq1, List.getElem?_set_self (by rw [List.length_set]; exact hi1)] at hw
      cases hw
      cases hn
    · rw [List.getElem?_set_ne (Ne.symm hq1)] at hw
      by_cases hqi : q.1 = i
      · rw [hqi, List.getElem?_set_self hi] at hw
        cases hw
        have : q = (i, .long x) := by rw [← hqi]; exact Prod.ext rfl he
        rw [this]
        exact h'.2.2 _ List.mem_cons_self
      · rw [List.getElem?_set_ne (Ne.symm hqi)] at hw
        refine h'.2.2 q (List.mem_cons_of_mem _ (List.mem_filter.mpr ⟨lvO_mem.mpr ⟨w, hw, hn, he⟩, ?_⟩))
        by_cases hk : q.1 + 1 = i
        · have hnc := stO_cat hL hs hk hw
          simp [hqi, hq1, he, rv_cat, hnc]
        · simp [hqi, hq1, hk]
  · by_cases hk1 : k = i + 1
    · rw [hk1, List.getElem?_set_self (by rw [List.length_set]; exact hi1)] at hw
      cases hw
      cases hcw
    · rw [List.getElem?_set_ne (Ne.symm hk1)] at hw
      by_cases hki : k = i
      · rw [hki]; exact hm
      · rw [List.getElem?_set_ne (Ne.symm hki)] at hw
        exact hL.2.2 k w hw hcw
def CX (G : GX) (X : MX) (j n0 : Nat) (p : Program) (s : State) (m : MethodId) (args : Array Value) (meth : Method) (c : Code) : Prop :=
  p.tables.exec = Jvm.exec ∧ c.code = mt_b (mq j) ∧ c.maxLocals = mt_l (mq j) ∧ s.vm.findClass (cn (mt_c (mq j))) = some m.cls ∧ (∀ w ∈ BIG, w.before args s = true) ∧ meth.sig.returnType = mt_r (mq j) ∧ meth.locks = false ∧ ((mt_y (mq j)).name = "<init>" → meth.name = "<init>") ∧ va_K G.1 vwCl (mty G) s ∧ EX G X s s.heap ∧ s.heap.size = gb G + n0
def WS (G : GX) (j n0 s0 : Nat) (p : Program) (l : Launch) (e : Env) (R : Room) (s : State) (m : MethodId) (args : Array Value) (below : List Frame) (meth : Method) (c : Code) (Q : State → Prop) (pc : Nat) (loc st : List Value) (h : MH) : Prop :=
  ∀ (H : Heap) (locs : List Loc) (cells slots : Nat) (ls : Array Slot), HR G h H → va_S (AA G) s.heap H locs → LR G j ls loc → n0 + cells = h.1 → s0 + slots = h.2.1 → W p l e R s m args below meth c H locs cells slots Q (F0 m pc ls (st.map (rv G)))

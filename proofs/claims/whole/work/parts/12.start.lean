def R_law : String := "TouchLeagueLaw"
def lw_P (b : Addr) (xs : List Int32) (args : Array Value) (s : State) : Prop := args = #[.ref b] ∧ s.IntsAt b xs ∧ xs.length ≤ 3584 ∧ (Jvm.Cond.and given_1 narrow_1).before args s = true
def lw_Q (_ : Array Value) (s : State) (o : Outcome) (t : State) : Prop := o = .returned (some (.int 1)) ∧ Framed s o t [] 600000 7302250
def lw_Z (below : List Frame) (a : Array Value) (s : State) : State → Prop := fun t => ∃ o, t.status = .running ∧ Ended t below o ∧ lw_Q a s o t
/-- the law's own end, with 1 on the stack, nothing written that was there before, its room as the claim has it -/
theorem lw_ret {p : Program} {l : Launch} {e : Env} {s : State} {m : MethodId} {below : List Frame} {meth : Method} {c : Code} {b : Nat} (hx : p.tables.exec = Jvm.exec) (hb : c.code = code) (hr : meth.sig.returnType = ret) (hlocks : meth.locks = false) {pc : Nat} {H : Heap} {ls : Array Slot} (hdg : decode code pc = .ok (.ireturn, 1)) : W p l e room_1 s m #[Value.ref b] below meth c H [] 600000 7302250 (lw_Z below #[Value.ref b] s) (F0 m pc ls [.int 1]) := by
  intro T hT X
  obtain ⟨fs, hret, hrun, hended, hW, hframe⟩ := X.leave (v := some (.int 1)) (hlocks := hlocks) (fun h => by rw [hr] at h; cases h)
  have hmeth' : T.vm.method? m = some meth := X.method'
  refine ⟨T.setFrames fs, ?_, .returned (some (.int 1)), hrun, hended, rfl, ⟨_, rfl⟩, hW, hframe⟩
  jvm_step X.here [X.here.top, hx, hb, hdg, hmeth', hr, ret, narrow_b1]
  (try refine ⟨rfl, ?_⟩); (try refine ⟨rfl, ?_⟩)
  first | (intro acts; rw [hret _ acts rfl rfl rfl]) | rw [hret _ _ rfl rfl rfl]
  exact Steps.refl _
/-- what holds at the law's entry: the machine, the code, the tables' words (any of lw_tbl by 'hts w (by decide +kernel)'), the script of L ints xs at the cell b, what the Statement gives of the start (any of its parts by flat_of_before) -/
def lw_At (p : Program) (s : State) (m : MethodId) (meth : Method) (c : Code) (b L : Nat) (xs : Nat → Int32) : Prop :=
  p.tables.exec = Jvm.exec ∧ c.code = code ∧ meth.sig.returnType = ret ∧ c.maxLocals = 4 ∧ s.vm.findClass R_law = some m.cls ∧ (∀ w ∈ lw_tbl, w.before #[Value.ref b] s = true) ∧ va_X b L xs s s.heap ∧ b < s.heap.size ∧ meth.locks = false ∧ (Jvm.Cond.and given_1 narrow_1).before #[Value.ref b] s = true

def h00 : MH := (0, 0, fun _ => mjunk)
/-- what is left to prove, of the mini machine alone -/
def LawOk : Prop := ∀ X : MX, X.1 ≤ 3584 → ∃ h1 : MH, ev X 263 0 [.retAddr 0, .float 0, .float 0, .float 0] [] h00 = some (some (.int 1), h1) ∧ h1.1 ≤ 600000 ∧ h1.2.1 ≤ 7302250
theorem elems {args : Array Value} {s : State} {tm : Term} (l : List Int32) (h : ∀ j : Nat, j < l.length → (Cond.eq (.elem tm (.int (Int32.ofNat j))) (.int (l.getD j 0))).before args s = true) (j : Nat) (hj : j < l.length) : (Term.elem tm (.int (Int32.ofNat j))).eval args s none [] s = some (.int (l.getD j 0)) := va_eqt (h j hj)
set_option maxHeartbeats 4000000 in
theorem start_open (hlaw : LawOk) {p : Program} {e : Env} {s : State} {m : MethodId} {below : List Frame} {meth : Method} {c : Code} (l : Launch) {b L : Nat} {xs : Nat → Int32} (hL : L ≤ 3584) (C0 : lw_At p s m meth c b L xs) : W p l e room_1 s m #[Value.ref b] below meth c s.heap [] 0 0 (lw_Z below #[Value.ref b] s) (entryFrame m ([Value.ref b] : List Value).toArray 4) := by
  obtain ⟨hx, hb, hr, hml, hown, hts, hX, hbl, hlocks, hgv⟩ := id C0
  have hg := flat_of_before _ hgv
  have hB : ∀ w ∈ BIG, w.before #[Value.ref b] s = true := fun w hw => hts w (List.mem_filter.mp hw).1
  have hA : ∀ a : Nat, a < s.heap.size → ¬ (s.heap.size ≤ a) := fun a h => Nat.not_le.mpr h
  have h0 : ∀ k : Nat, ∃ z : ClassId × (Nat → Nat), ∀ q : vw_C, vwCl[k]? = some q → u_Kn s q.1 q.2.1 q.2.2 z.1 z.2 := fun k => by
    cases hq : vwCl[k]? with
    | none => exact ⟨(0, fun _ => 0), fun q h => by cases h⟩
    | some q =>
      obtain ⟨cC, iS, hK⟩ := u_known hB (cls_w k q hq) (hB _ (inst_ok k q hq))
      exact ⟨(cC, iS), fun q' h => by cases h; exact hK⟩
  obtain ⟨z, hz⟩ := Classical.axiomOfChoice h0
  obtain ⟨cI, kI, mI, i1, i2, i3⟩ := Cond.arrayClass_spec (hB _ w_148)
  obtain ⟨cJ, kJ, mJ, j1, j2, j3⟩ := Cond.arrayClass_spec (hB _ w_305)
  obtain ⟨cZ, kZ, mZ, z1, z2, z3⟩ := Cond.arrayClass_spec (hB _ w_306)
  obtain ⟨mQ, cQ, kQ, q1, q2, q3, q4, q5⟩ := Cond.arrayOver_spec (hts _ lwm_over)
  obtain ⟨t1, e1, T1⟩ := va_Tof (tm := .static RX9 "ORDERS" "[I") (ty := .int) (N := 6) (f := fun j => .int (([12, 21, 102, 120, 201, 210] : List Int32).getD j 0)) (A := fun q => s.heap.size ≤ q) (by decide) (hg _ (by decide +kernel)) (va_eqt (hg _ (by decide +kernel))) (elems [12, 21, 102, 120, 201, 210] (fun j hj => by
    match j, hj with
    | 0, _ => exact hg _ (by decide +kernel)
    | 1, _ => exact hg _ (by decide +kernel)
    | 2, _ => exact hg _ (by decide +kernel)
    | 3, _ => exact hg _ (by decide +kernel)
    | 4, _ => exact hg _ (by decide +kernel)
    | 5, _ => exact hg _ (by decide +kernel)
    | k + 6, h => exact absurd h (by simp))) hA
  obtain ⟨t2, e2, T2⟩ := va_Tof (tm := .static RX9 "FIRST_PLACES" "[I") (ty := .int) (N := 9) (f := fun j => .int (([2, 0, 1, 2, 0, 1, 0, 1, 2] : List Int32).getD j 0)) (A := fun q => s.heap.size ≤ q) (by decide) (hg _ (by decide +kernel)) (va_eqt (hg _ (by decide +kernel))) (elems [2, 0, 1, 2, 0, 1, 0, 1, 2] (fun j hj => by
    match j, hj with
    | 0, _ => exact hg _ (by decide +kernel)
    | 1, _ => exact hg _ (by decide +kernel)
    | 2, _ => exact hg _ (by decide +kernel)
    | 3, _ => exact hg _ (by decide +kernel)
    | 4, _ => exact hg _ (by decide +kernel)
    | 5, _ => exact hg _ (by decide +kernel)
    | 6, _ => exact hg _ (by decide +kernel)
    | 7, _ => exact hg _ (by decide +kernel)
    | 8, _ => exact hg _ (by decide +kernel)
    | k + 9, h => exact absurd h (by simp))) hA
  obtain ⟨t3, e3, T3⟩ := va_Tof (tm := .static RX9 "SECOND_PLACES" "[I") (ty := .int) (N := 9) (f := fun j => .int (([2, 1, 0, 1, 0, 2, 2, 1, 0] : List Int32).getD j 0)) (A := fun q => s.heap.size ≤ q) (by decide) (hg _ (by decide +kernel)) (va_eqt (hg _ (by decide +kernel))) (elems [2, 1, 0, 1, 0, 2, 2, 1, 0] (fun j hj => by
    match j, hj with
    | 0, _ => exact hg _ (by decide +kernel)
    | 1, _ => exact hg _ (by decide +kernel)
    | 2, _ => exact hg _ (by decide +kernel)
    | 3, _ => exact hg _ (by decide +kernel)
    | 4, _ => exact hg _ (by decide +kernel)
    | 5, _ => exact hg _ (by decide +kernel)
    | 6, _ => exact hg _ (by decide +kernel)
    | 7, _ => exact hg _ (by decide +kernel)
    | 8, _ => exact hg _ (by decide +kernel)
    | k + 9, h => exact absurd h (by simp))) hA
  obtain ⟨adK, adV, hSt, hSe⟩ := vk_Sof (args := #[Value.ref b]) (s := s) (N := 1) (tm := fun _ => .string RX2 111) (len := [7]) (byt := [[119, 100, 103, 98, 115, 121, 114]]) (A := fun q => s.heap.size ≤ q) (fun i hi => by rw [show i = 0 by omega]; decide) (fun i hi => hg _ (by decide +kernel)) (fun i hi => hg _ (by decide +kernel)) (fun i hi => hg _ (by decide +kernel)) (fun i hi => by
    have : i = 0 := by omega
    subst this
    exact hg _ (by decide +kernel)) (fun i hi j hj => by
    have : i = 0 := by omega
    subst this
    have hj : j < 7 := hj
    match j, hj with
    | 0, _ => exact hg _ (by decide +kernel)
    | 1, _ => exact hg _ (by decide +kernel)
    | 2, _ => exact hg _ (by decide +kernel)
    | 3, _ => exact hg _ (by decide +kernel)
    | 4, _ => exact hg _ (by decide +kernel)
    | 5, _ => exact hg _ (by decide +kernel)
    | 6, _ => exact hg _ (by decide +kernel)) (fun i j hi hj hne => absurd (show i = j by omega) hne) hA
  have hs0 := hSt.1 0 (by decide)
  let G : GX := ((fun k => (z k).1, fun k => (z k).2), (fun t => match t with
    | 0 => cI
    | 1 => cJ
    | 2 => cZ
    | _ => cQ), s.heap.size, (fun k => match k with
    | 0 => b
    | 1 => t1
    | 2 => t2
    | 3 => t3
    | 4 => adK 0
    | _ => adV 0))
  have hT0 : va_T .int b L (fun j => .int (xs j)) (fun q => s.heap.size ≤ q) s s.heap := by
    obtain ⟨scr, x1, x2, x3, x4, x5⟩ := hX
    exact ⟨scr, x1, x2, x3, by omega, by rw [x4], x5, hA b hbl⟩
  have hK : va_K G.1 vwCl (mty G) s := by
    refine ⟨fun k q hq => hz k q hq, fun k q hq => ?_⟩
    match k, hq with
    | 0, hq => cases hq; exact ⟨fun n f => ⟨(fun k h => by cases h), kI, i2, mI, i3⟩, i1⟩
    | 1, hq => cases hq; exact ⟨fun n f => ⟨(fun k h => by cases h), kJ, j2, mJ, j3⟩, j1⟩
    | 2, hq => cases hq; exact ⟨fun n f => ⟨(fun k h => by cases h), kZ, z2, mZ, z3⟩, z1⟩
    | 3, hq => cases hq; exact ⟨fun n f => ⟨(fun k h => by cases h), kQ, q3, mQ, q4⟩, kQ, mQ, q3, q4, q1, q5⟩
    | k + 4, hq => simp [mty] at hq
  have hRini := hB _ w_94
  have hE : EX G (L, xs) s s.heap := by
    refine ⟨fun w hw => ?_, va_AO.of (hts _ lwm_over), vk_R.of (hts _ lwm_string) (hSe 0 (by decide)), va_Zref (hts _ lwm_orders) hRini e1 hA, va_Zref (hts _ lwm_first) hRini e2 hA, va_Zref (hts _ lwm_second) hRini e3 hA, va_Zof (hts _ lwm_compact) (hB _ w_98) (va_eqi (hg _ (by decide +kernel))) hA, fun k q hq => ?_, hs0.2.2.2, hs0.1, hs0.2.1, hs0.2.2.1⟩
    · have h1 := hts w (nestw_in w hw)
      obtain ⟨a, i, y, d, rfl⟩ := nestw_shape w hw
      exact va_Nw.of rfl h1
    · match k, hq with
      | 0, hq => cases hq; exact hT0
      | 1, hq => cases hq; exact T1
      | 2, hq => cases hq; exact T2
      | 3, hq => cases hq; exact T3
      | k + 4, hq => cases hq
  have hC : CX G (L, xs) 263 0 p s m #[Value.ref b] meth c := ⟨hx, hb, hml, hown, hB, hr, hlocks, fun h => absurd h (by decide), hK, hE, rfl⟩
  obtain ⟨h1, hev, hb1, hb2⟩ := hlaw (L, xs) hL
  obtain ⟨n, hn⟩ := ev_iff.mp hev
  have hent : entOk 263 [.retAddr 0] = true := by decide +kernel
  rw [lg_entry_eq]
  refine sound (L, xs) n 263 0 _ [] h00 _ h1 hn G p l e room_1 s m #[Value.ref b] below meth c _ 0 0 hC (Nat.le_of_ble_eq_true rfl) (Nat.le_of_ble_eq_true rfl) (by show h1.1 ≤ 0 + 600000; omega) (by show h1.2.1 ≤ 0 + 7302250; omega) ?_ s.heap [] 0 0 _ ⟨Nat.le_refl _, fun k q h => by simp [mws, h00] at h, fun _ _ => rfl⟩ va_S.rf (entry_LR G hent) rfl rfl
  intro H locs cells slots ls pc len ins st a1 a2 a3 a4 hd hrt
  have hst := retv_st hrt
  subst hst
  have hins : ins = .ireturn ∧ len = 1 := by
    unfold retv at hrt
    split at hrt
    · split at hrt <;> cases hrt
    · exact ⟨rfl, rfl⟩
    · split at hrt <;> cases hrt
    · cases hrt
  obtain ⟨rfl, rfl⟩ := hins
  refine va_forget a2.2.2 ?_
  refine W.widen (k := 600000) (n := 7302250) (by omega) (by omega) ?_
  exact lw_ret hx hb hr hlocks hd

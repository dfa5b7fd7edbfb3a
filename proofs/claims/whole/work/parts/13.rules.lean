-- RULES: one equation an instruction, in the form in which simp walks
def mcC (c : MC) : Nat := match c with
  | .inr q => q.1
  | .inl _ => 1001
def mcF (c : MC) : List Value := match c with
  | .inr q => q.2
  | .inl _ => []
/-- kind of an array: 0 ints, 1 longs, 2 booleans, 3 Leagues -/
def mcT (c : MC) : Nat := match c with
  | .inl (0, _, .inl _) => 0
  | .inl (1, _, .inr (.inl _)) => 1
  | .inl (2, _, .inl _) => 2
  | .inl (3, _, .inr (.inr (.inr (.inr _)))) => 3
  | _ => 9
def mcN (c : MC) : Nat := match c with
  | .inl (_, n, _) => n
  | .inr _ => 0
def mcI (c : MC) : Nat → Int32 := match c with
  | .inl (_, _, .inl f) => f
  | _ => fun _ => 0
def mcL (c : MC) : Nat → Int64 := match c with
  | .inl (_, _, .inr (.inl f)) => f
  | _ => fun _ => 0
def mcQ (c : MC) : Nat → Option Nat := match c with
  | .inl (_, _, .inr (.inr (.inr (.inr f)))) => f
  | _ => fun _ => none
theorem mcC_o (ci : Nat) (fs : List Value) : mcC (oB ci fs) = ci := rfl
theorem mcF_o (ci : Nat) (fs : List Value) : mcF (oB ci fs) = fs := rfl
theorem mcT_i (n : Nat) (f : Nat → Int32) : mcT (iA n f) = 0 := rfl
theorem mcT_l (n : Nat) (f : Nat → Int64) : mcT (lA n f) = 1 := rfl
theorem mcT_z (n : Nat) (f : Nat → Int32) : mcT (zA n f) = 2 := rfl
theorem mcT_q (n : Nat) (f : Nat → Option Nat) : mcT (qA n f) = 3 := rfl
theorem mcN_i (n : Nat) (f : Nat → Int32) : mcN (iA n f) = n := rfl
theorem mcN_l (n : Nat) (f : Nat → Int64) : mcN (lA n f) = n := rfl
theorem mcN_z (n : Nat) (f : Nat → Int32) : mcN (zA n f) = n := rfl
theorem mcN_q (n : Nat) (f : Nat → Option Nat) : mcN (qA n f) = n := rfl
theorem mcI_i (n : Nat) (f : Nat → Int32) : mcI (iA n f) = f := rfl
theorem mcI_z (n : Nat) (f : Nat → Int32) : mcI (zA n f) = f := rfl
theorem mcL_l (n : Nat) (f : Nat → Int64) : mcL (lA n f) = f := rfl
theorem mcQ_q (n : Nat) (f : Nat → Option Nat) : mcQ (qA n f) = f := rfl
theorem hg_hp (h : MH) (a b : Nat) (c : MC) : hg (hp h a c) b = if b = a then c else hg h b := rfl
theorem hp_hp (h : MH) (a : Nat) (c d : MC) : hp (hp h a c) a d = hp h a d := by
  unfold hp
  simp only [Prod.mk.injEq, true_and]
  funext j
  split <;> rfl
theorem hp1 (h : MH) (a : Nat) (c : MC) : (hp h a c).1 = h.1 := rfl
theorem hp2 (h : MH) (a : Nat) (c : MC) : (hp h a c).2.1 = h.2.1 := rfl
def okF (c : MC) (ci k : Nat) : Bool := decide (mcC c = ci) && decide (k < (mcF c).length)
def okA (c : MC) (t : Nat) (i : Int32) : Bool := decide (mcT c = t) && inR i (mcN c)
theorem gf_if (h : MH) (a ci k : Nat) : gf h a ci k = if okF (hg h a) ci k then some ((mcF (hg h a)).getD k .null) else none := by
  unfold gf okF mcC mcF
  cases hc : hg h a with
  | inl q => simp
  | inr q =>
    obtain ⟨c, fs⟩ := q
    simp only [Bool.and_eq_true, decide_eq_true_eq]
    by_cases h1 : c = ci
    · by_cases h2 : k < fs.length
      · rw [if_pos h1, if_pos ⟨h1, h2⟩, List.getD_eq_getElem?_getD, List.getElem?_eq_getElem h2]; rfl
      · rw [if_pos h1, if_neg (fun q => h2 q.2)]; exact List.getElem?_eq_none (by omega)
    · rw [if_neg h1, if_neg (fun q => h1 q.1)]
theorem pf_if (h : MH) (a ci k : Nat) (v : Value) : pf h a ci k v = if okF (hg h a) ci k then some (hp h a (oB ci ((mcF (hg h a)).set k v))) else none := by
  unfold pf okF mcC mcF
  cases hc : hg h a with
  | inl q => simp
  | inr q =>
    obtain ⟨c, fs⟩ := q
    simp only [Bool.and_eq_true, decide_eq_true_eq]
    by_cases h1 : c = ci ∧ k < fs.length
    · rw [if_pos h1, if_pos h1, h1.1]
    · rw [if_neg h1, if_neg h1]
theorem mcT0 {c : MC} (h : mcT c = 0) : ∃ n f, c = iA n f := by
  unfold mcT at h
  split at h
  · exact ⟨_, _, rfl⟩
  all_goals cases h
theorem mcT1 {c : MC} (h : mcT c = 1) : ∃ n f, c = lA n f := by
  unfold mcT at h
  split at h
  · cases h
  · exact ⟨_, _, rfl⟩
  all_goals cases h
theorem mcT2 {c : MC} (h : mcT c = 2) : ∃ n f, c = zA n f := by
  unfold mcT at h
  split at h
  · cases h
  · cases h
  · exact ⟨_, _, rfl⟩
  all_goals cases h
theorem mcT3 {c : MC} (h : mcT c = 3) : ∃ n f, c = qA n f := by
  unfold mcT at h
  split at h
  · cases h
  · cases h
  · cases h
  · exact ⟨_, _, rfl⟩
  all_goals cases h
theorem ga_if (h : MH) (a : Nat) (i : Int32) : ga h a i = if okA (hg h a) 0 i then some (mcI (hg h a) i.toNatClampNeg) else none := by
  unfold ga okA
  by_cases ht : mcT (hg h a) = 0
  · obtain ⟨n, f, e⟩ := mcT0 ht
    rw [e]; simp [mcT, mcN, mcI, iA]
  · simp only [ht, decide_false, Bool.false_and, Bool.false_eq_true, if_false]
    split
    · rename_i n f e; exact absurd (by rw [e]; rfl) ht
    · rfl
theorem gz_if (h : MH) (a : Nat) (i : Int32) : gz h a i = if okA (hg h a) 2 i then some (mcI (hg h a) i.toNatClampNeg) else none := by
  unfold gz okA
  by_cases ht : mcT (hg h a) = 2
  · obtain ⟨n, f, e⟩ := mcT2 ht
    rw [e]; simp [mcT, mcN, mcI, zA]
  · simp only [ht, decide_false, Bool.false_and, Bool.false_eq_true, if_false]
    split
    · rename_i n f e; exact absurd (by rw [e]; rfl) ht
    · rfl
theorem gl_if (h : MH) (a : Nat) (i : Int32) : gl h a i = if okA (hg h a) 1 i then some (mcL (hg h a) i.toNatClampNeg) else none := by
  unfold gl okA
  by_cases ht : mcT (hg h a) = 1
  · obtain ⟨n, f, e⟩ := mcT1 ht
    rw [e]; simp [mcT, mcN, mcL, lA]
  · simp only [ht, decide_false, Bool.false_and, Bool.false_eq_true, if_false]
    split
    · rename_i n f e; exact absurd (by rw [e]; rfl) ht
    · rfl
theorem gq_if (h : MH) (a : Nat) (i : Int32) : gq h a i = if okA (hg h a) 3 i then some (mcQ (hg h a) i.toNatClampNeg) else none := by
  unfold gq okA
  by_cases ht : mcT (hg h a) = 3
  · obtain ⟨n, f, e⟩ := mcT3 ht
    rw [e]; simp [mcT, mcN, mcQ, qA]
  · simp only [ht, decide_false, Bool.false_and, Bool.false_eq_true, if_false]
    split
    · rename_i n f e; exact absurd (by rw [e]; rfl) ht
    · rfl
theorem pa_if (h : MH) (a : Nat) (i x : Int32) : pa h a i x = if okA (hg h a) 0 i then some (hp h a (iA (mcN (hg h a)) (upd (mcI (hg h a)) i.toNatClampNeg x))) else none := by
  unfold pa okA
  by_cases ht : mcT (hg h a) = 0
  · obtain ⟨n, f, e⟩ := mcT0 ht
    rw [e]; simp [mcT, mcN, mcI, iA]
  · simp only [ht, decide_false, Bool.false_and, Bool.false_eq_true, if_false]
    split
    · rename_i n f e; exact absurd (by rw [e]; rfl) ht
    · rfl
theorem pz_if (h : MH) (a : Nat) (i x : Int32) : pz h a i x = if okA (hg h a) 2 i then some (hp h a (zA (mcN (hg h a)) (upd (mcI (hg h a)) i.toNatClampNeg (vp_nar .boolean x)))) else none := by
  unfold pz okA
  by_cases ht : mcT (hg h a) = 2
  · obtain ⟨n, f, e⟩ := mcT2 ht
    rw [e]; simp [mcT, mcN, mcI, zA]
  · simp only [ht, decide_false, Bool.false_and, Bool.false_eq_true, if_false]
    split
    · rename_i n f e; exact absurd (by rw [e]; rfl) ht
    · rfl
theorem pl_if (h : MH) (a : Nat) (i : Int32) (x : Int64) : pl h a i x = if okA (hg h a) 1 i then some (hp h a (lA (mcN (hg h a)) (vp_updL (mcL (hg h a)) i.toNatClampNeg x))) else none := by
  unfold pl okA
  by_cases ht : mcT (hg h a) = 1
  · obtain ⟨n, f, e⟩ := mcT1 ht
    rw [e]; simp [mcT, mcN, mcL, lA]
  · simp only [ht, decide_false, Bool.false_and, Bool.false_eq_true, if_false]
    split
    · rename_i n f e; exact absurd (by rw [e]; rfl) ht
    · rfl
section RUL
variable {X : MX} {j pc : Nat} {loc st : List Value} {h : MH} {B : ByteArray}
theorem r_sim {len : Nat} {ins : Instr} {q : MS} (hb : mt_b (mq j) = B) (hd : decode B pc = .ok (ins, len)) (hk : kd ins ≠ 6) (hc : callOf j ins len st h = none) (hs : sim X j pc ins len loc st h = some q) : ev X j pc loc st h = ev X j q.1 q.2.1 q.2.2.1 q.2.2.2 := by
  rw [ev_sim (by rw [hb]; exact hd) hk hc, hs]; rfl
theorem r_map {len : Nat} {ins : Instr} {c : Bool} {q : MS} (hb : mt_b (mq j) = B) (hd : decode B pc = .ok (ins, len)) (hk : kd ins ≠ 6) (hc : callOf j ins len st h = none) (hs : sim X j pc ins len loc st h = if c then some q else none) : ev X j pc loc st h = if c then ev X j q.1 q.2.1 q.2.2.1 q.2.2.2 else none := by
  rw [ev_sim (by rw [hb]; exact hd) hk hc, hs]
  cases c <;> rfl
theorem r_getf {c i ci k a : Nat} (hb : mt_b (mq j) = B) (hc : mt_c (mq j) = c) (hf : ft c i = some (ci, k)) (hd : decode B pc = .ok (.getfield i, 3)) : ev X j pc loc (.ref a :: st) h = if okF (hg h a) ci k then ev X j (pc + 3) loc ((mcF (hg h a)).getD k .null :: st) h else none := by
  refine r_map hb hd (by show ¬ 4 = 6; decide) rfl (q := (pc + 3, loc, (mcF (hg h a)).getD k .null :: st, h)) ?_
  show (ft (mt_c (mq j)) i).bind (fun q => (gf h a q.1 q.2).map (fun v => (pc + 3, loc, v :: st, h))) = _
  rw [hc, hf]
  show (gf h a ci k).map _ = _
  rw [gf_if]
  split <;> rfl
theorem r_putf {c i ci k a : Nat} {v : Value} (hb : mt_b (mq j) = B) (hc : mt_c (mq j) = c) (hf : ft c i = some (ci, k)) (hfin : (!(ffin ci k) || (decide ((mt_y (mq j)).name = "<init>") && decide (c = ci))) = true) (hd : decode B pc = .ok (.putfield i, 3)) (hv : fitF (fty ci k) v = true) : ev X j pc loc (v :: .ref a :: st) h = if okF (hg h a) ci k then ev X j (pc + 3) loc st (hp h a (oB ci ((mcF (hg h a)).set k v))) else none := by
  refine r_map hb hd (by show ¬ 4 = 6; decide) rfl (q := (pc + 3, loc, st, hp h a (oB ci ((mcF (hg h a)).set k v)))) ?_
  have e : sim X j pc (.putfield i) 3 loc (v :: .ref a :: st) h = (ft (mt_c (mq j)) i).bind (fun q => if fitF (fty q.1 q.2) v && (!(ffin q.1 q.2) || (decide ((mt_y (mq j)).name = "<init>") && decide (mt_c (mq j) = q.1))) then (pf h a q.1 q.2 v).map (fun h1 => (pc + 3, loc, st, h1)) else none) := rfl
  rw [e, hc, hf]
  show (if fitF (fty ci k) v && (!(ffin ci k) || (decide ((mt_y (mq j)).name = "<init>") && decide (c = ci))) then (pf h a ci k v).map (fun h1 => (pc + 3, loc, st, h1)) else none) = _
  rw [hv, hfin]
  simp only [Bool.and_self, if_true]
  rw [pf_if]
  split <;> rfl
theorem fit_i {ty : Option FieldType} {x : Int32} (h : ty = some .int) : fitF ty (.int x) = true := by rw [h]; simp [fitF, fitV, narrow, fits]
theorem fit_l {ty : Option FieldType} {x : Int64} (h : ty = some .long) : fitF ty (.long x) = true := by rw [h]; simp [fitF, fitV, narrow, fits]
theorem fit_o {ty : Option FieldType} {s : String} {a : Nat} (h : ty = some (.object s)) : fitF ty (.ref a) = true := by rw [h]; simp [fitF, fitV, narrow, fits]
theorem fit_a {ty : Option FieldType} {t : FieldType} {a : Nat} (h : ty = some (.array t)) : fitF ty (.ref a) = true := by rw [h]; simp [fitF, fitV, narrow, fits]
/-- a boolean field: 0 or 1 -/
theorem r_putz {c i ci k a : Nat} {x : Int32} (hb : mt_b (mq j) = B) (hc : mt_c (mq j) = c) (hf : ft c i = some (ci, k)) (hfin : (!(ffin ci k) || (decide ((mt_y (mq j)).name = "<init>") && decide (c = ci))) = true) (hd : decode B pc = .ok (.putfield i, 3)) (hv : fty ci k = some .boolean) : ev X j pc loc (.int x :: .ref a :: st) h = if x = 0 ∨ x = 1 then if okF (hg h a) ci k then ev X j (pc + 3) loc st (hp h a (oB ci ((mcF (hg h a)).set k (.int x)))) else none else none := by
  by_cases hx : x = 0 ∨ x = 1
  · rw [if_pos hx]
    exact r_putf hb hc hf hfin hd (by rw [hv]; rcases hx with rfl | rfl <;> decide)
  · rw [if_neg hx, ev_sim (by rw [hb]; exact hd) (by show ¬ 4 = 6; decide) rfl]
    have e : sim X j pc (.putfield i) 3 loc (.int x :: .ref a :: st) h = (ft (mt_c (mq j)) i).bind (fun q => if fitF (fty q.1 q.2) (.int x) && (!(ffin q.1 q.2) || (decide ((mt_y (mq j)).name = "<init>") && decide (mt_c (mq j) = q.1))) then (pf h a q.1 q.2 (.int x)).map (fun h1 => (pc + 3, loc, st, h1)) else none) := rfl
    rw [e, hc, hf]
    show (if fitF (fty ci k) (.int x) && _ then _ else none).bind _ = none
    rw [hv]
    have hz : fitF (some .boolean) (.int x) = false := by
      cases hq : fitF (some .boolean) (.int x) with
      | false => rfl
      | true =>
        exfalso
        simp only [fitF, fitV, fits, Bool.and_eq_true, Bool.or_eq_true, beq_iff_eq] at hq
        exact hx hq.2
    rw [hz]
    rfl
theorem r_iald {i : Int32} {a : Nat} (hb : mt_b (mq j) = B) (hd : decode B pc = .ok (.iaload, 1)) : ev X j pc loc (.int i :: .ref a :: st) h = if okA (hg h a) 0 i then ev X j (pc + 1) loc (.int (mcI (hg h a) i.toNatClampNeg) :: st) h else none := by
  refine r_map hb hd (by show ¬ 4 = 6; decide) rfl (q := (pc + 1, loc, .int (mcI (hg h a) i.toNatClampNeg) :: st, h)) ?_
  show (ga h a i).map _ = _
  rw [ga_if]
  split <;> rfl
theorem r_bald {i : Int32} {a : Nat} (hb : mt_b (mq j) = B) (hd : decode B pc = .ok (.baload, 1)) : ev X j pc loc (.int i :: .ref a :: st) h = if okA (hg h a) 2 i then ev X j (pc + 1) loc (.int (mcI (hg h a) i.toNatClampNeg) :: st) h else none := by
  refine r_map hb hd (by show ¬ 4 = 6; decide) rfl (q := (pc + 1, loc, .int (mcI (hg h a) i.toNatClampNeg) :: st, h)) ?_
  show (gz h a i).map _ = _
  rw [gz_if]
  split <;> rfl
theorem r_lald {i : Int32} {a : Nat} (hb : mt_b (mq j) = B) (hd : decode B pc = .ok (.laload, 1)) : ev X j pc loc (.int i :: .ref a :: st) h = if okA (hg h a) 1 i then ev X j (pc + 1) loc (.long (mcL (hg h a) i.toNatClampNeg) :: st) h else none := by
  refine r_map hb hd (by show ¬ 4 = 6; decide) rfl (q := (pc + 1, loc, .long (mcL (hg h a) i.toNatClampNeg) :: st, h)) ?_
  show (gl h a i).map _ = _
  rw [gl_if]
  split <;> rfl
theorem r_aald {i : Int32} {a : Nat} (hb : mt_b (mq j) = B) (hd : decode B pc = .ok (.aaload, 1)) : ev X j pc loc (.int i :: .ref a :: st) h = if okA (hg h a) 3 i then ev X j (pc + 1) loc (mrf (mcQ (hg h a) i.toNatClampNeg) :: st) h else none := by
  refine r_map hb hd (by show ¬ 4 = 6; decide) rfl (q := (pc + 1, loc, mrf (mcQ (hg h a) i.toNatClampNeg) :: st, h)) ?_
  show (gq h a i).map _ = _
  rw [gq_if]
  split <;> rfl
theorem r_iast {i x : Int32} {a : Nat} (hb : mt_b (mq j) = B) (hd : decode B pc = .ok (.iastore, 1)) : ev X j pc loc (.int x :: .int i :: .ref a :: st) h = if okA (hg h a) 0 i then ev X j (pc + 1) loc st (hp h a (iA (mcN (hg h a)) (upd (mcI (hg h a)) i.toNatClampNeg x))) else none := by
  refine r_map hb hd (by show ¬ 4 = 6; decide) rfl (q := (pc + 1, loc, st, hp h a (iA (mcN (hg h a)) (upd (mcI (hg h a)) i.toNatClampNeg x)))) ?_
  show (pa h a i x).map _ = _
  rw [pa_if]
  split <;> rfl
theorem r_bast {i x : Int32} {a : Nat} (hb : mt_b (mq j) = B) (hd : decode B pc = .ok (.bastore, 1)) : ev X j pc loc (.int x :: .int i :: .ref a :: st) h = if okA (hg h a) 2 i then ev X j (pc + 1) loc st (hp h a (zA (mcN (hg h a)) (upd (mcI (hg h a)) i.toNatClampNeg (vp_nar .boolean x)))) else none := by
  refine r_map hb hd (by show ¬ 4 = 6; decide) rfl (q := (pc + 1, loc, st, hp h a (zA (mcN (hg h a)) (upd (mcI (hg h a)) i.toNatClampNeg (vp_nar .boolean x))))) ?_
  show (pz h a i x).map _ = _
  rw [pz_if]
  split <;> rfl
theorem r_last {i : Int32} {x : Int64} {a : Nat} (hb : mt_b (mq j) = B) (hd : decode B pc = .ok (.lastore, 1)) : ev X j pc loc (.long x :: .int i :: .ref a :: st) h = if okA (hg h a) 1 i then ev X j (pc + 1) loc st (hp h a (lA (mcN (hg h a)) (vp_updL (mcL (hg h a)) i.toNatClampNeg x))) else none := by
  refine r_map hb hd (by show ¬ 4 = 6; decide) rfl (q := (pc + 1, loc, st, hp h a (lA (mcN (hg h a)) (vp_updL (mcL (hg h a)) i.toNatClampNeg x)))) ?_
  show (pl h a i x).map _ = _
  rw [pl_if]
  split <;> rfl
theorem r_idiv {x y : Int32} (hb : mt_b (mq j) = B) (hd : decode B pc = .ok (.idiv, 1)) : ev X j pc loc (.int y :: .int x :: st) h = if y = 0 then none else ev X j (pc + 1) loc (.int (x / y) :: st) h := by
  rw [ev_sim (by rw [hb]; exact hd) (by show ¬ 2 = 6; decide) rfl]
  show (if y = 0 then none else some _).bind _ = _
  split <;> rfl
theorem r_irem {x y : Int32} (hb : mt_b (mq j) = B) (hd : decode B pc = .ok (.irem, 1)) : ev X j pc loc (.int y :: .int x :: st) h = if y = 0 then none else ev X j (pc + 1) loc (.int (x - x / y * y) :: st) h := by
  rw [ev_sim (by rw [hb]; exact hd) (by show ¬ 2 = 6; decide) rfl]
  show (if y = 0 then none else some _).bind _ = _
  split <;> rfl
theorem r_ldiv {x y : Int64} (hb : mt_b (mq j) = B) (hd : decode B pc = .ok (.ldiv, 1)) : ev X j pc loc (.long y :: .long x :: st) h = if y = 0 then none else ev X j (pc + 1) loc (.long (x / y) :: st) h := by
  rw [ev_sim (by rw [hb]; exact hd) (by show ¬ 2 = 6; decide) rfl]
  show (if y = 0 then none else some _).bind _ = _
  split <;> rfl
theorem r_icmp {c : Jvm.ClassFile.Cond} {off : Int} {t : Nat} {x y : Int32} (hb : mt_b (mq j) = B) (hd : decode B pc = .ok (.if_icmp c off, 3)) (ht : tgo pc off = some t) : ev X j pc loc (.int y :: .int x :: st) h = if cmpI c x y then ev X j t loc st h else ev X j (pc + 3) loc st h := by
  rw [ev_sim (by rw [hb]; exact hd) (by show ¬ 3 = 6; decide) rfl]
  show ((tgo pc off).map (fun t => (if cmpI c x y then t else pc + 3, loc, st, h))).bind _ = _
  rw [ht]
  show ev X j (if cmpI c x y then t else pc + 3) loc st h = _
  split <;> rfl
theorem r_ifc {c : Jvm.ClassFile.Cond} {off : Int} {t : Nat} {x : Int32} (hb : mt_b (mq j) = B) (hd : decode B pc = .ok (.ifCond c off, 3)) (ht : tgo pc off = some t) : ev X j pc loc (.int x :: st) h = if cmpI c x 0 then ev X j t loc st h else ev X j (pc + 3) loc st h := by
  rw [ev_sim (by rw [hb]; exact hd) (by show ¬ 3 = 6; decide) rfl]
  show ((tgo pc off).map (fun t => (if cmpI c x 0 then t else pc + 3, loc, st, h))).bind _ = _
  rw [ht]
  show ev X j (if cmpI c x 0 then t else pc + 3) loc st h = _
  split <;> rfl
theorem r_goto {off : Int} {t : Nat} (hb : mt_b (mq j) = B) (hd : decode B pc = .ok (.goto off, 3)) (ht : tgo pc off = some t) : ev X j pc loc st h = ev X j t loc st h := by
  rw [ev_sim (by rw [hb]; exact hd) (by show ¬ 3 = 6; decide) rfl]
  have e : sim X j pc (.goto off) 3 loc st h = (tgo pc off).map (fun t => (t, loc, st, h)) := by
    show simB pc (.goto off) 3 loc st h = _
    unfold simB
    cases st <;> rfl
  rw [e, ht]
  rfl
theorem r_nn {off : Int} {t a : Nat} (hb : mt_b (mq j) = B) (hd : decode B pc = .ok (.ifnonnull off, 3)) (ht : tgo pc off = some t) : ev X j pc loc (.ref a :: st) h = ev X j t loc st h := by
  rw [ev_sim (by rw [hb]; exact hd) (by show ¬ 3 = 6; decide) rfl]
  show ((tgo pc off).map (fun t => (t, loc, st, h))).bind _ = _
  rw [ht]
  rfl
theorem r_iret {x : Int32} (hb : mt_b (mq j) = B) (hr : mt_r (mq j) = some .int) (hd : decode B pc = .ok (.ireturn, 1)) : ev X j pc loc [.int x] h = some (some (.int x), h) := by
  rw [ev_ret (by rw [hb]; exact hd) rfl]
  unfold retv
  rw [hr]
  rfl
theorem r_zret {x : Int32} (hb : mt_b (mq j) = B) (hr : mt_r (mq j) = some .boolean) (hd : decode B pc = .ok (.ireturn, 1)) : ev X j pc loc [.int x] h = if x &&& 1 = x then some (some (.int x), h) else none := by
  rw [ev_ret (by rw [hb]; exact hd) rfl]
  unfold retv
  rw [hr]
  show Option.map _ (if Value.int (x &&& 1) = Value.int x then some (some (Value.int x)) else none) = _
  by_cases hx : x &&& 1 = x
  · rw [if_pos (by rw [hx]), if_pos hx]; rfl
  · rw [if_neg (fun q => hx (Value.int.inj q)), if_neg hx]; rfl
theorem r_bret {x : Int32} (hb : mt_b (mq j) = B) (hr : mt_r (mq j) = some .byte) (hd : decode B pc = .ok (.ireturn, 1)) (hx : x.toInt8.toInt32 = x) : ev X j pc loc [.int x] h = some (some (.int x), h) := by
  rw [ev_ret (by rw [hb]; exact hd) rfl]
  unfold retv
  rw [hr]
  show Option.map _ (if Value.int x.toInt8.toInt32 = Value.int x then some (some (Value.int x)) else none) = _
  rw [if_pos (by rw [hx])]; rfl
theorem r_lret {x : Int64} (hb : mt_b (mq j) = B) (hr : mt_r (mq j) = some .long) (hd : decode B pc = .ok (.lreturn, 1)) : ev X j pc loc [.long x] h = some (some (.long x), h) := by
  rw [ev_ret (by rw [hb]; exact hd) rfl]
  unfold retv
  rw [hr]
  rfl
theorem r_vret (hb : mt_b (mq j) = B) (hr : mt_r (mq j) = none) (hd : decode B pc = .ok (.return_, 1)) : ev X j pc loc [] h = some (none, h) := by
  rw [ev_ret (by rw [hb]; exact hd) rfl]
  unfold retv
  rw [hr]
  rfl
/-- a call -/
theorem r_call {len k : Nat} {ins : Instr} {As r l2 : List Value} (hb : mt_b (mq j) = B) (hd : decode B pc = .ok (ins, len)) (hk : kd ins ≠ 6) (hc : callOf j ins len st h = some (k, As, r)) (he : entOk k As = true) (hl : entryL k As = l2) : ev X j pc loc st h = (ev X k 0 l2 [] h).bind (fun q => ev X j (pc + 3) loc (q.1.toList ++ r) q.2) := by
  rw [ev_call (by rw [hb]; exact hd) hk hc he, hl]
theorem r_lt {off : Int} {t : Nat} {x y : Int32} (hb : mt_b (mq j) = B) (hd : decode B pc = .ok (.if_icmp .lt off, 3)) (ht : tgo pc off = some t) : ev X j pc loc (.int y :: .int x :: st) h = if x < y then ev X j t loc st h else ev X j (pc + 3) loc st h := by
  rw [r_icmp hb hd ht]; simp only [cmpI, decide_eq_true_eq]
theorem r_ge {off : Int} {t : Nat} {x y : Int32} (hb : mt_b (mq j) = B) (hd : decode B pc = .ok (.if_icmp .ge off, 3)) (ht : tgo pc off = some t) : ev X j pc loc (.int y :: .int x :: st) h = if x < y then ev X j (pc + 3) loc st h else ev X j t loc st h := by
  rw [r_icmp hb hd ht]; simp only [cmpI, decide_eq_true_eq]
  by_cases q : x < y
  · rw [if_pos q, if_neg (Int32.not_le.mpr q)]
  · rw [if_neg q, if_pos (Int32.not_lt.mp q)]
theorem r_gt {off : Int} {t : Nat} {x y : Int32} (hb : mt_b (mq j) = B) (hd : decode B pc = .ok (.if_icmp .gt off, 3)) (ht : tgo pc off = some t) : ev X j pc loc (.int y :: .int x :: st) h = if y < x then ev X j t loc st h else ev X j (pc + 3) loc st h := by
  rw [r_icmp hb hd ht]; simp only [cmpI, decide_eq_true_eq]
theorem r_le {off : Int} {t : Nat} {x y : Int32} (hb : mt_b (mq j) = B) (hd : decode B pc = .ok (.if_icmp .le off, 3)) (ht : tgo pc off = some t) : ev X j pc loc (.int y :: .int x :: st) h = if y < x then ev X j (pc + 3) loc st h else ev X j t loc st h := by
  rw [r_icmp hb hd ht]; simp only [cmpI, decide_eq_true_eq]
  by_cases q : y < x
  · rw [if_pos q, if_neg (Int32.not_le.mpr q)]
  · rw [if_neg q, if_pos (Int32.not_lt.mp q)]
theorem r_eq {off : Int} {t : Nat} {x y : Int32} (hb : mt_b (mq j) = B) (hd : decode B pc = .ok (.if_icmp .eq off, 3)) (ht : tgo pc off = some t) : ev X j pc loc (.int y :: .int x :: st) h = if x = y then ev X j t loc st h else ev X j (pc + 3) loc st h := by
  rw [r_icmp hb hd ht]; simp only [cmpI, decide_eq_true_eq]
theorem r_ne {off : Int} {t : Nat} {x y : Int32} (hb : mt_b (mq j) = B) (hd : decode B pc = .ok (.if_icmp .ne off, 3)) (ht : tgo pc off = some t) : ev X j pc loc (.int y :: .int x :: st) h = if x = y then ev X j (pc + 3) loc st h else ev X j t loc st h := by
  rw [r_icmp hb hd ht]; simp only [cmpI, decide_eq_true_eq]
  by_cases q : x = y
  · rw [if_pos q, if_neg (fun z => z q)]
  · rw [if_neg q, if_pos q]
theorem r_ilt {off : Int} {t : Nat} {x : Int32} (hb : mt_b (mq j) = B) (hd : decode B pc = .ok (.ifCond .lt off, 3)) (ht : tgo pc off = some t) : ev X j pc loc (.int x :: st) h = if x < 0 then ev X j t loc st h else ev X j (pc + 3) loc st h := by
  rw [r_ifc hb hd ht]; simp only [cmpI, decide_eq_true_eq]
theorem r_ige {off : Int} {t : Nat} {x : Int32} (hb : mt_b (mq j) = B) (hd : decode B pc = .ok (.ifCond .ge off, 3)) (ht : tgo pc off = some t) : ev X j pc loc (.int x :: st) h = if x < 0 then ev X j (pc + 3) loc st h else ev X j t loc st h := by
  rw [r_ifc hb hd ht]; simp only [cmpI, decide_eq_true_eq]
  by_cases q : x < 0
  · rw [if_pos q, if_neg (Int32.not_le.mpr q)]
  · rw [if_neg q, if_pos (Int32.not_lt.mp q)]
theorem r_igt {off : Int} {t : Nat} {x : Int32} (hb : mt_b (mq j) = B) (hd : decode B pc = .ok (.ifCond .gt off, 3)) (ht : tgo pc off = some t) : ev X j pc loc (.int x :: st) h = if 0 < x then ev X j t loc st h else ev X j (pc + 3) loc st h := by
  rw [r_ifc hb hd ht]; simp only [cmpI, decide_eq_true_eq]
theorem r_ile {off : Int} {t : Nat} {x : Int32} (hb : mt_b (mq j) = B) (hd : decode B pc = .ok (.ifCond .le off, 3)) (ht : tgo pc off = some t) : ev X j pc loc (.int x :: st) h = if 0 < x then ev X j (pc + 3) loc st h else ev X j t loc st h := by
  rw [r_ifc hb hd ht]; simp only [cmpI, decide_eq_true_eq]
  by_cases q : 0 < x
  · rw [if_pos q, if_neg (Int32.not_le.mpr q)]
  · rw [if_neg q, if_pos (Int32.not_lt.mp q)]
theorem r_ieq {off : Int} {t : Nat} {x : Int32} (hb : mt_b (mq j) = B) (hd : decode B pc = .ok (.ifCond .eq off, 3)) (ht : tgo pc off = some t) : ev X j pc loc (.int x :: st) h = if x = 0 then ev X j t loc st h else ev X j (pc + 3) loc st h := by
  rw [r_ifc hb hd ht]; simp only [cmpI, decide_eq_true_eq]
theorem r_ine {off : Int} {t : Nat} {x : Int32} (hb : mt_b (mq j) = B) (hd : decode B pc = .ok (.ifCond .ne off, 3)) (ht : tgo pc off = some t) : ev X j pc loc (.int x :: st) h = if x = 0 then ev X j (pc + 3) loc st h else ev X j t loc st h := by
  rw [r_ifc hb hd ht]; simp only [cmpI, decide_eq_true_eq]
  by_cases q : x = 0
  · rw [if_pos q, if_neg (fun z => z q)]
  · rw [if_neg q, if_pos q]
/-- what goes on behind a call -/
noncomputable def kont (X : MX) (j pc : Nat) (loc r : List Value) (q : Option Value × MH) : Option (Option Value × MH) := ev X j pc loc (q.1.toList ++ r) q.2
theorem kont_v {r : List Value} {v : Value} : kont X j pc loc r (some v, h) = ev X j pc loc (v :: r) h := rfl
theorem kont_n {r : List Value} : kont X j pc loc r (none, h) = ev X j pc loc r h := rfl
theorem recv_o {k a c : Nat} (hc : mt_c (mq k) = c) (hc2 : c < 13) : recvOk h k (.ref a) = decide (mcC (hg h a) = c) := by
  have key : ∀ cell : MC, (match cell with
    | .inr (ci, _) => (match vwCl[ci]? with
      | some _ => decide (ci = c ∨ (ci = 0 ∧ 100 ≤ c))
      | none => false)
    | _ => false) = decide (mcC cell = c) := by
    intro cell
    cases cell with
    | inl q =>
      show false = decide (1001 = c)
      rw [decide_eq_false (by omega)]
    | inr q =>
      obtain ⟨ci, fs⟩ := q
      show (match vwCl[ci]? with
      | some _ => decide (ci = c ∨ (ci = 0 ∧ 100 ≤ c))
      | none => false) = decide (ci = c)
      cases hv : vwCl[ci]? with
      | none =>
        have : vwCl.length ≤ ci := List.getElem?_eq_none_iff.mp hv
        have h13 : 13 ≤ ci := this
        simp; omega
      | some r =>
        simp; omega
  have := key (hg h a)
  rw [← this]
  unfold recvOk
  rw [hc]
  rfl
theorem r_inv {i n k c a : Nat} {As r l2 : List Value} (hb : mt_b (mq j) = B) (hd : decode B pc = .ok (.invokevirtual i, 3)) (hct : ct (mt_c (mq j)) i = some (k, 0)) (hn : mt_n (mq k) = n) (hkk : mt_k (mq k) = 1) (hm : mayc j k = true) (hcc : mt_c (mq k) = c) (hc2 : c < 13) (hdr : st.drop n = .ref a :: r) (hl : lite r = true) (hA : (st.take n).reverse = As) (he : entOk k (.ref a :: As) = true) (h2 : entryL k (.ref a :: As) = l2) : ev X j pc loc st h = if mcC (hg h a) = c then (ev X k 0 l2 [] h).bind (kont X j (pc + 3) loc r) else none := by
  have hcall : callOf j (.invokevirtual i) 3 st h = if mcC (hg h a) = c then some (k, .ref a :: As, r) else none := by
    show (ct (mt_c (mq j)) i).bind _ = _
    rw [hct]
    show (match st.drop (mt_n (mq k)) with
      | b :: r => if mt_k (mq k) = 1 ∧ 0 = 0 ∧ mayc j k = true ∧ recvOk h k b = true ∧ lite r = true then some (k, b :: (st.take (mt_n (mq k))).reverse, r) else none
      | [] => none) = _
    rw [hn, hdr]
    show (if mt_k (mq k) = 1 ∧ 0 = 0 ∧ mayc j k = true ∧ recvOk h k (.ref a) = true ∧ lite r = true then some (k, .ref a :: (st.take n).reverse, r) else none) = _
    rw [hA, hkk, hm, hl, recv_o hcc hc2]
    simp
  by_cases hq : mcC (hg h a) = c
  · rw [if_pos hq]
    rw [if_pos hq] at hcall
    exact r_call hb hd (by show ¬ 5 = 6; decide) hcall he h2
  · rw [if_neg hq]
    rw [if_neg hq] at hcall
    rw [ev_sim (by rw [hb]; exact hd) (by show ¬ 5 = 6; decide) hcall]
    have : sim X j pc (.invokevirtual i) 3 loc st h = none := rfl
    rw [this]
    rfl
theorem r_spc {i n k a : Nat} {As r l2 : List Value} (hb : mt_b (mq j) = B) (hd : decode B pc = .ok (.invokespecial i, 3)) (hct : ct (mt_c (mq j)) i = some (k, 0)) (hn : mt_n (mq k) = n) (hkk : mt_k (mq k) = 2) (hm : mayc j k = true) (hdr : st.drop n = .ref a :: r) (hl : lite r = true) (hA : (st.take n).reverse = As) (he : entOk k (.ref a :: As) = true) (h2 : entryL k (.ref a :: As) = l2) : ev X j pc loc st h = (ev X k 0 l2 [] h).bind (kont X j (pc + 3) loc r) := by
  refine r_call hb hd (by show ¬ 5 = 6; decide) (As := .ref a :: As) ?_ he h2
  show (ct (mt_c (mq j)) i).bind _ = _
  rw [hct]
  show (match st.drop (mt_n (mq k)) with
    | b :: r => if mt_k (mq k) = 2 ∧ 0 = 0 ∧ mayc j k = true ∧ isR b = true ∧ lite r = true then some (k, b :: (st.take (mt_n (mq k))).reverse, r) else none
    | [] => none) = _
  rw [hn, hdr]
  show (if mt_k (mq k) = 2 ∧ 0 = 0 ∧ mayc j k = true ∧ isR (.ref a) = true ∧ lite r = true then some (k, .ref a :: (st.take n).reverse, r) else none) = _
  rw [hA, hkk, hm, hl]
  simp [isR]
theorem r_sta {i n k lk : Nat} {As r l2 : List Value} (hb : mt_b (mq j) = B) (hd : decode B pc = .ok (.invokestatic i, 3)) (hct : ct (mt_c (mq j)) i = some (k, lk)) (hlk : lk = 0 ∨ lk = 1) (hn : mt_n (mq k) = n) (hkk : mt_k (mq k) = 0) (hm : mayc j k = true) (hns : n ≤ st.length) (hdr : st.drop n = r) (hl : lite r = true) (hA : (st.take n).reverse = As) (he : entOk k As = true) (h2 : entryL k As = l2) : ev X j pc loc st h = (ev X k 0 l2 [] h).bind (kont X j (pc + 3) loc r) := by
  refine r_call hb hd (by show ¬ 5 = 6; decide) (As := As) ?_ he h2
  show (ct (mt_c (mq j)) i).bind _ = _
  rw [hct]
  show (if mt_k (mq k) = 0 ∧ (lk = 0 ∨ lk = 1) ∧ mayc j k = true ∧ mt_n (mq k) ≤ st.length ∧ lite (st.drop (mt_n (mq k))) = true then some (k, (st.take (mt_n (mq k))).reverse, st.drop (mt_n (mq k))) else none) = _
  rw [hn, hdr, hA, hkk, hm, hl]
  rw [if_pos ⟨rfl, hlk, rfl, hns, rfl⟩]
def entQ (q : MT) (As : List Value) : List Value := spread As ++ List.replicate (mt_l q - (spread As).length) (.float 0)
def entK (q : MT) (As : List Value) : Bool := decide ((spread As).length ≤ mt_l q) && ((List.range (mt_l q)).all (fun i => match (entQ q As)[i]? with
  | some (.long _) => (mt_s q).contains i
  | some (.double _) => false
  | _ => true))
def mayQ (q r : MT) : Bool := decide (mt_rk r < mt_rk q) && decide (mt_l r ≤ 40)
theorem q_inv {i n k c c0 a : Nat} {qj qk : MT} {As r l2 : List Value} (hb : mt_b (mq j) = B) (hd : decode B pc = .ok (.invokevirtual i, 3)) (hc0 : mt_c (mq j) = c0) (hct : ct c0 i = some (k, 0)) (ej : mq j = qj) (ek : mq k = qk) (hn : mt_n qk = n) (hkk : mt_k qk = 1) (hm : mayQ qj qk = true) (hcc : mt_c qk = c) (hc2 : c < 13) (hdr : st.drop n = .ref a :: r) (hl : lite r = true) (hA : (st.take n).reverse = As) (he : entK qk (.ref a :: As) = true) (h2 : entQ qk (.ref a :: As) = l2) : ev X j pc loc st h = if mcC (hg h a) = c then (ev X k 0 l2 [] h).bind (kont X j (pc + 3) loc r) else none := by
  subst ej
  subst ek
  exact r_inv hb hd (by rw [hc0]; exact hct) hn hkk hm hcc hc2 hdr hl hA he h2
theorem q_spc {i n k c0 a : Nat} {qj qk : MT} {As r l2 : List Value} (hb : mt_b (mq j) = B) (hd : decode B pc = .ok (.invokespecial i, 3)) (hc0 : mt_c (mq j) = c0) (hct : ct c0 i = some (k, 0)) (ej : mq j = qj) (ek : mq k = qk) (hn : mt_n qk = n) (hkk : mt_k qk = 2) (hm : mayQ qj qk = true) (hdr : st.drop n = .ref a :: r) (hl : lite r = true) (hA : (st.take n).reverse = As) (he : entK qk (.ref a :: As) = true) (h2 : entQ qk (.ref a :: As) = l2) : ev X j pc loc st h = (ev X k 0 l2 [] h).bind (kont X j (pc + 3) loc r) := by
  subst ej
  subst ek
  exact r_spc hb hd (by rw [hc0]; exact hct) hn hkk hm hdr hl hA he h2
theorem q_sta {i n k lk c0 : Nat} {qj qk : MT} {As r l2 : List Value} (hb : mt_b (mq j) = B) (hd : decode B pc = .ok (.invokestatic i, 3)) (hc0 : mt_c (mq j) = c0) (hct : ct c0 i = some (k, lk)) (ej : mq j = qj) (ek : mq k = qk) (hlk : lk = 0 ∨ lk = 1) (hn : mt_n qk = n) (hkk : mt_k qk = 0) (hm : mayQ qj qk = true) (hns : n ≤ st.length) (hdr : st.drop n = r) (hl : lite r = true) (hA : (st.take n).reverse = As) (he : entK qk As = true) (h2 : entQ qk As = l2) : ev X j pc loc st h = (ev X k 0 l2 [] h).bind (kont X j (pc + 3) loc r) := by
  subst ej
  subst ek
  exact r_sta hb hd (by rw [hc0]; exact hct) hlk hn hkk hm hns hdr hl hA he h2
theorem q_putf {c i ci k a : Nat} {qj : MT} {v : Value} (hb : mt_b (mq j) = B) (ej : mq j = qj) (hc : mt_c (mq j) = c) (hf : ft c i = some (ci, k)) (hfin : (!(ffin ci k) || (decide ((mt_y qj).name = "<init>") && decide (c = ci))) = true) (hd : decode B pc = .ok (.putfield i, 3)) (hv : fitF (fty ci k) v = true) : ev X j pc loc (v :: .ref a :: st) h = if okF (hg h a) ci k then ev X j (pc + 3) loc st (hp h a (oB ci ((mcF (hg h a)).set k v))) else none := by
  subst ej
  exact r_putf hb hc hf hfin hd hv
theorem q_putz {c i ci k a : Nat} {qj : MT} {x : Int32} (hb : mt_b (mq j) = B) (ej : mq j = qj) (hc : mt_c (mq j) = c) (hf : ft c i = some (ci, k)) (hfin : (!(ffin ci k) || (decide ((mt_y qj).name = "<init>") && decide (c = ci))) = true) (hd : decode B pc = .ok (.putfield i, 3)) (hv : fty ci k = some .boolean) : ev X j pc loc (.int x :: .ref a :: st) h = if x = 0 ∨ x = 1 then if okF (hg h a) ci k then ev X j (pc + 3) loc st (hp h a (oB ci ((mcF (hg h a)).set k (.int x)))) else none else none := by
  subst ej
  exact r_putz hb hc hf hfin hd hv
theorem r_max {c i : Nat} {x y : Int32} (hb : mt_b (mq j) = B) (hc : mt_c (mq j) = c) (hi : it c i = some 2) (hct : ct c i = none) (hd : decode B pc = .ok (.invokestatic i, 3)) (hl : lite st = true) : ev X j pc loc (.int y :: .int x :: st) h = ev X j (pc + 3) loc (.int (if x < y then y else x) :: st) h := by
  have e1 : callOf j (.invokestatic i) 3 (.int y :: .int x :: st) h = none := by
    show (ct (mt_c (mq j)) i).bind _ = none
    rw [hc, hct]; rfl
  have e2 : sim X j pc (.invokestatic i) 3 loc (.int y :: .int x :: st) h = some (pc + 3, loc, .int (if x < y then y else x) :: st, h) := by
    show (match it (mt_c (mq j)) i with
    | some 1 => (match (.int y :: .int x :: st : List Value) with
      | .int n :: .int dp :: .ref b :: .int sp :: .ref a :: r => if lite r = true then (cpy h a sp b dp n).map (fun h1 => (pc + 3, loc, r, h1)) else none
      | _ => none)
    | some 2 => (match (.int y :: .int x :: st : List Value) with
      | .int y :: .int x :: r => if lite r = true then some (pc + 3, loc, .int (if x < y then y else x) :: r, h) else none
      | _ => none)
    | some 3 => (match (.int y :: .int x :: st : List Value) with
      | .int y :: .int x :: r => if lite r = true then some (pc + 3, loc, .int (if y < x then y else x) :: r, h) else none
      | _ => none)
    | some 4 => (match (.int y :: .int x :: st : List Value) with
      | .int y :: r => if lite r = true then some (pc + 3, loc, .int (if 0 ≤ y then y else 0 - y) :: r, h) else none
      | _ => none)
    | _ => none) = _
    rw [hc, hi]
    show (if lite st = true then _ else none) = _
    rw [if_pos hl]
  rw [ev_sim (by rw [hb]; exact hd) (by show ¬ 5 = 6; decide) e1, e2]
  rfl
theorem r_min {c i : Nat} {x y : Int32} (hb : mt_b (mq j) = B) (hc : mt_c (mq j) = c) (hi : it c i = some 3) (hct : ct c i = none) (hd : decode B pc = .ok (.invokestatic i, 3)) (hl : lite st = true) : ev X j pc loc (.int y :: .int x :: st) h = ev X j (pc + 3) loc (.int (if y < x then y else x) :: st) h := by
  have e1 : callOf j (.invokestatic i) 3 (.int y :: .int x :: st) h = none := by
    show (ct (mt_c (mq j)) i).bind _ = none
    rw [hc, hct]; rfl
  have e2 : sim X j pc (.invokestatic i) 3 loc (.int y :: .int x :: st) h = some (pc + 3, loc, .int (if y < x then y else x) :: st, h) := by
    show (match it (mt_c (mq j)) i with
    | some 1 => (match (.int y :: .int x :: st : List Value) with
      | .int n :: .int dp :: .ref b :: .int sp :: .ref a :: r => if lite r = true then (cpy h a sp b dp n).map (fun h1 => (pc + 3, loc, r, h1)) else none
      | _ => none)
    | some 2 => (match (.int y :: .int x :: st : List Value) with
      | .int y :: .int x :: r => if lite r = true then some (pc + 3, loc, .int (if x < y then y else x) :: r, h) else none
      | _ => none)
    | some 3 => (match (.int y :: .int x :: st : List Value) with
      | .int y :: .int x :: r => if lite r = true then some (pc + 3, loc, .int (if y < x then y else x) :: r, h) else none
      | _ => none)
    | some 4 => (match (.int y :: .int x :: st : List Value) with
      | .int y :: r => if lite r = true then some (pc + 3, loc, .int (if 0 ≤ y then y else 0 - y) :: r, h) else none
      | _ => none)
    | _ => none) = _
    rw [hc, hi]
    show (if lite st = true then _ else none) = _
    rw [if_pos hl]
  rw [ev_sim (by rw [hb]; exact hd) (by show ¬ 5 = 6; decide) e1, e2]
  rfl
theorem r_abs {c i : Nat} {y : Int32} (hb : mt_b (mq j) = B) (hc : mt_c (mq j) = c) (hi : it c i = some 4) (hct : ct c i = none) (hd : decode B pc = .ok (.invokestatic i, 3)) (hl : lite st = true) : ev X j pc loc (.int y :: st) h = ev X j (pc + 3) loc (.int (if 0 ≤ y then y else 0 - y) :: st) h := by
  have e1 : callOf j (.invokestatic i) 3 (.int y :: st) h = none := by
    show (ct (mt_c (mq j)) i).bind _ = none
    rw [hc, hct]; rfl
  have e2 : sim X j pc (.invokestatic i) 3 loc (.int y :: st) h = some (pc + 3, loc, .int (if 0 ≤ y then y else 0 - y) :: st, h) := by
    show (match it (mt_c (mq j)) i with
    | some 1 => (match (.int y :: st : List Value) with
      | .int n :: .int dp :: .ref b :: .int sp :: .ref a :: r => if lite r = true then (cpy h a sp b dp n).map (fun h1 => (pc + 3, loc, r, h1)) else none
      | _ => none)
    | some 2 => (match (.int y :: st : List Value) with
      | .int y :: .int x :: r => if lite r = true then some (pc + 3, loc, .int (if x < y then y else x) :: r, h) else none
      | _ => none)
    | some 3 => (match (.int y :: st : List Value) with
      | .int y :: .int x :: r => if lite r = true then some (pc + 3, loc, .int (if y < x then y else x) :: r, h) else none
      | _ => none)
    | some 4 => (match (.int y :: st : List Value) with
      | .int y :: r => if lite r = true then some (pc + 3, loc, .int (if 0 ≤ y then y else 0 - y) :: r, h) else none
      | _ => none)
    | _ => none) = _
    rw [hc, hi]
    show (if lite st = true then _ else none) = _
    rw [if_pos hl]
  rw [ev_sim (by rw [hb]; exact hd) (by show ¬ 5 = 6; decide) e1, e2]
  rfl
theorem r_obj {c i a : Nat} (hb : mt_b (mq j) = B) (hc : mt_c (mq j) = c) (hi : it c i = some 0) (hct : ct c i = none) (hd : decode B pc = .ok (.invokespecial i, 3)) (hl : lite st = true) : ev X j pc loc (.ref a :: st) h = ev X j (pc + 3) loc st h := by
  have e1 : callOf j (.invokespecial i) 3 (.ref a :: st) h = none := by
    show (ct (mt_c (mq j)) i).bind _ = none
    rw [hc, hct]; rfl
  have e2 : sim X j pc (.invokespecial i) 3 loc (.ref a :: st) h = some (pc + 3, loc, st, h) := by
    show (if it (mt_c (mq j)) i = some 0 ∧ lite st = true then some (pc + 3, loc, st, h) else none) = _
    rw [if_pos ⟨by rw [hc]; exact hi, hl⟩]
  rw [ev_sim (by rw [hb]; exact hd) (by show ¬ 5 = 6; decide) e1, e2]
  rfl
def okC (c d : MC) (sp dp n : Int32) : Bool := decide (mcT c = 0) && decide (mcT d = 0) && decide (0 ≤ sp) && decide (0 ≤ dp) && decide (0 ≤ n) && decide (sp.toNatClampNeg + n.toNatClampNeg ≤ mcN c) && decide (dp.toNatClampNeg + n.toNatClampNeg ≤ mcN d)
theorem cpy_if (h : MH) (a : Nat) (sp : Int32) (b : Nat) (dp n : Int32) : cpy h a sp b dp n = if okC (hg h a) (hg h b) sp dp n then some (hp h b (iA (mcN (hg h b)) (va_cpy (mcI (hg h a)) (mcI (hg h b)) sp.toNatClampNeg dp.toNatClampNeg n.toNatClampNeg))) else none := by
  unfold cpy okC
  by_cases ht : mcT (hg h a) = 0
  · by_cases hu : mcT (hg h b) = 0
    · obtain ⟨n0, f, e⟩ := mcT0 ht
      obtain ⟨n1, g, e2⟩ := mcT0 hu
      rw [e, e2]; rfl
    · simp only [ht, hu, decide_false, Bool.and_false, Bool.false_and, Bool.false_eq_true, if_false]
      split
      · rename_i q1 q2 q3 q4 e e2; exact absurd (by rw [e2]; rfl) hu
      · rfl
  · simp only [ht, decide_false, Bool.false_and, Bool.false_eq_true, if_false]
    split
    · rename_i q1 q2 q3 q4 e e2; exact absurd (by rw [e]; rfl) ht
    · rfl
theorem r_copy {c i a b : Nat} {sp dp n : Int32} (hb : mt_b (mq j) = B) (hc : mt_c (mq j) = c) (hi : it c i = some 1) (hct : ct c i = none) (hd : decode B pc = .ok (.invokestatic i, 3)) (hl : lite st = true) : ev X j pc loc (.int n :: .int dp :: .ref b :: .int sp :: .ref a :: st) h = if okC (hg h a) (hg h b) sp dp n then ev X j (pc + 3) loc st (hp h b (iA (mcN (hg h b)) (va_cpy (mcI (hg h a)) (mcI (hg h b)) sp.toNatClampNeg dp.toNatClampNeg n.toNatClampNeg))) else none := by
  have e1 : callOf j (.invokestatic i) 3 (.int n :: .int dp :: .ref b :: .int sp :: .ref a :: st) h = none := by
    show (ct (mt_c (mq j)) i).bind _ = none
    rw [hc, hct]; rfl
  refine r_map hb hd (by show ¬ 5 = 6; decide) e1 (q := (pc + 3, loc, st, hp h b (iA (mcN (hg h b)) (va_cpy (mcI (hg h a)) (mcI (hg h b)) sp.toNatClampNeg dp.toNatClampNeg n.toNatClampNeg)))) ?_
  show (match it (mt_c (mq j)) i with
    | some 1 => (match (.int n :: .int dp :: .ref b :: .int sp :: .ref a :: st : List Value) with
      | .int n :: .int dp :: .ref b :: .int sp :: .ref a :: r => if lite r = true then (cpy h a sp b dp n).map (fun h1 => (pc + 3, loc, r, h1)) else none
      | _ => none)
    | some 2 => (match (.int n :: .int dp :: .ref b :: .int sp :: .ref a :: st : List Value) with
      | .int y :: .int x :: r => if lite r = true then some (pc + 3, loc, .int (if x < y then y else x) :: r, h) else none
      | _ => none)
    | some 3 => (match (.int n :: .int dp :: .ref b :: .int sp :: .ref a :: st : List Value) with
      | .int y :: .int x :: r => if lite r = true then some (pc + 3, loc, .int (if y < x then y else x) :: r, h) else none
      | _ => none)
    | some 4 => (match (.int n :: .int dp :: .ref b :: .int sp :: .ref a :: st : List Value) with
      | .int y :: r => if lite r = true then some (pc + 3, loc, .int (if 0 ≤ y then y else 0 - y) :: r, h) else none
      | _ => none)
    | _ => none) = _
  rw [hc, hi]
  show (if lite st = true then (cpy h a sp b dp n).map (fun h1 => (pc + 3, loc, st, h1)) else none) = _
  rw [if_pos hl, cpy_if]
  split <;> rfl
theorem r_alen {a : Nat} (hb : mt_b (mq j) = B) (hd : decode B pc = .ok (.arraylength, 1)) : ev X j pc loc (.ref a :: st) h = if mcT (hg h a) ≤ 3 then ev X j (pc + 1) loc (.int (Int32.ofNat (mcN (hg h a))) :: st) h else ev X j pc loc (.ref a :: st) h := by
  by_cases ht : mcT (hg h a) ≤ 3
  · rw [if_pos ht]
    refine r_sim (q := (pc + 1, loc, .int (Int32.ofNat (mcN (hg h a))) :: st, h)) hb hd (by show ¬ 4 = 6; decide) rfl ?_
    show (alen h a).map _ = _
    have e : alen h a = some (Int32.ofNat (mcN (hg h a))) := by
      unfold alen
      rcases (by omega : mcT (hg h a) = 0 ∨ mcT (hg h a) = 1 ∨ mcT (hg h a) = 2 ∨ mcT (hg h a) = 3) with q | q | q | q
      · obtain ⟨n, f, e⟩ := mcT0 q; rw [e]; rfl
      · obtain ⟨n, f, e⟩ := mcT1 q; rw [e]; rfl
      · obtain ⟨n, f, e⟩ := mcT2 q; rw [e]; rfl
      · obtain ⟨n, f, e⟩ := mcT3 q; rw [e]; rfl
    rw [e]
    rfl
  · rw [if_neg ht]
def okN (x : Int32) : Bool := decide (0 ≤ x) && decide (x.toNatClampNeg ≤ 40000)
theorem r_newi {x : Int32} (hb : mt_b (mq j) = B) (hd : decode B pc = .ok (.newarray .int, 2)) : ev X j pc loc (.int x :: st) h = if okN x then ev X j (pc + 2) loc (.ref h.1 :: st) (hnw h (iA x.toNatClampNeg (fun _ => 0)) x.toNatClampNeg) else none :=
  r_map (c := okN x) (q := (pc + 2, loc, .ref h.1 :: st, hnw h (iA x.toNatClampNeg (fun _ => 0)) x.toNatClampNeg)) hb hd (by show ¬ 4 = 6; decide) rfl rfl
theorem r_newl {x : Int32} (hb : mt_b (mq j) = B) (hd : decode B pc = .ok (.newarray .long, 2)) : ev X j pc loc (.int x :: st) h = if okN x then ev X j (pc + 2) loc (.ref h.1 :: st) (hnw h (lA x.toNatClampNeg (fun _ => 0)) x.toNatClampNeg) else none :=
  r_map (c := okN x) (q := (pc + 2, loc, .ref h.1 :: st, hnw h (lA x.toNatClampNeg (fun _ => 0)) x.toNatClampNeg)) hb hd (by show ¬ 4 = 6; decide) rfl rfl
theorem r_newz {x : Int32} (hb : mt_b (mq j) = B) (hd : decode B pc = .ok (.newarray .boolean, 2)) : ev X j pc loc (.int x :: st) h = if okN x then ev X j (pc + 2) loc (.ref h.1 :: st) (hnw h (zA x.toNatClampNeg (fun _ => 0)) x.toNatClampNeg) else none :=
  r_map (c := okN x) (q := (pc + 2, loc, .ref h.1 :: st, hnw h (zA x.toNatClampNeg (fun _ => 0)) x.toNatClampNeg)) hb hd (by show ¬ 4 = 6; decide) rfl rfl
theorem r_new {c i k : Nat} (hb : mt_b (mq j) = B) (hc : mt_c (mq j) = c) (hn : nt c i = some k) (hd : decode B pc = .ok (.new i, 3)) : ev X j pc loc st h = ev X j (pc + 3) loc (.ref h.1 :: st) (hnw h (ini k) (nfs k)) := by
  refine r_sim (q := (pc + 3, loc, .ref h.1 :: st, hnw h (ini k) (nfs k))) hb hd (by show ¬ 4 = 6; decide) rfl ?_
  have e : sim X j pc (.new i) 3 loc st h = (nt (mt_c (mq j)) i).map (fun k => (pc + 3, loc, .ref h.1 :: st, hnw h (ini k) (nfs k))) := by
    show simH X j pc (.new i) 3 loc st h = _
    unfold simH
    cases st <;> rfl
  rw [e, hc, hn]
  rfl
def roF (k : Nat) : Nat → Int32 := match k with
  | 1 => fun j => ([12, 21, 102, 120, 201, 210] : List Int32).getD j 0
  | 2 => fun j => ([2, 0, 1, 2, 0, 1, 0, 1, 2] : List Int32).getD j 0
  | _ => fun j => ([2, 1, 0, 1, 0, 2, 2, 1, 0] : List Int32).getD j 0
theorem r_roa {i : Int32} {a n : Nat} {f : Nat → Int32} (hb : mt_b (mq j) = B) (hd : decode B pc = .ok (.iaload, 1)) (hr : roA X a = some (n, f)) : ev X j pc loc (.int i :: .retAddr a :: st) h = if inR i n then ev X j (pc + 1) loc (.int (f i.toNatClampNeg) :: st) h else none := by
  refine r_map hb hd (by show ¬ 4 = 6; decide) rfl (q := (pc + 1, loc, .int (f i.toNatClampNeg) :: st, h)) ?_
  show (roA X a).bind _ = _
  rw [hr]
  rfl
theorem r_tabd {d lo hi : Int} {offs : Array Int} {len t : Nat} {x : Int32} (hb : mt_b (mq j) = B) (hd : decode B pc = .ok (.tableswitch d lo hi offs, len)) (ht : tgo pc d = some t) (hx : x.toInt < lo ∨ hi < x.toInt) : ev X j pc loc (.int x :: st) h = ev X j t loc st h := by
  refine r_sim (q := (t, loc, st, h)) hb hd (by show ¬ 3 = 6; decide) rfl ?_
  show (if x.toInt < lo ∨ hi < x.toInt then (tgo pc d).map (fun t => (t, loc, st, h)) else _) = _
  rw [if_pos hx, ht]
  rfl
end RUL

-- SOUNDNESS of the heap's instructions
section SNH
variable {p : Program} {l : Launch} {e : Env} {R : Room} {s : State} {m : MethodId} {args : Array Value} {below : List Frame} {meth : Method} {c : Code} {Q : State → Prop} {G : GX} {X : MX} {j n0 s0 : Nat}
theorem cell_he {h : MH} {H : Heap} {a : Nat} {cell : MC} (hR : HR G h H) (hc : hg h a = cell) (hne : ¬ cell = mjunk) : a < h.1 ∧ (mws G h)[a]? = some (gb G + a, mE G cell) := by
  have h1 : a < h.1 := hR.lt (by rw [hc]; exact hne)
  refine ⟨h1, ?_⟩
  rw [mws_get h1, hc]
theorem vw_ne {ci : Nat} {r : vw_C} {fs : List Value} (h : vwCl[ci]? = some r) : ¬ (Sum.inr (ci, fs) : MC) = mjunk := by
  intro q
  have e : ci = 1000 := congrArg Prod.fst (Sum.inr.inj q)
  rw [e] at h
  simp [vwCl] at h
theorem gf_eq {h : MH} {a ci k : Nat} {v : Value} (hv : gf h a ci k = some v) : ∃ fs : List Value, hg h a = .inr (ci, fs) ∧ fs[k]? = some v := by
  unfold gf at hv
  split at hv
  · rename_i c fs hc
    split at hv
    · rename_i e; subst e; exact ⟨fs, hc, hv⟩
    · cases hv
  · cases hv
theorem pf_eq {h h1 : MH} {a ci k : Nat} {v : Value} (hv : pf h a ci k v = some h1) : ∃ fs : List Value, hg h a = .inr (ci, fs) ∧ k < fs.length ∧ h1 = hp h a (.inr (ci, fs.set k v)) := by
  unfold pf at hv
  split at hv
  · rename_i c fs hc
    split at hv
    · rename_i e; obtain ⟨rfl, e2⟩ := e; cases hv; exact ⟨fs, hc, e2, rfl⟩
    · cases hv
  · cases hv
theorem ga_eq {h : MH} {a : Nat} {i v : Int32} (hv : ga h a i = some v) : ∃ n f, hg h a = .inl (0, n, .inl f) ∧ inR i n = true ∧ v = f i.toNatClampNeg := by
  unfold ga at hv
  split at hv
  · rename_i n f hc
    split at hv
    · rename_i hi; cases hv; exact ⟨n, f, hc, hi, rfl⟩
    · cases hv
  · cases hv
theorem gz_eq {h : MH} {a : Nat} {i v : Int32} (hv : gz h a i = some v) : ∃ n f, hg h a = .inl (2, n, .inl f) ∧ inR i n = true ∧ v = f i.toNatClampNeg := by
  unfold gz at hv
  split at hv
  · rename_i n f hc
    split at hv
    · rename_i hi; cases hv; exact ⟨n, f, hc, hi, rfl⟩
    · cases hv
  · cases hv
theorem gl_eq {h : MH} {a : Nat} {i : Int32} {v : Int64} (hv : gl h a i = some v) : ∃ n f, hg h a = .inl (1, n, .inr (.inl f)) ∧ inR i n = true ∧ v = f i.toNatClampNeg := by
  unfold gl at hv
  split at hv
  · rename_i n f hc
    split at hv
    · rename_i hi; cases hv; exact ⟨n, f, hc, hi, rfl⟩
    · cases hv
  · cases hv
theorem gq_eq {h : MH} {a : Nat} {i : Int32} {v : Option Nat} (hv : gq h a i = some v) : ∃ n f, hg h a = .inl (3, n, .inr (.inr (.inr (.inr f)))) ∧ inR i n = true ∧ v = f i.toNatClampNeg := by
  unfold gq at hv
  split at hv
  · rename_i n f hc
    split at hv
    · rename_i hi; cases hv; exact ⟨n, f, hc, hi, rfl⟩
    · cases hv
  · cases hv
theorem pa_eq {h h1 : MH} {a : Nat} {i x : Int32} (hv : pa h a i x = some h1) : ∃ n f, hg h a = .inl (0, n, .inl f) ∧ inR i n = true ∧ h1 = hp h a (.inl (0, n, .inl (upd f i.toNatClampNeg x))) := by
  unfold pa at hv
  split at hv
  · rename_i n f hc
    split at hv
    · rename_i hi; cases hv; exact ⟨n, f, hc, hi, rfl⟩
    · cases hv
  · cases hv
theorem pz_eq {h h1 : MH} {a : Nat} {i x : Int32} (hv : pz h a i x = some h1) : ∃ n f, hg h a = .inl (2, n, .inl f) ∧ inR i n = true ∧ h1 = hp h a (.inl (2, n, .inl (upd f i.toNatClampNeg (vp_nar .boolean x)))) := by
  unfold pz at hv
  split at hv
  · rename_i n f hc
    split at hv
    · rename_i hi; cases hv; exact ⟨n, f, hc, hi, rfl⟩
    · cases hv
  · cases hv
theorem pl_eq {h h1 : MH} {a : Nat} {i : Int32} {x : Int64} (hv : pl h a i x = some h1) : ∃ n f, hg h a = .inl (1, n, .inr (.inl f)) ∧ inR i n = true ∧ h1 = hp h a (.inl (1, n, .inr (.inl (vp_updL f i.toNatClampNeg x)))) := by
  unfold pl at hv
  split at hv
  · rename_i n f hc
    split at hv
    · rename_i hi; cases hv; exact ⟨n, f, hc, hi, rfl⟩
    · cases hv
  · cases hv
theorem pq_eq {h h1 : MH} {a b : Nat} {i : Int32} (hv : pq h a i b = some h1) : ∃ n f fs, hg h a = .inl (3, n, .inr (.inr (.inr (.inr f)))) ∧ hg h b = .inr (4, fs) ∧ inR i n = true ∧ h1 = hp h a (.inl (3, n, .inr (.inr (.inr (.inr (va_up f i.toNatClampNeg (some b))))))) := by
  unfold pq at hv
  split at hv
  · rename_i n f fs hc hc2
    split at hv
    · rename_i hi; cases hv; exact ⟨n, f, fs, hc, hc2, hi, rfl⟩
    · cases hv
  · cases hv
theorem alen_eq {h : MH} {a : Nat} {v : Int32} (hv : alen h a = some v) : ∃ t n f, hg h a = .inl (t, n, f) ∧ t ≤ 3 ∧ v = Int32.ofNat n := by
  unfold alen at hv
  split at hv
  · rename_i t n f hc
    split at hv
    · rename_i ht; cases hv; exact ⟨t, n, f, hc, ht, rfl⟩
    · cases hv
  · cases hv
theorem inl_ne {q : Nat × vp_A} : ¬ (Sum.inl q : MC) = mjunk := fun h => by cases h
theorem anw_eq {pc t n : Nat} {a0 : Nat → vp_A} {x : Int32} {loc r : List Value} {h : MH} {q : MS} (hs : anw pc t n a0 x loc r h = some q) : ¬ x < 0 ∧ x.toNatClampNeg ≤ 40000 ∧ q = (pc + n, loc, .ref h.1 :: r, hnw h (.inl (t, a0 x.toNatClampNeg)) x.toNatClampNeg) := by
  unfold anw at hs
  split at hs
  · rename_i hc
    simp only [Bool.and_eq_true, decide_eq_true_eq] at hc
    cases hs
    exact ⟨Int32.not_lt.mpr hc.1, hc.2, rfl⟩
  · cases hs
theorem mty_at (G : GX) {t : Nat} (ht : t ≤ 3) : ∃ ty, (mty G)[t]? = some (G.2.1 t, ty) := by
  match t, ht with
  | 0, _ => exact ⟨_, rfl⟩
  | 1, _ => exact ⟨_, rfl⟩
  | 2, _ => exact ⟨_, rfl⟩
  | 3, _ => exact ⟨_, rfl⟩
theorem new_prim {pc : Nat} {loc r : List Value} {h : MH} {x : Int32} {atype : ArrayType} {ty : FieldType} (t : Nat) (a0 : Nat → vp_A) (hx : p.tables.exec = Jvm.exec) (hb : c.code = mt_b (mq j)) (hts : ∀ w ∈ BIG, w.before args s = true) (hK : va_K G.1 vwCl (mty G) s) (hsz : s.heap.size = gb G + n0)
    (hd : decode (mt_b (mq j)) pc = .ok (.newarray atype, 2)) (hty : newarray.typeOf atype = ty) (hra : s.vm.findClass ("[" ++ ty.toString) = some (G.2.1 t)) (ha : ∀ N cA, vp_cell cA (mA G (a0 N)) = arrV cA N (fun _ => defaultValue ty)) (hw : Cond.arrayClass ty ∈ BIG) (hby : componentBytes ty ≤ 8) (hn : ¬ x < 0) (hN : x.toNatClampNeg ≤ 40000)
    (hc1 : h.1 + 1 ≤ n0 + R.cells) (hc2 : h.2.1 + x.toNatClampNeg ≤ s0 + R.slots) (k : WS G j n0 s0 p l e R s m args below meth c Q (pc + 2) loc (.ref h.1 :: r) (hnw h (.inl (t, a0 x.toNatClampNeg)) x.toNatClampNeg)) : WS G j n0 s0 p l e R s m args below meth c Q pc loc (.int x :: r) h := by
  subst hty
  intro H locs cells slots ls a1 a2 a3 a4 a5
  refine W_sz (fun hz => ?_)
  have hH : H.size = gb G + h.1 := by have := a1.1; omega
  have hbb : x.toNatClampNeg * componentBytes (newarray.typeOf atype) ≤ 536870912 := Nat.le_trans (Nat.mul_le_mul hN hby) (Nat.le_of_ble_eq_true rfl)
  refine va_newaK hx hb (hts _ hw) rfl hd rfl hn rfl hbb (by omega) (by omega) hH (fun H' cA e1 z1 o1 hAr hNm => ?_)
  have hcA : cA = G.2.1 t := Option.some.inj (hNm.symm.trans hra)
  refine k H' locs (cells + 1) (slots + x.toNatClampNeg) ls (HR.push a1 hH (by rw [z1, hH]) (fun q hq => o1 q (by omega)) ?_) ⟨by have := a2.1; omega, fun q h1 h2 => (o1 q (by have := a2.1; omega)).trans (a2.2.1 q h1 h2), a2.2.2⟩ a3 (by show n0 + (cells + 1) = h.1 + 1; omega) (by show s0 + (slots + x.toNatClampNeg) = h.2.1 + x.toNatClampNeg; omega)
  show H'[H.size]? = some (vp_cell (G.2.1 t) (mA G (a0 x.toNatClampNeg)))
  rw [ha, hH, ← hcA]
  exact e1
theorem rv_def (G : GX) (t : FieldType) : rv G (defaultValue t) = defaultValue t := by cases t <;> rfl
theorem new_obj {pc i ci : Nat} {loc r : List Value} {h : MH} (hx : p.tables.exec = Jvm.exec) (hb : c.code = mt_b (mq j)) (hown : s.vm.findClass (cn (mt_c (mq j))) = some m.cls) (hts : ∀ w ∈ BIG, w.before args s = true) (hK : va_K G.1 vwCl (mty G) s) (hsz : s.heap.size = gb G + n0)
    (hd : decode (mt_b (mq j)) pc = .ok (.new i, 3)) (hn : nok (mt_c (mq j), i, ci)) (hc1 : h.1 + 1 ≤ n0 + R.cells) (hc2 : h.2.1 + nfs ci ≤ s0 + R.slots) (k : WS G j n0 s0 p l e R s m args below meth c Q (pc + 3) loc (.ref h.1 :: r) (hnw h (ini ci) (nfs ci))) : WS G j n0 s0 p l e R s m args below meth c Q pc loc r h := by
  obtain ⟨rc, hrc, w1, w2, w3⟩ := hn
  have hrc : vwCl[ci]? = some rc := hrc
  have hnf : nfs ci = rc.2.2 := by unfold nfs; rw [hrc]
  rw [hnf] at hc2 k
  intro H locs cells slots ls a1 a2 a3 a4 a5
  refine W_sz (fun hz => ?_)
  have hH : H.size = gb G + h.1 := by have := a1.1; omega
  have hKn := hK.1 ci rc hrc
  obtain ⟨⟨ty0, hty⟩, -⟩ := cls_t ci rc hrc
  refine W.newcK hx hb hown (hts _ w1) (hts _ w2) (hts _ w3) rfl hd (by omega) (by omega) hKn.2.1 hH (fun H' kC hkC e1 z1 o1 => ?_)
  refine k H' locs (cells + 1) (slots + rc.2.2) ls (HR.push a1 hH (by rw [z1, hH]) (fun q hq => o1 q (by omega)) ?_) ⟨by have := a2.1; omega, fun q h1 h2 => (o1 q (by have := a2.1; omega)).trans (a2.2.1 q h1 h2), a2.2.2⟩ a3 (by show n0 + (cells + 1) = h.1 + 1; omega) (by show s0 + (slots + rc.2.2) = h.2.1 + rc.2.2; omega)
  rw [hH]
  have hi : ini ci = .inr (ci, (List.range rc.2.2).map (fun i => match parseFieldDescriptor (rc.2.1 i).2.2.1 with
    | some t => defaultValue t
    | none => .null)) := by unfold ini; rw [hrc]; rfl
  rw [hi]
  refine ⟨rc, hrc, (u_born ty0 hts (cls_w ci rc hrc) hKn hkC e1 hty).to (fun jj hj => ?_)⟩
  show defaultValue (ty0 jj) = vp_V _ jj
  unfold vp_V
  rw [List.getD_eq_getElem?_getD, List.getElem?_map, List.getElem?_map, List.getElem?_range hj]
  show defaultValue (ty0 jj) = rv G (match parseFieldDescriptor (rc.2.1 jj).2.2.1 with
    | some t => defaultValue t
    | none => .null)
  rw [hty jj hj]
  exact (rv_def G _).symm
theorem simH_ok {pc len pc' : Nat} {ins : Instr} {loc st loc' st' : List Value} {h h' : MH} (C : CX G X j n0 p s m args meth c) (hd : decode (mt_b (mq j)) pc = .ok (ins, len)) (hs : simH X j pc ins len loc st h = some (pc', loc', st', h')) (hc1 : h'.1 ≤ n0 + R.cells) (hc2 : h'.2.1 ≤ s0 + R.slots) (k : WS G j n0 s0 p l e R s m args below meth c Q pc' loc' st' h') : WS G j n0 s0 p l e R s m args below meth c Q pc loc st h := by
  obtain ⟨hx, hb, hml, hown, hts, hr, hlk, hnm, hK, hE, hsz⟩ := C
  have hAs : ∀ q, s.heap.size ≤ q → AA G q := fun q hq => by show gb G ≤ q; omega
  unfold simH at hs
  split at hs
  · -- getfield
    rename_i i a r
    cases hf : ft (mt_c (mq j)) i with
    | none => rw [hf] at hs; cases hs
    | some q =>
      obtain ⟨ci, kf⟩ := q
      rw [hf] at hs
      simp only [Option.bind_some] at hs
      obtain ⟨rc, hrc, hkl, hln⟩ := ftab_ok _ (tab_find hf)
      cases hv : gf h a ci kf with
      | none => rw [hv] at hs; cases hs
      | some v =>
        obtain ⟨fs, hcell, hfv⟩ := gf_eq hv
        rw [hv] at hs; cases hs
        intro H locs cells slots ls a1 a2 a3 a4 a5
        obtain ⟨hlt, he⟩ := cell_he a1 hcell (vw_ne hrc)
        exact va_get hx hb hts (cls_w ci rc hrc) hown hK a1.2.1 a he hrc kf hkl (hts _ hln) (fun x hx => hx) (by rw [List.getElem?_map, hfv]; rfl) hd (k H locs cells slots ls a1 a2 a3 a4 a5)
  · -- getfield of the string
    rename_i i a r
    unfold rof at hs
    split at hs
    · rename_i hc
      obtain ⟨hc, rfl⟩ := hc
      rw [hc] at hown
      split at hs
      · rename_i hi
        subst hi
        cases hs
        exact fun H locs cells slots ls a1 a2 a3 a4 a5 => vk_getf hx hb hE.2.2.2.2.2.2.2.2.2.2.2 a2 hown (hts _ w_1660) (fun x hx => hx) hd (k H locs cells slots ls a1 a2 a3 a4 a5)
      · split at hs
        · rename_i hi
          subst hi
          cases hs
          exact fun H locs cells slots ls a1 a2 a3 a4 a5 => vk_getf hx hb hE.2.2.2.2.2.2.2.2.2.2.1 a2 hown (hts _ w_1659) (fun x hx => hx) hd (k H locs cells slots ls a1 a2 a3 a4 a5)
        · cases hs
    · cases hs
  · -- putfield
    rename_i i v a r
    cases hf : ft (mt_c (mq j)) i with
    | none => rw [hf] at hs; cases hs
    | some q =>
      obtain ⟨ci, kf⟩ := q
      rw [hf] at hs
      simp only [Option.bind_some] at hs
      obtain ⟨rc, hrc, hkl, hln⟩ := ftab_ok _ (tab_find hf)
      split at hs
      · rename_i hcnd
        simp only [Bool.and_eq_true, Bool.or_eq_true, Bool.not_eq_true', decide_eq_true_eq] at hcnd
        obtain ⟨hfit, hfin⟩ := hcnd
        cases hv : pf h a ci kf v with
        | none => rw [hv] at hs; cases hs
        | some h1 =>
          obtain ⟨fs, hcell, hkf, rfl⟩ := pf_eq hv
          rw [hv] at hs; cases hs
          intro H locs cells slots ls a1 a2 a3 a4 a5
          obtain ⟨hlt, he⟩ := cell_he a1 hcell (vw_ne hrc)
          obtain ⟨⟨ty0, hty⟩, hnmd⟩ := cls_t ci rc hrc
          obtain ⟨ty, hte, hn1, hn2⟩ := fit_rv (G := G) hfit
          have hte2 : parseFieldDescriptor (rc.2.1 kf).2.2.1 = some ty := by
            unfold fty at hte
            rw [show vwCl[ci]? = some rc from hrc] at hte
            exact hte
          have hfe : ffin ci kf = (rc.2.1 kf).2.2.2 := by
            unfold ffin
            rw [show vwCl[ci]? = some rc from hrc]
          have kk : ∀ (H1 : Heap) (locs1 : List Loc), va_P G.1 vwCl ((mws G h).set a (gb G + a, .inr (ci, (fs.map (rv G)).set kf (rv G v)))) H1 → va_D (AA G) ((mws G h).set a (gb G + a, .inr (ci, (fs.map (rv G)).set kf (rv G v)))) → va_S (AA G) s.heap H1 locs1 → W p l e R s m args below meth c H1 locs1 cells slots Q (F0 m (pc + 3) ls (st'.map (rv G))) := by
            intro H1 locs1 b1 b2 b3
            rw [show (fs.map (rv G)).set kf (rv G v) = (fs.set kf v).map (rv G) from List.map_set.symm] at b1
            exact k H1 locs1 cells slots ls (a1.put hlt b1) b3 a3 a4 a5
          rcases hfin with hfin | ⟨hini, hcl⟩
          · rw [hfe] at hfin
            exact va_put hx hb hts (cls_w ci rc hrc) ty0 hty hnmd hown hK a1.2.1 mws_D a2 a he hrc kf hkl (hts _ hln) (fun x hx => hx) hfin hte2 hn1 hn2 (by rw [List.length_map]; exact hkf) hd kk
          · cases hff : (rc.2.1 kf).2.2.2 with
            | false => exact va_put hx hb hts (cls_w ci rc hrc) ty0 hty hnmd hown hK a1.2.1 mws_D a2 a he hrc kf hkl (hts _ hln) (fun x hx => hx) hff hte2 hn1 hn2 (by rw [List.length_map]; exact hkf) hd kk
            | true =>
              have hdc : (rc.2.1 kf).1 = cn (mt_c (mq j)) := by
                rw [(cls_d ci rc hrc).2 kf hkl, (cls_d ci rc hrc).1, hcl]
              exact va_putF hx hb hts (cls_w ci rc hrc) ty0 hty hnmd hown hK a1.2.1 mws_D a2 a he hrc kf hkl (hts _ hln) (fun x hx => hx) hff (hnm hini) hdc hte2 hn1 hn2 (by rw [List.length_map]; exact hkf) hd kk
      · cases hs
  · -- getstatic
    rename_i i
    unfold stv at hs
    split at hs
    · rename_i hc
      obtain ⟨hc, rfl⟩ := hc
      rw [hc] at hown
      cases hs
      exact fun H locs cells slots ls a1 a2 a3 a4 a5 => va_gets hx hb hE.2.2.2.1 a2 hown (hts _ w_1055) (fun x hx => hx) hd (k H locs cells slots ls a1 a2 a3 a4 a5)
    · split at hs
      · rename_i hc
        obtain ⟨hc, rfl⟩ := hc
        rw [hc] at hown
        cases hs
        exact fun H locs cells slots ls a1 a2 a3 a4 a5 => va_gets hx hb hE.2.2.2.2.1 a2 hown (hts _ w_1061) (fun x hx => hx) hd (k H locs cells slots ls a1 a2 a3 a4 a5)
      · split at hs
        · rename_i hc
          obtain ⟨hc, rfl⟩ := hc
          rw [hc] at hown
          cases hs
          exact fun H locs cells slots ls a1 a2 a3 a4 a5 => va_gets hx hb hE.2.2.2.2.2.1 a2 hown (hts _ w_1066) (fun x hx => hx) hd (k H locs cells slots ls a1 a2 a3 a4 a5)
        · split at hs
          · rename_i hc
            obtain ⟨hc, rfl⟩ := hc
            rw [hc] at hown
            cases hs
            exact fun H locs cells slots ls a1 a2 a3 a4 a5 => va_gets hx hb hE.2.2.2.2.2.2.1 a2 hown (hts _ w_788) (fun x hx => hx) hd (k H locs cells slots ls a1 a2 a3 a4 a5)
          · cases hs
  · -- iaload
    rename_i i a r
    cases hv : ga h a i with
    | none => rw [hv] at hs; cases hs
    | some v =>
      obtain ⟨n, f, hcell, hin, rfl⟩ := ga_eq hv
      rw [hv] at hs; cases hs
      intro H locs cells slots ls a1 a2 a3 a4 a5
      obtain ⟨hlt, he⟩ := cell_he a1 hcell inl_ne
      exact va_iald hx hb hK a1.2.1 a 0 he rfl (inR_in hin) hd (k H locs cells slots ls a1 a2 a3 a4 a5)
  · -- iaload of a read-only array
    rename_i i a r
    cases hv : roA X a with
    | none => rw [hv] at hs; cases hs
    | some q =>
      rw [hv] at hs
      simp only [Option.bind_some] at hs
      split at hs
      · rename_i hin
        cases hs
        exact fun H locs cells slots ls a1 a2 a3 a4 a5 => va_ti hx hb (hE.2.2.2.2.2.2.2.1 a q hv) a2 (inR_in hin) rfl hd (k H locs cells slots ls a1 a2 a3 a4 a5)
      · cases hs
  · -- baload
    rename_i i a r
    cases hv : gz h a i with
    | none => rw [hv] at hs; cases hs
    | some v =>
      obtain ⟨n, f, hcell, hin, rfl⟩ := gz_eq hv
      rw [hv] at hs; cases hs
      intro H locs cells slots ls a1 a2 a3 a4 a5
      obtain ⟨hlt, he⟩ := cell_he a1 hcell inl_ne
      exact va_zald hx hb hK a1.2.1 a 2 he rfl (inR_in hin) hd (k H locs cells slots ls a1 a2 a3 a4 a5)
  · -- baload of the string's bytes
    rename_i i a r
    split at hs
    · rename_i hc
      simp only [Bool.and_eq_true, decide_eq_true_eq] at hc
      obtain ⟨rfl, hin⟩ := hc
      cases hs
      exact fun H locs cells slots ls a1 a2 a3 a4 a5 => va_tb hx hb hE.2.2.2.2.2.2.2.2.1 a2 (inR_in hin) rfl hd (k H locs cells slots ls a1 a2 a3 a4 a5)
    · cases hs
  · -- laload
    rename_i i a r
    cases hv : gl h a i with
    | none => rw [hv] at hs; cases hs
    | some v =>
      obtain ⟨n, f, hcell, hin, rfl⟩ := gl_eq hv
      rw [hv] at hs; cases hs
      intro H locs cells slots ls a1 a2 a3 a4 a5
      obtain ⟨hlt, he⟩ := cell_he a1 hcell inl_ne
      exact va_lald hx hb hK a1.2.1 a 1 he rfl (inR_in hin) hd (k H locs cells slots ls a1 a2 a3 a4 a5)
  · -- aaload
    rename_i i a r
    cases hv : gq h a i with
    | none => rw [hv] at hs; cases hs
    | some v =>
      obtain ⟨n, f, hcell, hin, rfl⟩ := gq_eq hv
      rw [hv] at hs; cases hs
      intro H locs cells slots ls a1 a2 a3 a4 a5
      obtain ⟨hlt, he⟩ := cell_he a1 hcell inl_ne
      have k1 := k H locs cells slots ls a1 a2 a3 a4 a5
      have e1 : rv G (mrf (f i.toNatClampNeg)) = va_rf ((f i.toNatClampNeg).map (fun k => gb G + k)) := by
        cases f i.toNatClampNeg <;> rfl
      rw [List.map_cons, e1] at k1
      exact va_aldq hx hb hK a1.2.1 a 3 he rfl (inR_in hin) hd k1
  · -- iastore
    rename_i x i a r
    cases hv : pa h a i x with
    | none => rw [hv] at hs; cases hs
    | some h1 =>
      obtain ⟨n, f, hcell, hin, rfl⟩ := pa_eq hv
      rw [hv] at hs; cases hs
      intro H locs cells slots ls a1 a2 a3 a4 a5
      obtain ⟨hlt, he⟩ := cell_he a1 hcell inl_ne
      exact va_iast hx hb hK a1.2.1 mws_D a2 a 0 he rfl (inR_in hin) hd (fun H1 locs1 b1 b2 b3 => k H1 locs1 cells slots ls (a1.put hlt b1) b3 a3 a4 a5)
  · -- bastore
    rename_i x i a r
    cases hv : pz h a i x with
    | none => rw [hv] at hs; cases hs
    | some h1 =>
      obtain ⟨n, f, hcell, hin, rfl⟩ := pz_eq hv
      rw [hv] at hs; cases hs
      intro H locs cells slots ls a1 a2 a3 a4 a5
      obtain ⟨hlt, he⟩ := cell_he a1 hcell inl_ne
      exact va_zast hx hb hK a1.2.1 mws_D a2 a 2 he rfl (inR_in hin) hd (fun H1 locs1 b1 b2 b3 => k H1 locs1 cells slots ls (a1.put hlt b1) b3 a3 a4 a5)
  · -- lastore
    rename_i x i a r
    cases hv : pl h a i x with
    | none => rw [hv] at hs; cases hs
    | some h1 =>
      obtain ⟨n, f, hcell, hin, rfl⟩ := pl_eq hv
      rw [hv] at hs; cases hs
      intro H locs cells slots ls a1 a2 a3 a4 a5
      obtain ⟨hlt, he⟩ := cell_he a1 hcell inl_ne
      exact va_last hx hb hK a1.2.1 mws_D a2 a 1 he rfl (inR_in hin) hd (fun H1 locs1 b1 b2 b3 => k H1 locs1 cells slots ls (a1.put hlt b1) b3 a3 a4 a5)
  · -- aastore
    rename_i b i a r
    cases hv : pq h a i b with
    | none => rw [hv] at hs; cases hs
    | some h1 =>
      obtain ⟨n, f, fs, hcell, hcellb, hin, rfl⟩ := pq_eq hv
      rw [hv] at hs; cases hs
      intro H locs cells slots ls a1 a2 a3 a4 a5
      obtain ⟨hlt, he⟩ := cell_he a1 hcell inl_ne
      obtain ⟨hltb, heb⟩ := cell_he a1 hcellb (vw_ne (r := (RX4, TX4, 10)) rfl)
      refine va_astq (r := (RX4, TX4, 10)) hx hb hK a1.2.1 mws_D a2 a 3 b 4 he rfl heb rfl (inR_in hin) hd (fun H1 locs1 b1 b2 b3 => ?_)
      have e1 : (fun q => (va_up f i.toNatClampNeg (some b) q).map (fun k => gb G + k)) = va_up (fun q => (f q).map (fun k => gb G + k)) i.toNatClampNeg (some (gb G + b)) := by
        funext q
        unfold va_up
        split <;> rfl
      refine k H1 locs1 cells slots ls (a1.put hlt ?_) b3 a3 a4 a5
      show va_P G.1 vwCl ((mws G h).set a (gb G + a, .inl (G.2.1 3, n, .inr (.inr (.inr (.inr (fun q => (va_up f i.toNatClampNeg (some b) q).map (fun k => gb G + k)))))))) H1
      rw [e1]
      exact b1
  · -- arraylength
    rename_i a r
    cases hv : alen h a with
    | none => rw [hv] at hs; cases hs
    | some v =>
      obtain ⟨t, n, f, hcell, ht, rfl⟩ := alen_eq hv
      rw [hv] at hs; cases hs
      intro H locs cells slots ls a1 a2 a3 a4 a5
      obtain ⟨hlt, he⟩ := cell_he a1 hcell inl_ne
      obtain ⟨ty, hty⟩ := mty_at G ht
      exact va_alen hx hb hK a1.2.1 a t he hty (by rw [mA_len]) hd (k H locs cells slots ls a1 a2 a3 a4 a5)
  · -- arraylength of a read-only array
    rename_i a r
    split at hs
    · rename_i ha
      subst ha
      cases hs
      exact fun H locs cells slots ls a1 a2 a3 a4 a5 => va_tlen hx hb hE.2.2.2.2.2.2.2.2.1 a2 rfl hd (k H locs cells slots ls a1 a2 a3 a4 a5)
    · cases hv : roA X a with
      | none => rw [hv] at hs; cases hs
      | some q =>
        rw [hv] at hs; cases hs
        exact fun H locs cells slots ls a1 a2 a3 a4 a5 => va_tlen hx hb (hE.2.2.2.2.2.2.2.1 a q hv) a2 rfl hd (k H locs cells slots ls a1 a2 a3 a4 a5)
  · obtain ⟨hn, hN, hq⟩ := anw_eq hs
    cases hq
    exact new_prim 0 (fun n => (n, .inl (fun _ => 0))) hx hb hts hK hsz hd rfl (hK.2 0 _ rfl).2 (fun N cA => rfl) w_148 (by decide) hn hN hc1 hc2 k
  · obtain ⟨hn, hN, hq⟩ := anw_eq hs
    cases hq
    exact new_prim 1 (fun n => (n, .inr (.inl (fun _ => 0)))) hx hb hts hK hsz hd rfl (hK.2 1 _ rfl).2 (fun N cA => rfl) w_305 (by decide) hn hN hc1 hc2 k
  · obtain ⟨hn, hN, hq⟩ := anw_eq hs
    cases hq
    exact new_prim 2 (fun n => (n, .inl (fun _ => 0))) hx hb hts hK hsz hd rfl (hK.2 2 _ rfl).2 (fun N cA => rfl) w_306 (by decide) hn hN hc1 hc2 k
  · -- anewarray
    rename_i i x r
    split at hs
    · rename_i hc
      obtain ⟨hc, rfl⟩ := hc
      obtain ⟨hn, hN, hq⟩ := anw_eq hs
      cases hq
      rw [hc] at hown
      intro H locs cells slots ls a1 a2 a3 a4 a5
      refine W_sz (fun hz => ?_)
      have hH : H.size = gb G + h.1 := by have := a1.1; omega
      have b1 : h.1 + 1 ≤ n0 + R.cells := hc1
      have b2 : h.2.1 + x.toNatClampNeg ≤ s0 + R.slots := hc2
      refine W.anew hx hb hown (hts _ w_112) (va_AO.use hE.2.1) rfl hd rfl hn (by omega) (by omega) (by omega) (fun cA kA comp f1 f2 f3 f4 => ?_)
      generalize hH1 : H.push ({ cls := cA, slots := Array.replicate x.toNatClampNeg .null, vm := .none } : Cell) = H1
      have z1 : H1.size = H.size + 1 := by rw [← hH1, Array.size_push]
      have e1 : H1[H.size]? = some (arrV cA x.toNatClampNeg (fun _ => .null)) := by rw [← hH1, Array.getElem?_push_size, ← arrV_new]
      have o1 : ∀ q : Nat, q < H.size → H1[q]? = H[q]? := fun q hq => by rw [← hH1, Array.getElem?_push, if_neg (Nat.ne_of_lt hq)]
      obtain ⟨-, -, -, -, -, g4⟩ := (hK.2 3 _ rfl).2
      have hcA : cA = G.2.1 3 := Option.some.inj (f1.symm.trans g4)
      rw [show (F0 m pc ls (List.map (rv G) (Value.int x :: r))).pc + 3 = pc + 3 from rfl]
      have k1 := k H1 locs (cells + 1) (slots + x.toNatClampNeg) ls (HR.push a1 hH z1 o1 (by
        show H1[H.size]? = some (vp_cell (G.2.1 3) (x.toNatClampNeg, .inr (.inr (.inr (.inr (fun _ => none))))))
        rw [vp_cell_q, ← hcA]
        exact e1)) ⟨by have := a2.1; omega, fun q h1 h2 => (o1 q (by have := a2.1; omega)).trans (a2.2.1 q h1 h2), a2.2.2⟩ a3 (by show n0 + (cells + 1) = h.1 + 1; omega) (by show s0 + (slots + x.toNatClampNeg) = h.2.1 + x.toNatClampNeg; omega)
      rw [hH]
      exact k1
    · cases hs
  · -- new
    rename_i i
    cases hv : nt (mt_c (mq j)) i with
    | none => rw [hv] at hs; cases hs
    | some ci =>
      rw [hv] at hs; cases hs
      exact new_obj hx hb hown hts hK hsz hd (ntab_ok _ (tab_find hv)) hc1 hc2 k
  · cases hs
end SNH

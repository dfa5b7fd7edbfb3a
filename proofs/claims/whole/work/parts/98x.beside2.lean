-- BESIDE 2
section BE2
variable {X : MX} {t : Nat} {h B : MH} {D : LD} {S IM KP : Nat → Int32} {n x : Nat} {tl : Nat → Int64} {q A : Nat → Int32}
/-- the class's heap while it is told of one after another -/
def GDB (D : LD) (n : Nat) (q : Nat → Int32) (r : Nat → Int32) (tl : Nat → Int64) (k : Nat) (B : MH) (V : Nat → Int64) : Prop := FIX B ∧ LG B 1 D ∧ hg B 31 = oB 6 [.ref 1, .ref 22, .ref 23, .ref 32, .ref 34, .ref 35, .ref 36, .int (nI n)] ∧ (∃ A : Nat → Int32, TAB B 32 33 16 6 16 A ∧ ∀ i, i < 96 → A i = q i) ∧ hg B 34 = iA 7 r ∧ hg B 36 = lA 7 V ∧ ∀ j, j < k → ∃ g, g < 16 ∧ r j = nI g ∧ V j = tl g
theorem c_bt_lp {r : Nat → Int32} (hn : n ≤ 7) (hr : ENF n r) (HT : ∀ (B : MH) (A : Nat → Int32) (a : Nat), FIX B → LG B 1 D → hg B 31 = oB 6 [.ref 1, .ref 22, .ref 23, .ref 32, .ref 34, .ref 35, .ref 36, .int (nI n)] → TAB B 32 33 16 6 16 A → (∀ i, i < 96 → A i = q i) → a < 16 → ∃ H5 : MH, (ev X 69 0 [.ref 31, .int (nI x), .int (nI a)] [] (B)) = some (some (.long (tl a)), (H5)) ∧ COK B H5 ∧ ∀ k, k < 23 ∨ 30 < k → hg H5 k = hg B k) {a2 a3 : Value} : ∀ (d k : Nat) (B : MH) (V : Nat → Int64), k + d = n → GDB D n q r tl k B V → ∃ (B' : MH) (V' : Nat → Int64), GDB D n q r tl n B' V' ∧ COK B B' ∧ ev X 70 9 [.ref 31, .int (nI x), a2, a3, .int (nI k)] [] B = ev X 70 43 [.ref 31, .int (nI x), a2, a3, .int (nI n)] [] B' := by
  intro d
  induction d with
  | zero =>
    intro k B V e G
    have e : k = n := by omega
    subst e
    obtain ⟨g1, g2, g3, g4, g5, g6, g7⟩ := G
    have l := nI_nlt (Nat.le_refl k) (by omega)
    refine ⟨B, V, ⟨g1, g2, g3, g4, g5, g6, g7⟩, COK.refl g1, ?_⟩
    rw [s70_9]
    simp only [s70_0, s70_1, s70_2, s70_3, s70_6, s70_7, s70_11, s70_12, s70_15, s70_18, s70_19, s70_22, s70_24, s70_25, s70_26, s70_27, s70_30, s70_32, s70_33, s70_36, s70_37, s70_40, s70_44, s70_47, s70_48, s70_49, s70_50, s70_53, s70_54, s70_55, s70_58, s70_61, s70_62, s70_65, s70_66, s70_67, s70_70, s70_71, okF, okA, mcC_o, mcF_o, mcT_i, mcT_l, mcT_z, mcT_q, mcN_i, mcN_l, mcN_z, mcN_q, mcI_i, mcI_z, mcL_l, mcQ_q, hg_hp, hp_hp, List.getD_cons_zero, List.getD_cons_succ, List.set_cons_zero, List.set_cons_succ, List.length_cons, List.length_nil, Nat.reduceAdd, Nat.reduceLT, Nat.reduceEqDiff, Nat.lt_add_one, decide_true, decide_false, Bool.and_true, Bool.true_and, Bool.and_false, Bool.false_and, Bool.false_eq_true, if_true, if_false, ↓reduceIte, Option.bind_some, Option.bind_none, kont_v, kont_n, g3, l]
  | succ d ih =>
    intro k B V e G
    obtain ⟨g1, g2, g3, ⟨A, g4, g4'⟩, g5, g6, g7⟩ := G
    have l := nI_lt (show k < n by omega) (by omega)
    have p1 : nI k + 1 = nI (k + 1) := nI_add k 1
    have rk : inR (nI k) 7 = true := inR_n (by omega) (by decide)
    have ck : (nI k).toNatClampNeg = k := nI_clamp (by omega)
    obtain ⟨a, a1, ea⟩ := hr k (by omega)
    obtain ⟨H5, t1, t2, t3⟩ := HT B A a g1 g2 g3 g4 g4' a1
    have h36 : hg H5 36 = lA 7 V := (t3 36 (by omega)).trans g6
    have K : COK B (hp H5 36 (lA 7 (vp_updL V k (tl a)))) := t2.put (k := 36) (by decide) ⟨_, rfl⟩
    have off : ∀ j, j < 23 ∨ (30 < j ∧ j ≠ 36) → hg (hp H5 36 (lA 7 (vp_updL V k (tl a)))) j = hg B j := fun j hj => by rw [hg_hp, if_neg (by omega)]; exact t3 j (by omega)
    obtain ⟨B', V', G', K', e'⟩ := ih (k + 1) (hp H5 36 (lA 7 (vp_updL V k (tl a)))) (vp_updL V k (tl a)) (by omega) ⟨K.1, g2.same (fun j j1 j2 => off j (by omega)), (off 31 (by omega)).trans g3, ⟨A, g4.same (off 32 (by omega)) (off 33 (by omega)), g4'⟩, (off 34 (by omega)).trans g5, by rw [hg_hp, if_pos rfl], fun j hj => by
      by_cases z : j = k
      · exact ⟨a, a1, by rw [z]; exact ea, by rw [z, updL_eq]⟩
      · obtain ⟨g, q1, q2, q3⟩ := g7 j (by omega)
        exact ⟨g, q1, q2, by rw [updL_ne z]; exact q3⟩⟩
    refine ⟨B', V', G', K.trans K', ?_⟩
    rw [← e', s70_9]
    simp only [s70_0, s70_1, s70_2, s70_3, s70_6, s70_7, s70_11, s70_12, s70_15, s70_18, s70_19, s70_22, s70_24, s70_25, s70_26, s70_27, s70_30, s70_32, s70_33, s70_36, s70_37, s70_40, s70_44, s70_47, s70_48, s70_49, s70_50, s70_53, s70_54, s70_55, s70_58, s70_61, s70_62, s70_65, s70_66, s70_67, s70_70, s70_71, okF, okA, mcC_o, mcF_o, mcT_i, mcT_l, mcT_z, mcT_q, mcN_i, mcN_l, mcN_z, mcN_q, mcI_i, mcI_z, mcL_l, mcQ_q, hg_hp, hp_hp, List.getD_cons_zero, List.getD_cons_succ, List.set_cons_zero, List.set_cons_succ, List.length_cons, List.length_nil, Nat.reduceAdd, Nat.reduceLT, Nat.reduceEqDiff, Nat.lt_add_one, decide_true, decide_false, Bool.and_true, Bool.true_and, Bool.and_false, Bool.false_and, Bool.false_eq_true, if_true, if_false, ↓reduceIte, Option.bind_some, Option.bind_none, kont_v, kont_n, g3, g5, l, rk, ck, ea, t1, h36, p1]
/-- the reference's heap likewise -/
theorem m_bst_lp2 {r : Nat → Int32} (hn : n ≤ 7) (hr : ENF n r) (P : MH → Prop) (hP : ∀ B V T, P B → P (hp (hp B 75 (lA 60 V)) 76 (lA 16 T))) (h55 : ∀ B, P B → ∃ io wl sp wa se bc sv bq : Int32, hg B 55 = oB 12 (MO io wl (nI n) sp wa se bc sv bq)) (h70 : ∀ B, P B → hg B 70 = iA 16 r) (h76 : ∀ B, P B → ∃ T, hg B 76 = lA 16 T) (HT : ∀ (B : MH) (a : Nat), P B → a < 16 → ∃ V9, (ev X 202 0 [.ref 55, .int (nI a), .float 0, .float 0, .float 0, .float 0, .float 0, .float 0, .float 0] [] (B)) = some (some (.long (tl a)), (hp B 75 (lA 60 V9)))) {a1 a2 a3 a5 a6 : Value} : ∀ (d k : Nat) (B : MH), k + d = n → P B → (∀ T, hg B 76 = lA 16 T → ∀ j, j < k → ∃ g, g < 16 ∧ r j = nI g ∧ T g = tl g) → ∃ (B' : MH) (T' : Nat → Int64), P B' ∧ hg B' 76 = lA 16 T' ∧ (∀ j, j < n → ∃ g, g < 16 ∧ r j = nI g ∧ T' g = tl g) ∧ ev X 204 43 [.ref 55, a1, a2, a3, .int (nI k), a5, a6] [] B = ev X 204 81 [.ref 55, a1, a2, a3, .int (nI n), a5, a6] [] B' := by
  intro d
  induction d with
  | zero =>
    intro k B e hp1 hT
    have e : k = n := by omega
    subst e
    have l := nI_nlt (Nat.le_refl k) (by omega)
    obtain ⟨io, wl, sp, wa, se, bc, sv, bq, h0⟩ := h55 B hp1
    obtain ⟨T, hT1⟩ := h76 B hp1
    refine ⟨B, T, hp1, hT1, hT T hT1, ?_⟩
    rw [s204_43]
    simp only [s204_0, s204_1, s204_4, s204_7, s204_8, s204_9, s204_10, s204_13, s204_16, s204_17, s204_20, s204_22, s204_23, s204_24, s204_25, s204_28, s204_29, s204_32, s204_34, s204_35, s204_36, s204_37, s204_40, s204_41, s204_45, s204_46, s204_49, s204_52, s204_53, s204_56, s204_57, s204_60, s204_62, s204_63, s204_64, s204_65, s204_68, s204_70, s204_71, s204_74, s204_75, s204_78, s204_82, s204_86, s204_87, s204_90, s204_93, s204_94, s204_97, s204_99, s204_100, s204_102, s204_104, s204_108, s204_111, s204_112, s204_115, s204_116, s204_119, s204_121, s204_122, s204_123, s204_124, s204_125, s204_126, s204_129, s204_131, s204_132, s204_133, s204_136, s204_137, s204_140, s204_142, s204_143, s204_146, s204_148, s204_149, s204_150, s204_151, s204_152, s204_155, s204_158, s204_159, s204_162, s204_164, s204_166, s204_167, s204_170, s204_173, s204_174, s204_175, s204_178, s204_181, s204_182, s204_185, s204_186, s204_187, s204_190, s204_191, okF, okA, mcC_o, mcF_o, mcT_i, mcT_l, mcT_z, mcT_q, mcN_i, mcN_l, mcN_z, mcN_q, mcI_i, mcI_z, mcL_l, mcQ_q, hg_hp, hp_hp, List.getD_cons_zero, List.getD_cons_succ, List.set_cons_zero, List.set_cons_succ, List.length_cons, List.length_nil, Nat.reduceAdd, Nat.reduceLT, Nat.reduceEqDiff, Nat.lt_add_one, decide_true, decide_false, Bool.and_true, Bool.true_and, Bool.and_false, Bool.false_and, Bool.false_eq_true, if_true, if_false, ↓reduceIte, Option.bind_some, Option.bind_none, kont_v, kont_n, h0, MO_len, MO_16, l]
  | succ d ih =>
    intro k B e hp1 hT
    have l := nI_lt (show k < n by omega) (by omega)
    have p1 : nI k + 1 = nI (k + 1) := nI_add k 1
    have rk : inR (nI k) 16 = true := inR_n (by omega) (by decide)
    have ck : (nI k).toNatClampNeg = k := nI_clamp (by omega)
    obtain ⟨io, wl, sp, wa, se, bc, sv, bq, h0⟩ := h55 B hp1
    have e70 := h70 B hp1
    obtain ⟨T, hT1⟩ := h76 B hp1
    obtain ⟨a, ha, ea⟩ := hr k (by omega)
    have ra : inR (nI a) 16 = true := inR_n ha (by decide)
    have ca : (nI a).toNatClampNeg = a := nI_clamp (by omega)
    obtain ⟨V9, t1⟩ := HT B a hp1 ha
    obtain ⟨B', T', q1, q2, q3, q4⟩ := ih (k + 1) (hp (hp B 75 (lA 60 V9)) 76 (lA 16 (vp_updL T a (tl a)))) (by omega) (hP B V9 _ hp1) (fun T2 hT2 j hj => by
      rw [hg_hp, if_pos rfl] at hT2
      have hT2 : vp_updL T a (tl a) = T2 := congrArg mcL hT2
      rw [← hT2]
      by_cases z : j = k
      · exact ⟨a, ha, by rw [z]; exact ea, updL_eq⟩
      · obtain ⟨g, y1, y2, y3⟩ := hT T hT1 j (by omega)
        refine ⟨g, y1, y2, ?_⟩
        by_cases w : g = a
        · rw [w, updL_eq]
        · rw [updL_ne w]; exact y3)
    refine ⟨B', T', q1, q2, q3, ?_⟩
    rw [← q4, s204_43]
    simp only [s204_0, s204_1, s204_4, s204_7, s204_8, s204_9, s204_10, s204_13, s204_16, s204_17, s204_20, s204_22, s204_23, s204_24, s204_25, s204_28, s204_29, s204_32, s204_34, s204_35, s204_36, s204_37, s204_40, s204_41, s204_45, s204_46, s204_49, s204_52, s204_53, s204_56, s204_57, s204_60, s204_62, s204_63, s204_64, s204_65, s204_68, s204_70, s204_71, s204_74, s204_75, s204_78, s204_82, s204_86, s204_87, s204_90, s204_93, s204_94, s204_97, s204_99, s204_100, s204_102, s204_104, s204_108, s204_111, s204_112, s204_115, s204_116, s204_119, s204_121, s204_122, s204_123, s204_124, s204_125, s204_126, s204_129, s204_131, s204_132, s204_133, s204_136, s204_137, s204_140, s204_142, s204_143, s204_146, s204_148, s204_149, s204_150, s204_151, s204_152, s204_155, s204_158, s204_159, s204_162, s204_164, s204_166, s204_167, s204_170, s204_173, s204_174, s204_175, s204_178, s204_181, s204_182, s204_185, s204_186, s204_187, s204_190, s204_191, okF, okA, mcC_o, mcF_o, mcT_i, mcT_l, mcT_z, mcT_q, mcN_i, mcN_l, mcN_z, mcN_q, mcI_i, mcI_z, mcL_l, mcQ_q, hg_hp, hp_hp, List.getD_cons_zero, List.getD_cons_succ, List.set_cons_zero, List.set_cons_succ, List.length_cons, List.length_nil, Nat.reduceAdd, Nat.reduceLT, Nat.reduceEqDiff, Nat.lt_add_one, decide_true, decide_false, Bool.and_true, Bool.true_and, Bool.and_false, Bool.false_and, Bool.false_eq_true, if_true, if_false, ↓reduceIte, Option.bind_some, Option.bind_none, kont_v, kont_n, h0, MO_len, MO_16, MO_17, MO_25, e70, hT1, l, p1, rk, ck, ea, ra, ca, t1]
theorem named_pool2 (R : REL D S) {H H2 : MH} (F2 : FIX H2) (M2 : MD H2 S IM KP) {g : G8} {q : Nat → Int32} {io wl pl sp wa se bc sv bq : Int32} (k55 : hg H 55 = oB 12 (MO io wl pl sp wa se bc sv bq)) (hH : ∀ k, k < 70 → k ≠ 55 → hg H k = hg (PH (GH H2 g) q) k) {a : Nat} (ha : a < 16) : ∀ V l, (ev X 203 0 [.ref 55, .int (nI a), .int l] [] (hp H 75 (lA 60 V))) = some (some (.long (nmF q (D.2.1 1) a l)), (hp H 75 (lA 60 V))) := fun V l => by
  have e : ∀ k, k < 70 → k ≠ 55 → hg (hp H 75 (lA 60 V)) k = hg (PH (GH H2 g) q) k := fun k hk h5 => by rw [hg_hp, if_neg (by omega)]; exact hH k hk h5
  have k55 : hg (hp H 75 (lA 60 V)) 55 = oB 12 (MO io wl pl sp wa se bc sv bq) := by rw [hg_hp, if_neg (by decide)]; exact k55
  have k56 : hg (hp H 75 (lA 60 V)) 56 = iA 16450 S := (e 56 (by omega) (by decide)).trans ((PH_off (by omega)).trans ((GH_off (by decide) (by decide) (by decide) (by decide)).trans M2.1))
  exact m_named k55 k56 ((e 64 (by omega) (by decide)).trans PH_64) ((e 65 (by omega) (by decide)).trans PH_65) ((e 66 (by omega) (by decide)).trans PH_66) ((e 67 (by omega) (by decide)).trans PH_67) ((e 68 (by omega) (by decide)).trans PH_68) ((e 69 (by omega) (by decide)).trans PH_69) (fun f hf => g16_at hf) (fun f hf => g16_at hf) (fun f hf => g16_at hf) (fun f hf => g16_at hf) (fun f hf => g16_at hf) (fun f hf => g16_at hf) (seeds_m R) ha
end BE2

-- BESIDE: the class's and the reference's sorts
/-- 1: e is told more than g -/
def aht (tl : Nat → Int64) (e g : Nat) : Int32 := if lg_cmp (tl g) (tl e) < 0 then 1 else 0
def srt (ah : Nat → Nat → Int32) : Nat → Nat → (Nat → Int32) → Nat → Int32
  | 0, _, r => r
  | d + 1, k, r => srt ah d (k + 1) (ins ah (fnn (r k)) k r)
theorem srt_congr {ah : Nat → Nat → Int32} {n : Nat} : ∀ (d k : Nat) (r r' : Nat → Int32), k + d = n → (∀ i, i < n → r i = r' i) → ∀ i, i < n → srt ah d k r i = srt ah d k r' i := by
  intro d
  induction d with
  | zero => intro k r r' _ h i hi; exact h i hi
  | succ d ih =>
    intro k r r' e h i hi
    rw [srt, srt]
    refine ih (k + 1) _ _ (by omega) (fun j hj => ?_) i hi
    rw [h k (by omega)]
    by_cases q : j ≤ k
    · exact ins_congr k r r' (fun j hj => h j (by omega)) j q
    · rw [ins_hi k r j (by omega), ins_hi k r' j (by omega)]
      exact h j hj
/-- rows of fencers -/
def ENF (n : Nat) (r : Nat → Int32) : Prop := ∀ i, i < n → ∃ g, g < 16 ∧ r i = nI g
theorem ENF.ins {ah : Nat → Nat → Int32} {n k e : Nat} {r : Nat → Int32} (h : ENF n r) (he : e < 16) (hk : k < n) : ENF n (ins ah e k r) := fun i hi => by
  by_cases q : i ≤ k
  · rcases ins_val (ah := ah) (e := e) k r i q with z | ⟨j, j1, j2⟩
    · exact ⟨e, he, z⟩
    · rw [j2]; exact h j (by omega)
  · rw [ins_hi k r i (by omega)]; exact h i hi
def BSH (B : MH) (r : Nat → Int32) (V : Nat → Int64) : MH := hp (hp B 34 (iA 7 r)) 36 (lA 7 V)
section BSS
variable {B : MH} {r f : Nat → Int32} {V g : Nat → Int64}
theorem BSH_34 : hg (BSH B r V) 34 = iA 7 r := Eq.trans rfl rfl
theorem BSH_36 : hg (BSH B r V) 36 = lA 7 V := Eq.trans rfl rfl
theorem BSH_31 : hg (BSH B r V) 31 = hg B 31 := Eq.trans rfl rfl
theorem BSHp_34 : hp (BSH B r V) 34 (iA 7 f) = BSH B f V := by
  unfold BSH
  rw [hp_sw (by decide : (36 : Nat) ≠ 34), hp_hp]
theorem BSHp_36 : hp (BSH B r V) 36 (lA 7 g) = BSH B r g := by
  unfold BSH
  rw [hp_hp]
end BSS
section BSD
variable {X : MX} {t : Nat} {h B H : MH} {D : LD} {S IM KP : Nat → Int32} {n : Nat} {tl : Nat → Int64}
theorem c_so_in (h31 : hg B 31 = oB 6 [.ref 1, .ref 22, .ref 23, .ref 32, .ref 34, .ref 35, .ref 36, .int (nI n)]) {e nx : Nat} (he : e < 16) (hx : nx < 7) : ∀ (k : Nat) (r : Nat → Int32) (V : Nat → Int64), k ≤ nx → (∀ j, j < k → ∃ g, g < 16 ∧ r j = nI g ∧ V j = tl g) → ∃ (V' : Nat → Int64) (a5 : Value), ev X 71 27 [.ref 31, .int (nI nx), .int (nI e), .long (tl e), .float 0, .int (nI k)] [] (BSH B r V) = ev X 71 2 [.ref 31, .int (nI (nx + 1)), .int (nI e), .long (tl e), .float 0, a5] [] (BSH B (ins (aht tl) e k r) V') ∧ (∀ j, j ≤ k → ∃ g, g < 16 ∧ ins (aht tl) e k r j = nI g ∧ V' j = tl g) ∧ ∀ j, k < j → V' j = V j := by
  intro k
  induction k with
  | zero =>
    intro r V hk hr
    have l : ¬ (0 : Int32) < nI 0 := by decide
    have r0 : inR (nI 0) 7 = true := by decide
    have c0 : (nI 0).toNatClampNeg = 0 := by decide
    have p1 : nI nx + 1 = nI (nx + 1) := nI_add nx 1
    refine ⟨vp_updL V 0 (tl e), .int (nI 0), ?_, fun j hj => ⟨e, he, ?_, ?_⟩, fun j hj => updL_ne (by omega)⟩
    · show _ = ev X 71 2 _ [] (BSH B (upd r 0 (nI e)) _)
      rw [s71_27]
      simp only [s71_0, s71_1, s71_3, s71_4, s71_7, s71_10, s71_11, s71_14, s71_15, s71_16, s71_17, s71_18, s71_21, s71_22, s71_23, s71_24, s71_25, s71_29, s71_32, s71_33, s71_36, s71_38, s71_39, s71_40, s71_41, s71_42, s71_43, s71_46, s71_47, s71_50, s71_52, s71_53, s71_56, s71_58, s71_59, s71_60, s71_61, s71_62, s71_63, s71_66, s71_68, s71_69, s71_72, s71_74, s71_75, s71_76, s71_77, s71_78, s71_81, s71_84, s71_85, s71_88, s71_90, s71_91, s71_92, s71_93, s71_96, s71_98, s71_99, s71_100, s71_103, s71_106, okF, okA, mcC_o, mcF_o, mcT_i, mcT_l, mcT_z, mcT_q, mcN_i, mcN_l, mcN_z, mcN_q, mcI_i, mcI_z, mcL_l, mcQ_q, hg_hp, hp_hp, List.getD_cons_zero, List.getD_cons_succ, List.set_cons_zero, List.set_cons_succ, List.length_cons, List.length_nil, Nat.reduceAdd, Nat.reduceLT, Nat.reduceEqDiff, Nat.lt_add_one, decide_true, decide_false, Bool.and_true, Bool.true_and, Bool.and_false, Bool.false_and, Bool.false_eq_true, if_true, if_false, ↓reduceIte, Option.bind_some, Option.bind_none, kont_v, kont_n, BSH_31, h31, BSH_34, BSH_36, BSHp_34, BSHp_36, l, r0, c0, p1]
    · rw [show j = 0 by omega]; exact upd_eq
    · rw [show j = 0 by omega]; exact updL_eq
  | succ k ih =>
    intro r V hk hr
    have l : (0 : Int32) < nI (k + 1) := nI_lt (a := 0) (by omega) (by omega)
    have pk : nI (k + 1) - 1 = nI k := nI_pred k
    have pk2 : nI (k + 1) + -1 = nI k := by rw [← Int32.sub_eq_add_neg]; exact nI_pred k
    have rk : inR (nI k) 7 = true := inR_n (by omega) (by decide)
    have ck : (nI k).toNatClampNeg = k := nI_clamp (by omega)
    have rk1 : inR (nI (k + 1)) 7 = true := inR_n (by omega) (by decide)
    have ck1 : (nI (k + 1)).toNatClampNeg = k + 1 := nI_clamp (by omega)
    have p1 : nI nx + 1 = nI (nx + 1) := nI_add nx 1
    obtain ⟨g, g1, g2, g3⟩ := hr k (by omega)
    have fg : fnn (r k) = g := by rw [g2]; exact nI_clamp (by omega)
    rw [ins, fg]
    unfold aht
    by_cases c : lg_cmp (tl g) (tl e) < 0
    · have c' := eq_true c
      rw [if_pos c, if_neg (by decide)]
      obtain ⟨V', a5, e1, e2, e3⟩ := ih (upd r (k + 1) (r k)) (vp_updL V (k + 1) (V k)) (by omega) (fun j hj => by
        obtain ⟨g', q1, q2, q3⟩ := hr j (by omega)
        exact ⟨g', q1, by rw [upd_ne (by omega)]; exact q2, by rw [updL_ne (by omega)]; exact q3⟩)
      refine ⟨V', a5, ?_, fun j hj => ?_, fun j hj => by rw [e3 j (by omega), updL_ne (by omega)]⟩
      · show _ = ev X 71 2 _ [] (BSH B (ins (aht tl) e k (upd r (k + 1) (r k))) V')
        rw [← e1, s71_27]
        simp only [s71_0, s71_1, s71_3, s71_4, s71_7, s71_10, s71_11, s71_14, s71_15, s71_16, s71_17, s71_18, s71_21, s71_22, s71_23, s71_24, s71_25, s71_29, s71_32, s71_33, s71_36, s71_38, s71_39, s71_40, s71_41, s71_42, s71_43, s71_46, s71_47, s71_50, s71_52, s71_53, s71_56, s71_58, s71_59, s71_60, s71_61, s71_62, s71_63, s71_66, s71_68, s71_69, s71_72, s71_74, s71_75, s71_76, s71_77, s71_78, s71_81, s71_84, s71_85, s71_88, s71_90, s71_91, s71_92, s71_93, s71_96, s71_98, s71_99, s71_100, s71_103, s71_106, okF, okA, mcC_o, mcF_o, mcT_i, mcT_l, mcT_z, mcT_q, mcN_i, mcN_l, mcN_z, mcN_q, mcI_i, mcI_z, mcL_l, mcQ_q, hg_hp, hp_hp, List.getD_cons_zero, List.getD_cons_succ, List.set_cons_zero, List.set_cons_succ, List.length_cons, List.length_nil, Nat.reduceAdd, Nat.reduceLT, Nat.reduceEqDiff, Nat.lt_add_one, decide_true, decide_false, Bool.and_true, Bool.true_and, Bool.and_false, Bool.false_and, Bool.false_eq_true, if_true, if_false, ↓reduceIte, Option.bind_some, Option.bind_none, kont_v, kont_n, BSH_31, h31, BSH_34, BSH_36, BSHp_34, BSHp_36, l, pk, pk2, rk, ck, rk1, ck1, g3, c']
      · by_cases z : j = k + 1
        · refine ⟨g, g1, ?_, ?_⟩
          · show ins (aht tl) e k (upd r (k + 1) (r k)) j = nI g
            rw [z, ins_hi k _ (k + 1) (by omega), upd_eq, g2]
          · rw [z, e3 (k + 1) (by omega), updL_eq, g3]
        · exact e2 j (by omega)
    · have c' := eq_false c
      rw [if_neg c, if_pos rfl]
      refine ⟨vp_updL V (k + 1) (tl e), .int (nI (k + 1)), ?_, fun j hj => ?_, fun j hj => updL_ne (by omega)⟩
      · rw [s71_27]
        simp only [s71_0, s71_1, s71_3, s71_4, s71_7, s71_10, s71_11, s71_14, s71_15, s71_16, s71_17, s71_18, s71_21, s71_22, s71_23, s71_24, s71_25, s71_29, s71_32, s71_33, s71_36, s71_38, s71_39, s71_40, s71_41, s71_42, s71_43, s71_46, s71_47, s71_50, s71_52, s71_53, s71_56, s71_58, s71_59, s71_60, s71_61, s71_62, s71_63, s71_66, s71_68, s71_69, s71_72, s71_74, s71_75, s71_76, s71_77, s71_78, s71_81, s71_84, s71_85, s71_88, s71_90, s71_91, s71_92, s71_93, s71_96, s71_98, s71_99, s71_100, s71_103, s71_106, okF, okA, mcC_o, mcF_o, mcT_i, mcT_l, mcT_z, mcT_q, mcN_i, mcN_l, mcN_z, mcN_q, mcI_i, mcI_z, mcL_l, mcQ_q, hg_hp, hp_hp, List.getD_cons_zero, List.getD_cons_succ, List.set_cons_zero, List.set_cons_succ, List.length_cons, List.length_nil, Nat.reduceAdd, Nat.reduceLT, Nat.reduceEqDiff, Nat.lt_add_one, decide_true, decide_false, Bool.and_true, Bool.true_and, Bool.and_false, Bool.false_and, Bool.false_eq_true, if_true, if_false, ↓reduceIte, Option.bind_some, Option.bind_none, kont_v, kont_n, BSH_31, h31, BSH_34, BSH_36, BSHp_34, BSHp_36, l, pk, rk, ck, rk1, ck1, g3, c', p1]
      · by_cases z : j = k + 1
        · exact ⟨e, he, by rw [z, upd_eq], by rw [z, updL_eq]⟩
        · rw [upd_ne z, updL_ne z]
          exact hr j (by omega)
theorem c_so_lp (h31 : hg B 31 = oB 6 [.ref 1, .ref 22, .ref 23, .ref 32, .ref 34, .ref 35, .ref 36, .int (nI n)]) (hn : n ≤ 7) : ∀ (d k : Nat) (r : Nat → Int32) (V : Nat → Int64) (a2 a3 a4 a5 : Value), k + d = n → (∀ j, j < n → ∃ g, g < 16 ∧ r j = nI g ∧ V j = tl g) → ∃ V', ev X 71 2 [.ref 31, .int (nI k), a2, a3, a4, a5] [] (BSH B r V) = some (none, (BSH B (srt (aht tl) d k r) V')) := by
  intro d
  induction d with
  | zero =>
    intro k r V a2 a3 a4 a5 e hr
    have e : k = n := by omega
    have l := nI_nlt (Nat.le_refl n) (by omega)
    refine ⟨V, ?_⟩
    rw [e, s71_2, srt]
    simp only [s71_0, s71_1, s71_3, s71_4, s71_7, s71_10, s71_11, s71_14, s71_15, s71_16, s71_17, s71_18, s71_21, s71_22, s71_23, s71_24, s71_25, s71_29, s71_32, s71_33, s71_36, s71_38, s71_39, s71_40, s71_41, s71_42, s71_43, s71_46, s71_47, s71_50, s71_52, s71_53, s71_56, s71_58, s71_59, s71_60, s71_61, s71_62, s71_63, s71_66, s71_68, s71_69, s71_72, s71_74, s71_75, s71_76, s71_77, s71_78, s71_81, s71_84, s71_85, s71_88, s71_90, s71_91, s71_92, s71_93, s71_96, s71_98, s71_99, s71_100, s71_103, s71_106, okF, okA, mcC_o, mcF_o, mcT_i, mcT_l, mcT_z, mcT_q, mcN_i, mcN_l, mcN_z, mcN_q, mcI_i, mcI_z, mcL_l, mcQ_q, hg_hp, hp_hp, List.getD_cons_zero, List.getD_cons_succ, List.set_cons_zero, List.set_cons_succ, List.length_cons, List.length_nil, Nat.reduceAdd, Nat.reduceLT, Nat.reduceEqDiff, Nat.lt_add_one, decide_true, decide_false, Bool.and_true, Bool.true_and, Bool.and_false, Bool.false_and, Bool.false_eq_true, if_true, if_false, ↓reduceIte, Option.bind_some, Option.bind_none, kont_v, kont_n, BSH_31, h31, l]
  | succ d ih =>
    intro k r V a2 a3 a4 a5 e hr
    have l := nI_lt (show k < n by omega) (by omega)
    have rk : inR (nI k) 7 = true := inR_n (by omega) (by decide)
    have ck : (nI k).toNatClampNeg = k := nI_clamp (by omega)
    obtain ⟨g, g1, g2, g3⟩ := hr k (by omega)
    obtain ⟨V1, a5', e1, e2, e3⟩ := c_so_in (X := X) (B := B) (tl := tl) h31 g1 (show k < 7 by omega) k r V (Nat.le_refl k) (fun j hj => hr j (by omega))
    obtain ⟨V2, e4⟩ := ih (k + 1) _ V1 (.int (nI g)) (.long (tl g)) (.float 0) a5' (by omega) (fun j hj => by
      by_cases z : j ≤ k
      · exact e2 j z
      · rw [e3 j (by omega), ins_hi k r j (by omega)]
        exact hr j hj)
    have fg : fnn (r k) = g := by rw [g2]; exact nI_clamp (by omega)
    refine ⟨V2, ?_⟩
    rw [srt, fg, ← e4, ← e1, s71_2]
    simp only [s71_0, s71_1, s71_3, s71_4, s71_7, s71_10, s71_11, s71_14, s71_15, s71_16, s71_17, s71_18, s71_21, s71_22, s71_23, s71_24, s71_25, s71_29, s71_32, s71_33, s71_36, s71_38, s71_39, s71_40, s71_41, s71_42, s71_43, s71_46, s71_47, s71_50, s71_52, s71_53, s71_56, s71_58, s71_59, s71_60, s71_61, s71_62, s71_63, s71_66, s71_68, s71_69, s71_72, s71_74, s71_75, s71_76, s71_77, s71_78, s71_81, s71_84, s71_85, s71_88, s71_90, s71_91, s71_92, s71_93, s71_96, s71_98, s71_99, s71_100, s71_103, s71_106, okF, okA, mcC_o, mcF_o, mcT_i, mcT_l, mcT_z, mcT_q, mcN_i, mcN_l, mcN_z, mcN_q, mcI_i, mcI_z, mcL_l, mcQ_q, hg_hp, hp_hp, List.getD_cons_zero, List.getD_cons_succ, List.set_cons_zero, List.set_cons_succ, List.length_cons, List.length_nil, Nat.reduceAdd, Nat.reduceLT, Nat.reduceEqDiff, Nat.lt_add_one, decide_true, decide_false, Bool.and_true, Bool.true_and, Bool.and_false, Bool.false_and, Bool.false_eq_true, if_true, if_false, ↓reduceIte, Option.bind_some, Option.bind_none, kont_v, kont_n, BSH_31, h31, BSH_34, BSH_36, l, rk, ck, g2, g3]
theorem m_so_in {io wl pl sp wa se bc sv bq : Int32} (h0 : hg H 55 = oB 12 (MO io wl pl sp wa se bc sv bq)) {TD : Nat → Int64} (h76 : hg H 76 = lA 16 TD) {e nx : Nat} (he : e < 16) (te : TD e = tl e) (hx : nx < 7) {a1 a2 a3 : Value} : ∀ (k : Nat) (r : Nat → Int32), k ≤ nx → (∀ j, j < k → ∃ g, g < 16 ∧ r j = nI g ∧ TD g = tl g) → ∃ a6 : Value, ev X 204 106 [.ref 55, a1, a2, a3, .int (nI nx), .int (nI e), .int (nI k)] [] (hp H 70 (iA 16 r)) = ev X 204 84 [.ref 55, a1, a2, a3, .int (nI (nx + 1)), .int (nI e), a6] [] (hp H 70 (iA 16 (ins (aht tl) e k r))) := by
  intro k
  induction k with
  | zero =>
    intro r hk hr
    have l : ¬ (0 : Int32) < nI 0 := by decide
    have r0 : inR (nI 0) 16 = true := by decide
    have c0 : (nI 0).toNatClampNeg = 0 := by decide
    have p1 : nI nx + 1 = nI (nx + 1) := nI_add nx 1
    refine ⟨.int (nI 0), ?_⟩
    show _ = ev X 204 84 _ [] (hp H 70 (iA 16 (upd r 0 (nI e))))
    rw [s204_106]
    simp only [s204_0, s204_1, s204_4, s204_7, s204_8, s204_9, s204_10, s204_13, s204_16, s204_17, s204_20, s204_22, s204_23, s204_24, s204_25, s204_28, s204_29, s204_32, s204_34, s204_35, s204_36, s204_37, s204_40, s204_41, s204_45, s204_46, s204_49, s204_52, s204_53, s204_56, s204_57, s204_60, s204_62, s204_63, s204_64, s204_65, s204_68, s204_70, s204_71, s204_74, s204_75, s204_78, s204_81, s204_82, s204_86, s204_87, s204_90, s204_93, s204_94, s204_97, s204_99, s204_100, s204_102, s204_104, s204_108, s204_111, s204_112, s204_115, s204_116, s204_119, s204_121, s204_122, s204_123, s204_124, s204_125, s204_126, s204_129, s204_131, s204_132, s204_133, s204_136, s204_137, s204_140, s204_142, s204_143, s204_146, s204_148, s204_149, s204_150, s204_151, s204_152, s204_155, s204_158, s204_159, s204_162, s204_164, s204_166, s204_167, s204_170, s204_173, s204_174, s204_175, s204_178, s204_181, s204_182, s204_185, s204_186, s204_187, s204_190, s204_191, okF, okA, mcC_o, mcF_o, mcT_i, mcT_l, mcT_z, mcT_q, mcN_i, mcN_l, mcN_z, mcN_q, mcI_i, mcI_z, mcL_l, mcQ_q, hg_hp, hp_hp, List.getD_cons_zero, List.getD_cons_succ, List.set_cons_zero, List.set_cons_succ, List.length_cons, List.length_nil, Nat.reduceAdd, Nat.reduceLT, Nat.reduceEqDiff, Nat.lt_add_one, decide_true, decide_false, Bool.and_true, Bool.true_and, Bool.and_false, Bool.false_and, Bool.false_eq_true, if_true, if_false, ↓reduceIte, Option.bind_some, Option.bind_none, kont_v, kont_n, h0, MO_len, MO_17, MO_18, MO_25, l, r0, c0, p1]
  | succ k ih =>
    intro r hk hr
    have l : (0 : Int32) < nI (k + 1) := nI_lt (a := 0) (by omega) (by omega)
    have pk : nI (k + 1) - 1 = nI k := nI_pred k
    have pk2 : nI (k + 1) + -1 = nI k := by rw [← Int32.sub_eq_add_neg]; exact nI_pred k
    have rk : inR (nI k) 16 = true := inR_n (by omega) (by decide)
    have ck : (nI k).toNatClampNeg = k := nI_clamp (by omega)
    have rk1 : inR (nI (k + 1)) 16 = true := inR_n (by omega) (by decide)
    have ck1 : (nI (k + 1)).toNatClampNeg = k + 1 := nI_clamp (by omega)
    have re : inR (nI e) 16 = true := inR_n he (by decide)
    have ce : (nI e).toNatClampNeg = e := nI_clamp (by omega)
    have p1 : nI nx + 1 = nI (nx + 1) := nI_add nx 1
    obtain ⟨g, g1, g2, g3⟩ := hr k (by omega)
    have rg : inR (nI g) 16 = true := inR_n g1 (by decide)
    have cg : (nI g).toNatClampNeg = g := nI_clamp (by omega)
    have fg : fnn (r k) = g := by rw [g2]; exact nI_clamp (by omega)
    rw [ins, fg]
    unfold aht
    by_cases c : lg_cmp (tl g) (tl e) < 0
    · have c' := eq_true c
      rw [if_pos c, if_neg (by decide)]
      obtain ⟨a6, e1⟩ := ih (upd r (k + 1) (r k)) (by omega) (fun j hj => by
        obtain ⟨g', q1, q2, q3⟩ := hr j (by omega)
        exact ⟨g', q1, by rw [upd_ne (by omega)]; exact q2, q3⟩)
      refine ⟨a6, ?_⟩
      show _ = ev X 204 84 _ [] (hp H 70 (iA 16 (ins (aht tl) e k (upd r (k + 1) (r k)))))
      rw [← e1, g2, s204_106]
      simp only [s204_0, s204_1, s204_4, s204_7, s204_8, s204_9, s204_10, s204_13, s204_16, s204_17, s204_20, s204_22, s204_23, s204_24, s204_25, s204_28, s204_29, s204_32, s204_34, s204_35, s204_36, s204_37, s204_40, s204_41, s204_45, s204_46, s204_49, s204_52, s204_53, s204_56, s204_57, s204_60, s204_62, s204_63, s204_64, s204_65, s204_68, s204_70, s204_71, s204_74, s204_75, s204_78, s204_81, s204_82, s204_86, s204_87, s204_90, s204_93, s204_94, s204_97, s204_99, s204_100, s204_102, s204_104, s204_108, s204_111, s204_112, s204_115, s204_116, s204_119, s204_121, s204_122, s204_123, s204_124, s204_125, s204_126, s204_129, s204_131, s204_132, s204_133, s204_136, s204_137, s204_140, s204_142, s204_143, s204_146, s204_148, s204_149, s204_150, s204_151, s204_152, s204_155, s204_158, s204_159, s204_162, s204_164, s204_166, s204_167, s204_170, s204_173, s204_174, s204_175, s204_178, s204_181, s204_182, s204_185, s204_186, s204_187, s204_190, s204_191, okF, okA, mcC_o, mcF_o, mcT_i, mcT_l, mcT_z, mcT_q, mcN_i, mcN_l, mcN_z, mcN_q, mcI_i, mcI_z, mcL_l, mcQ_q, hg_hp, hp_hp, List.getD_cons_zero, List.getD_cons_succ, List.set_cons_zero, List.set_cons_succ, List.length_cons, List.length_nil, Nat.reduceAdd, Nat.reduceLT, Nat.reduceEqDiff, Nat.lt_add_one, decide_true, decide_false, Bool.and_true, Bool.true_and, Bool.and_false, Bool.false_and, Bool.false_eq_true, if_true, if_false, ↓reduceIte, Option.bind_some, Option.bind_none, kont_v, kont_n, h0, h76, MO_len, MO_17, MO_18, MO_25, l, pk, pk2, rk, ck, rk1, ck1, re, ce, rg, cg, g2, g3, te, c']
    · have c' := eq_false c
      rw [if_neg c, if_pos rfl]
      refine ⟨.int (nI (k + 1)), ?_⟩
      rw [s204_106]
      simp only [s204_0, s204_1, s204_4, s204_7, s204_8, s204_9, s204_10, s204_13, s204_16, s204_17, s204_20, s204_22, s204_23, s204_24, s204_25, s204_28, s204_29, s204_32, s204_34, s204_35, s204_36, s204_37, s204_40, s204_41, s204_45, s204_46, s204_49, s204_52, s204_53, s204_56, s204_57, s204_60, s204_62, s204_63, s204_64, s204_65, s204_68, s204_70, s204_71, s204_74, s204_75, s204_78, s204_81, s204_82, s204_86, s204_87, s204_90, s204_93, s204_94, s204_97, s204_99, s204_100, s204_102, s204_104, s204_108, s204_111, s204_112, s204_115, s204_116, s204_119, s204_121, s204_122, s204_123, s204_124, s204_125, s204_126, s204_129, s204_131, s204_132, s204_133, s204_136, s204_137, s204_140, s204_142, s204_143, s204_146, s204_148, s204_149, s204_150, s204_151, s204_152, s204_155, s204_158, s204_159, s204_162, s204_164, s204_166, s204_167, s204_170, s204_173, s204_174, s204_175, s204_178, s204_181, s204_182, s204_185, s204_186, s204_187, s204_190, s204_191, okF, okA, mcC_o, mcF_o, mcT_i, mcT_l, mcT_z, mcT_q, mcN_i, mcN_l, mcN_z, mcN_q, mcI_i, mcI_z, mcL_l, mcQ_q, hg_hp, hp_hp, List.getD_cons_zero, List.getD_cons_succ, List.set_cons_zero, List.set_cons_succ, List.length_cons, List.length_nil, Nat.reduceAdd, Nat.reduceLT, Nat.reduceEqDiff, Nat.lt_add_one, decide_true, decide_false, Bool.and_true, Bool.true_and, Bool.and_false, Bool.false_and, Bool.false_eq_true, if_true, if_false, ↓reduceIte, Option.bind_some, Option.bind_none, kont_v, kont_n, h0, h76, MO_len, MO_17, MO_18, MO_25, l, pk, rk, ck, rk1, ck1, re, ce, rg, cg, g2, g3, te, c', p1]
theorem m_so_lp {io wl sp wa se bc sv bq : Int32} (h0 : hg H 55 = oB 12 (MO io wl (nI n) sp wa se bc sv bq)) {TD : Nat → Int64} (h76 : hg H 76 = lA 16 TD) (hn : n ≤ 7) {a1 a2 a3 : Value} : ∀ (d k : Nat) (r : Nat → Int32) (a5 a6 : Value), k + d = n → (∀ j, j < n → ∃ g, g < 16 ∧ r j = nI g ∧ TD g = tl g) → ∃ b5 b6 : Value, ev X 204 84 [.ref 55, a1, a2, a3, .int (nI k), a5, a6] [] (hp H 70 (iA 16 r)) = ev X 204 173 [.ref 55, a1, a2, a3, .int (nI n), b5, b6] [] (hp H 70 (iA 16 (srt (aht tl) d k r))) := by
  intro d
  induction d with
  | zero =>
    intro k r a5 a6 e hr
    have e : k = n := by omega
    have l := nI_nlt (Nat.le_refl n) (by omega)
    refine ⟨a5, a6, ?_⟩
    rw [e, s204_84, srt]
    simp only [s204_0, s204_1, s204_4, s204_7, s204_8, s204_9, s204_10, s204_13, s204_16, s204_17, s204_20, s204_22, s204_23, s204_24, s204_25, s204_28, s204_29, s204_32, s204_34, s204_35, s204_36, s204_37, s204_40, s204_41, s204_45, s204_46, s204_49, s204_52, s204_53, s204_56, s204_57, s204_60, s204_62, s204_63, s204_64, s204_65, s204_68, s204_70, s204_71, s204_74, s204_75, s204_78, s204_81, s204_82, s204_86, s204_87, s204_90, s204_93, s204_94, s204_97, s204_99, s204_100, s204_102, s204_104, s204_108, s204_111, s204_112, s204_115, s204_116, s204_119, s204_121, s204_122, s204_123, s204_124, s204_125, s204_126, s204_129, s204_131, s204_132, s204_133, s204_136, s204_137, s204_140, s204_142, s204_143, s204_146, s204_148, s204_149, s204_150, s204_151, s204_152, s204_155, s204_158, s204_159, s204_162, s204_164, s204_166, s204_167, s204_170, s204_174, s204_175, s204_178, s204_181, s204_182, s204_185, s204_186, s204_187, s204_190, s204_191, okF, okA, mcC_o, mcF_o, mcT_i, mcT_l, mcT_z, mcT_q, mcN_i, mcN_l, mcN_z, mcN_q, mcI_i, mcI_z, mcL_l, mcQ_q, hg_hp, hp_hp, List.getD_cons_zero, List.getD_cons_succ, List.set_cons_zero, List.set_cons_succ, List.length_cons, List.length_nil, Nat.reduceAdd, Nat.reduceLT, Nat.reduceEqDiff, Nat.lt_add_one, decide_true, decide_false, Bool.and_true, Bool.true_and, Bool.and_false, Bool.false_and, Bool.false_eq_true, if_true, if_false, ↓reduceIte, Option.bind_some, Option.bind_none, kont_v, kont_n, h0, MO_len, MO_16, l]
  | succ d ih =>
    intro k r a5 a6 e hr
    have l := nI_lt (show k < n by omega) (by omega)
    have rk : inR (nI k) 16 = true := inR_n (by omega) (by decide)
    have ck : (nI k).toNatClampNeg = k := nI_clamp (by omega)
    obtain ⟨g, g1, g2, g3⟩ := hr k (by omega)
    obtain ⟨b6, e1⟩ := m_so_in (X := X) (H := H) (tl := tl) (a1 := a1) (a2 := a2) (a3 := a3) h0 h76 g1 g3 (show k < 7 by omega) k r (Nat.le_refl k) (fun j hj => hr j (by omega))
    obtain ⟨b5, b6', e4⟩ := ih (k + 1) (ins (aht tl) g k r) (.int (nI g)) b6 (by omega) (fun j hj => by
      by_cases z : j ≤ k
      · rcases ins_val (ah := aht tl) (e := g) k r j z with y | ⟨i, i1, i2⟩
        · exact ⟨g, g1, y, g3⟩
        · rw [i2]; exact hr i (by omega)
      · rw [ins_hi k r j (by omega)]
        exact hr j hj)
    have fg : fnn (r k) = g := by rw [g2]; exact nI_clamp (by omega)
    refine ⟨b5, b6', ?_⟩
    rw [srt, fg, ← e4, ← e1, s204_84]
    simp only [s204_0, s204_1, s204_4, s204_7, s204_8, s204_9, s204_10, s204_13, s204_16, s204_17, s204_20, s204_22, s204_23, s204_24, s204_25, s204_28, s204_29, s204_32, s204_34, s204_35, s204_36, s204_37, s204_40, s204_41, s204_45, s204_46, s204_49, s204_52, s204_53, s204_56, s204_57, s204_60, s204_62, s204_63, s204_64, s204_65, s204_68, s204_70, s204_71, s204_74, s204_75, s204_78, s204_81, s204_82, s204_86, s204_87, s204_90, s204_93, s204_94, s204_97, s204_99, s204_100, s204_102, s204_104, s204_108, s204_111, s204_112, s204_115, s204_116, s204_119, s204_121, s204_122, s204_123, s204_124, s204_125, s204_126, s204_129, s204_131, s204_132, s204_133, s204_136, s204_137, s204_140, s204_142, s204_143, s204_146, s204_148, s204_149, s204_150, s204_151, s204_152, s204_155, s204_158, s204_159, s204_162, s204_164, s204_166, s204_167, s204_170, s204_174, s204_175, s204_178, s204_181, s204_182, s204_185, s204_186, s204_187, s204_190, s204_191, okF, okA, mcC_o, mcF_o, mcT_i, mcT_l, mcT_z, mcT_q, mcN_i, mcN_l, mcN_z, mcN_q, mcI_i, mcI_z, mcL_l, mcQ_q, hg_hp, hp_hp, List.getD_cons_zero, List.getD_cons_succ, List.set_cons_zero, List.set_cons_succ, List.length_cons, List.length_nil, Nat.reduceAdd, Nat.reduceLT, Nat.reduceEqDiff, Nat.lt_add_one, decide_true, decide_false, Bool.and_true, Bool.true_and, Bool.and_false, Bool.false_and, Bool.false_eq_true, if_true, if_false, ↓reduceIte, Option.bind_some, Option.bind_none, kont_v, kont_n, h0, MO_len, MO_16, MO_17, l, rk, ck, g2]
end BSD

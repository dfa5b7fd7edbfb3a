-- THE HEAPS of the class and of the reference
/-- what a league holds: rows of each table, its numbers, k -/
abbrev LD : Type := (Nat → Nat) × (Nat → Nat → Int32) × Int32
def tcap (i : Nat) : Nat := ([20, 16, 120, 6, 4, 8, 60, 60, 9] : List Nat).getD i 0
def twid (i : Nat) : Nat := ([3, 3, 17, 1, 51, 3, 4, 4, 2] : List Nat).getD i 0
theorem tcw : ∀ i, i < 9 → tcap i < 2 ^ 31 ∧ twid i < 2 ^ 31 ∧ tcap i * twid i < 2 ^ 31 := by decide
/-- a league at cell b, its tables behind it -/
def LG (h : MH) (b : Nat) (D : LD) : Prop := hg h b = oB 4 [.ref (b + 1), .ref (b + 3), .ref (b + 5), .ref (b + 7), .ref (b + 9), .ref (b + 11), .ref (b + 13), .ref (b + 15), .ref (b + 17), .int D.2.2] ∧ ∀ i, i < 9 → TAB h (b + 1 + 2 * i) (b + 2 + 2 * i) (tcap i) (twid i) (D.1 i) (D.2.1 i) ∧ D.1 i ≤ tcap i
def fu {α : Type} (f : Nat → α) (i : Nat) (v : α) : Nat → α := fun j => if j = i then v else f j
theorem fu_s {α : Type} (f : Nat → α) (i : Nat) (v : α) : fu f i v i = v := if_pos rfl
theorem fu_n {α : Type} (f : Nat → α) {i j : Nat} (v : α) (h : j ≠ i) : fu f i v j = f j := if_neg h
theorem LG.same {h h' : MH} {b : Nat} {D : LD} (L : LG h b D) (hs : ∀ k, b ≤ k → k < b + 19 → hg h' k = hg h k) : LG h' b D := by
  refine ⟨by rw [hs b (by omega) (by omega)]; exact L.1, fun i hi => ⟨?_, (L.2 i hi).2⟩⟩
  obtain ⟨⟨h1, h2, h3⟩, -⟩ := L.2 i hi
  exact ⟨by rw [hs _ (by omega) (by omega)]; exact h1, by rw [hs _ (by omega) (by omega)]; exact h2, h3⟩
theorem LG.tab {h : MH} {b : Nat} {D : LD} (L : LG h b D) (i : Nat) (hi : i < 9) : TAB h (b + 1 + 2 * i) (b + 2 + 2 * i) (tcap i) (twid i) (D.1 i) (D.2.1 i) := (L.2 i hi).1
/-- new numbers in table i -/
theorem LG.put {h : MH} {b : Nat} {D : LD} (L : LG h b D) {i : Nat} (hi : i < 9) (g : Nat → Int32) : LG (hp h (b + 2 + 2 * i) (iA (tcap i * twid i) g)) b (D.1, fu D.2.1 i g, D.2.2) := by
  refine ⟨by rw [hg_hp, if_neg (by omega)]; exact L.1, fun j hj => ⟨?_, (L.2 j hj).2⟩⟩
  by_cases e : j = i
  · subst e
    show TAB _ _ _ _ _ _ (fu D.2.1 j g j)
    rw [fu_s]
    exact (L.tab j hj).put g
  · show TAB _ _ _ _ _ _ (fu D.2.1 i g j)
    rw [fu_n _ _ e]
    exact (L.tab j hj).off (by omega) (by omega)
/-- another number of rows in table i -/
theorem LG.rows {h : MH} {b : Nat} {D : LD} (L : LG h b D) {i : Nat} (hi : i < 9) {R : Nat} (hR : R ≤ tcap i) : LG (hp h (b + 1 + 2 * i) (oB 10 [.int (nI (tcap i)), .int (nI (twid i)), .ref (b + 2 + 2 * i), .int (nI R)])) b (fu D.1 i R, D.2.1, D.2.2) := by
  refine ⟨by rw [hg_hp, if_neg (by omega)]; exact L.1, fun j hj => ?_⟩
  by_cases e : j = i
  · subst e
    show TAB _ _ _ _ _ (fu D.1 j R j) _ ∧ fu D.1 j R j ≤ _
    rw [fu_s]
    exact ⟨(L.tab j hj).rows R, hR⟩
  · show TAB _ _ _ _ _ (fu D.1 i R j) _ ∧ fu D.1 i R j ≤ _
    rw [fu_n _ _ e]
    exact ⟨(L.tab j hj).off (by omega) (by omega), (L.2 j hj).2⟩
theorem LG.kk {h : MH} {b : Nat} {D : LD} (L : LG h b D) (k : Int32) : LG (hp h b (oB 4 [.ref (b + 1), .ref (b + 3), .ref (b + 5), .ref (b + 7), .ref (b + 9), .ref (b + 11), .ref (b + 13), .ref (b + 15), .ref (b + 17), .int k])) b (D.1, D.2.1, k) := by
  refine ⟨by rw [hg_hp, if_pos rfl], fun j hj => ⟨(L.tab j hj).off (by omega) (by omega), (L.2 j hj).2⟩⟩
theorem TAB.same {h h' : MH} {t c C W R : Nat} {f : Nat → Int32} (T : TAB h t c C W R f) (h1 : hg h' t = hg h t) (h2 : hg h' c = hg h c) : TAB h' t c C W R f := ⟨by rw [h1]; exact T.1, by rw [h2]; exact T.2.1, T.2.2⟩
/-- the reference's object: its fields that change -/
def MO (io wi pl sp wa se bc sv bh : Int32) : List Value := [.ref 56, .ref 57, .ref 58, .ref 59, .ref 60, .ref 61, .ref 62, .ref 63, .int io, .int wi, .ref 64, .ref 65, .ref 66, .ref 67, .ref 68, .ref 69, .int pl, .ref 70, .ref 71, .int sp, .ref 72, .ref 73, .int wa, .ref 74, .ref 75, .ref 76, .int se, .ref 77, .ref 78, .ref 79, .ref 80, .int bc, .int sv, .ref 81, .ref 82, .ref 83, .int bh, .ref 84, .ref 85, .ref 86, .ref 87]
section MOS
variable {io wi pl sp wa se bc sv bh x : Int32}
theorem MO_len : (MO io wi pl sp wa se bc sv bh).length = 41 := rfl
theorem MO_0 : (MO io wi pl sp wa se bc sv bh).getD 0 .null = .ref 56 := rfl
theorem MO_1 : (MO io wi pl sp wa se bc sv bh).getD 1 .null = .ref 57 := rfl
theorem MO_2 : (MO io wi pl sp wa se bc sv bh).getD 2 .null = .ref 58 := rfl
theorem MO_3 : (MO io wi pl sp wa se bc sv bh).getD 3 .null = .ref 59 := rfl
theorem MO_4 : (MO io wi pl sp wa se bc sv bh).getD 4 .null = .ref 60 := rfl
theorem MO_5 : (MO io wi pl sp wa se bc sv bh).getD 5 .null = .ref 61 := rfl
theorem MO_6 : (MO io wi pl sp wa se bc sv bh).getD 6 .null = .ref 62 := rfl
theorem MO_7 : (MO io wi pl sp wa se bc sv bh).getD 7 .null = .ref 63 := rfl
theorem MO_8 : (MO io wi pl sp wa se bc sv bh).getD 8 .null = .int io := rfl
theorem MO_9 : (MO io wi pl sp wa se bc sv bh).getD 9 .null = .int wi := rfl
theorem MO_10 : (MO io wi pl sp wa se bc sv bh).getD 10 .null = .ref 64 := rfl
theorem MO_11 : (MO io wi pl sp wa se bc sv bh).getD 11 .null = .ref 65 := rfl
theorem MO_12 : (MO io wi pl sp wa se bc sv bh).getD 12 .null = .ref 66 := rfl
theorem MO_13 : (MO io wi pl sp wa se bc sv bh).getD 13 .null = .ref 67 := rfl
theorem MO_14 : (MO io wi pl sp wa se bc sv bh).getD 14 .null = .ref 68 := rfl
theorem MO_15 : (MO io wi pl sp wa se bc sv bh).getD 15 .null = .ref 69 := rfl
theorem MO_16 : (MO io wi pl sp wa se bc sv bh).getD 16 .null = .int pl := rfl
theorem MO_17 : (MO io wi pl sp wa se bc sv bh).getD 17 .null = .ref 70 := rfl
theorem MO_18 : (MO io wi pl sp wa se bc sv bh).getD 18 .null = .ref 71 := rfl
theorem MO_19 : (MO io wi pl sp wa se bc sv bh).getD 19 .null = .int sp := rfl
theorem MO_20 : (MO io wi pl sp wa se bc sv bh).getD 20 .null = .ref 72 := rfl
theorem MO_21 : (MO io wi pl sp wa se bc sv bh).getD 21 .null = .ref 73 := rfl
theorem MO_22 : (MO io wi pl sp wa se bc sv bh).getD 22 .null = .int wa := rfl
theorem MO_23 : (MO io wi pl sp wa se bc sv bh).getD 23 .null = .ref 74 := rfl
theorem MO_24 : (MO io wi pl sp wa se bc sv bh).getD 24 .null = .ref 75 := rfl
theorem MO_25 : (MO io wi pl sp wa se bc sv bh).getD 25 .null = .ref 76 := rfl
theorem MO_26 : (MO io wi pl sp wa se bc sv bh).getD 26 .null = .int se := rfl
theorem MO_27 : (MO io wi pl sp wa se bc sv bh).getD 27 .null = .ref 77 := rfl
theorem MO_28 : (MO io wi pl sp wa se bc sv bh).getD 28 .null = .ref 78 := rfl
theorem MO_29 : (MO io wi pl sp wa se bc sv bh).getD 29 .null = .ref 79 := rfl
theorem MO_30 : (MO io wi pl sp wa se bc sv bh).getD 30 .null = .ref 80 := rfl
theorem MO_31 : (MO io wi pl sp wa se bc sv bh).getD 31 .null = .int bc := rfl
theorem MO_32 : (MO io wi pl sp wa se bc sv bh).getD 32 .null = .int sv := rfl
theorem MO_33 : (MO io wi pl sp wa se bc sv bh).getD 33 .null = .ref 81 := rfl
theorem MO_34 : (MO io wi pl sp wa se bc sv bh).getD 34 .null = .ref 82 := rfl
theorem MO_35 : (MO io wi pl sp wa se bc sv bh).getD 35 .null = .ref 83 := rfl
theorem MO_36 : (MO io wi pl sp wa se bc sv bh).getD 36 .null = .int bh := rfl
theorem MO_37 : (MO io wi pl sp wa se bc sv bh).getD 37 .null = .ref 84 := rfl
theorem MO_38 : (MO io wi pl sp wa se bc sv bh).getD 38 .null = .ref 85 := rfl
theorem MO_39 : (MO io wi pl sp wa se bc sv bh).getD 39 .null = .ref 86 := rfl
theorem MO_40 : (MO io wi pl sp wa se bc sv bh).getD 40 .null = .ref 87 := rfl
theorem MOs_8 : (MO io wi pl sp wa se bc sv bh).set 8 (.int x) = MO x wi pl sp wa se bc sv bh := rfl
theorem MOs_9 : (MO io wi pl sp wa se bc sv bh).set 9 (.int x) = MO io x pl sp wa se bc sv bh := rfl
theorem MOs_16 : (MO io wi pl sp wa se bc sv bh).set 16 (.int x) = MO io wi x sp wa se bc sv bh := rfl
theorem MOs_19 : (MO io wi pl sp wa se bc sv bh).set 19 (.int x) = MO io wi pl x wa se bc sv bh := rfl
theorem MOs_22 : (MO io wi pl sp wa se bc sv bh).set 22 (.int x) = MO io wi pl sp x se bc sv bh := rfl
theorem MOs_26 : (MO io wi pl sp wa se bc sv bh).set 26 (.int x) = MO io wi pl sp wa x bc sv bh := rfl
theorem MOs_31 : (MO io wi pl sp wa se bc sv bh).set 31 (.int x) = MO io wi pl sp wa se x sv bh := rfl
theorem MOs_32 : (MO io wi pl sp wa se bc sv bh).set 32 (.int x) = MO io wi pl sp wa se bc x bh := rfl
theorem MOs_36 : (MO io wi pl sp wa se bc sv bh).set 36 (.int x) = MO io wi pl sp wa se bc sv x := rfl
end MOS
abbrev PS : Type := Int32 × Int32 × Int32 × Int32 × Int32 × Int32
/-- the fields: holder, attacker, attackedAt, shutAt, firstParry, secondParry -/
def PHO (rw : Int32) (s : PS) : List Value := [.ref 2, .int rw, .int s.1, .int s.2.1, .int s.2.2.1, .int s.2.2.2.1, .int s.2.2.2.2.1, .int s.2.2.2.2.2]
def FOO (a b e w : Int32) (v : Int64) : List Value := [.ref 10, .ref 24, .ref 25, .ref 26, .ref 27, .ref 28, .ref 29, .ref 30, .int a, .int b, .int e, .int w, .long v]
/-- the shape of each cell that is not a league's or the reference's lasting data -/
def FL : List (MC → Prop) := [fun c => c = oB 11 [.ref 1, .ref 20, .ref 21, .ref 22, .ref 31, .ref 23, .ref 37, .ref 40, .ref 46, .ref 51, .ref 53], fun _ => True, fun _ => True, fun _ => True, fun _ => True, fun _ => True, fun _ => True, fun _ => True, fun _ => True, fun _ => True, fun _ => True, fun _ => True, fun _ => True, fun _ => True, fun _ => True, fun _ => True, fun _ => True, fun _ => True, fun _ => True, fun _ => True, fun _ => True, fun c => ∃ (rw : Int32) (s : PS), c = oB 5 (PHO rw s), fun c => c = oB 1 [.ref 6], fun c => ∃ (a b e w : Int32) (v : Int64), c = oB 2 (FOO a b e w v), fun c => ∃ f, c = iA 50 f, fun c => ∃ f, c = iA 7 f, fun c => ∃ f, c = lA 9 f, fun c => ∃ f, c = lA 9 f, fun c => ∃ f, c = zA 9 f, fun c => ∃ f, c = zA 9 f, fun c => ∃ f, c = iA 9 f, fun c => ∃ a : Int32, c = oB 6 [.ref 1, .ref 22, .ref 23, .ref 32, .ref 34, .ref 35, .ref 36, .int a], fun c => ∃ R, c = oB 10 [.int (nI 16), .int (nI 6), .ref 33, .int (nI R)], fun c => ∃ f, c = iA 96 f, fun c => ∃ f, c = iA 7 f, fun c => ∃ f, c = iA 7 f, fun c => ∃ f, c = lA 7 f, fun c => c = oB 3 [.ref 1, .ref 22, .ref 38, .ref 39], fun c => ∃ f, c = iA 16 f, fun c => ∃ f, c = iA 16 f, fun c => ∃ a b e : Int32, c = oB 0 [.ref 1, .ref 41, .ref 42, .ref 43, .ref 44, .int a, .int b, .int e], fun c => ∃ f, c = iA 12 f, fun c => ∃ f, c = iA 12 f, fun c => ∃ f, c = iA 12 f, fun c => ∃ R, c = oB 10 [.int (nI 12), .int (nI 12), .ref 45, .int (nI R)], fun c => ∃ f, c = iA 144 f, fun c => ∃ a : Int32, c = oB 8 [.ref 1, .ref 47, .ref 48, .ref 49, .ref 50, .int a], fun c => ∃ f, c = iA 8 f, fun c => ∃ f, c = iA 8 f, fun c => ∃ f, c = iA 8 f, fun c => ∃ f, c = iA 256 f, fun c => c = oB 9 [.ref 18, .ref 52], fun c => ∃ f, c = iA 18 f, fun c => c = oB 7 [.ref 1, .ref 54], fun c => ∃ f, c = iA 10 f, fun c => ∃ io wi pl sp wa se bc sv bh : Int32, c = oB 12 (MO io wi pl sp wa se bc sv bh), fun _ => True, fun _ => True, fun _ => True, fun c => ∃ f, c = iA 2 f, fun c => ∃ f, c = iA 2 f, fun c => ∃ f, c = iA 2 f, fun c => ∃ f, c = iA 2 f, fun c => ∃ f, c = iA 2 f, fun c => ∃ f, c = iA 16 f, fun c => ∃ f, c = iA 16 f, fun c => ∃ f, c = iA 16 f, fun c => ∃ f, c = iA 16 f, fun c => ∃ f, c = iA 16 f, fun c => ∃ f, c = iA 16 f, fun c => ∃ f, c = iA 16 f, fun c => ∃ f, c = iA 16 f, fun c => ∃ f, c = iA 60 f, fun c => ∃ f, c = iA 60 f, fun c => ∃ f, c = iA 60 f, fun c => ∃ f, c = lA 60 f, fun c => ∃ f, c = lA 16 f, fun c => ∃ f, c = iA 16 f, fun c => ∃ f, c = iA 16 f, fun c => ∃ f, c = iA 12 f, fun c => ∃ f, c = iA 12 f, fun c => ∃ f, c = iA 8 f, fun c => ∃ f, c = iA 8 f, fun c => ∃ f, c = iA 8 f, fun c => ∃ f, c = iA 9 f, fun c => ∃ f, c = iA 9 f, fun c => ∃ f, c = lA 62 f, fun c => ∃ f, c = iA 10 f]
def FC (k : Nat) (c : MC) : Prop := FL.getD k (fun _ => True) c
def FIX (h : MH) : Prop := ∀ k, FC k (hg h k)
theorem FIX.put {h : MH} (F : FIX h) {k : Nat} {c : MC} (hc : FC k c) : FIX (hp h k c) := by
  intro j
  rw [hg_hp]
  by_cases e : j = k
  · rw [if_pos e, e]; exact hc
  · rw [if_neg e]; exact F j
theorem FC_big {k : Nat} {c : MC} (hk : 88 ≤ k) : FC k c := by
  unfold FC
  have e : FL[k]? = none := List.getElem?_eq_none (by exact hk)
  rw [List.getD_eq_getElem?_getD, e]
  trivial
theorem FIX.same {h h' : MH} (F : FIX h) (hs : ∀ k, k < 88 → hg h' k = hg h k) : FIX h' := fun k => by
  by_cases e : k < 88
  · rw [hs k e]; exact F k
  · exact FC_big (by omega)
theorem FIX.c0 {h : MH} (F : FIX h) : hg h 0 = oB 11 [.ref 1, .ref 20, .ref 21, .ref 22, .ref 31, .ref 23, .ref 37, .ref 40, .ref 46, .ref 51, .ref 53] := F 0
theorem FIX.c21 {h : MH} (F : FIX h) : ∃ (rw : Int32) (s : PS), hg h 21 = oB 5 (PHO rw s) := F 21
theorem FIX.c22 {h : MH} (F : FIX h) : hg h 22 = oB 1 [.ref 6] := F 22
theorem FIX.c23 {h : MH} (F : FIX h) : ∃ (a b e w : Int32) (v : Int64), hg h 23 = oB 2 (FOO a b e w v) := F 23
theorem FIX.c24 {h : MH} (F : FIX h) : ∃ f, hg h 24 = iA 50 f := F 24
theorem FIX.c25 {h : MH} (F : FIX h) : ∃ f, hg h 25 = iA 7 f := F 25
theorem FIX.c26 {h : MH} (F : FIX h) : ∃ f, hg h 26 = lA 9 f := F 26
theorem FIX.c27 {h : MH} (F : FIX h) : ∃ f, hg h 27 = lA 9 f := F 27
theorem FIX.c28 {h : MH} (F : FIX h) : ∃ f, hg h 28 = zA 9 f := F 28
theorem FIX.c29 {h : MH} (F : FIX h) : ∃ f, hg h 29 = zA 9 f := F 29
theorem FIX.c30 {h : MH} (F : FIX h) : ∃ f, hg h 30 = iA 9 f := F 30
theorem FIX.c31 {h : MH} (F : FIX h) : ∃ a : Int32, hg h 31 = oB 6 [.ref 1, .ref 22, .ref 23, .ref 32, .ref 34, .ref 35, .ref 36, .int a] := F 31
theorem FIX.c32 {h : MH} (F : FIX h) : ∃ R, hg h 32 = oB 10 [.int (nI 16), .int (nI 6), .ref 33, .int (nI R)] := F 32
theorem FIX.c33 {h : MH} (F : FIX h) : ∃ f, hg h 33 = iA 96 f := F 33
theorem FIX.c34 {h : MH} (F : FIX h) : ∃ f, hg h 34 = iA 7 f := F 34
theorem FIX.c35 {h : MH} (F : FIX h) : ∃ f, hg h 35 = iA 7 f := F 35
theorem FIX.c36 {h : MH} (F : FIX h) : ∃ f, hg h 36 = lA 7 f := F 36
theorem FIX.c37 {h : MH} (F : FIX h) : hg h 37 = oB 3 [.ref 1, .ref 22, .ref 38, .ref 39] := F 37
theorem FIX.c38 {h : MH} (F : FIX h) : ∃ f, hg h 38 = iA 16 f := F 38
theorem FIX.c39 {h : MH} (F : FIX h) : ∃ f, hg h 39 = iA 16 f := F 39
theorem FIX.c40 {h : MH} (F : FIX h) : ∃ a b e : Int32, hg h 40 = oB 0 [.ref 1, .ref 41, .ref 42, .ref 43, .ref 44, .int a, .int b, .int e] := F 40
theorem FIX.c41 {h : MH} (F : FIX h) : ∃ f, hg h 41 = iA 12 f := F 41
theorem FIX.c42 {h : MH} (F : FIX h) : ∃ f, hg h 42 = iA 12 f := F 42
theorem FIX.c43 {h : MH} (F : FIX h) : ∃ f, hg h 43 = iA 12 f := F 43
theorem FIX.c44 {h : MH} (F : FIX h) : ∃ R, hg h 44 = oB 10 [.int (nI 12), .int (nI 12), .ref 45, .int (nI R)] := F 44
theorem FIX.c45 {h : MH} (F : FIX h) : ∃ f, hg h 45 = iA 144 f := F 45
theorem FIX.c46 {h : MH} (F : FIX h) : ∃ a : Int32, hg h 46 = oB 8 [.ref 1, .ref 47, .ref 48, .ref 49, .ref 50, .int a] := F 46
theorem FIX.c47 {h : MH} (F : FIX h) : ∃ f, hg h 47 = iA 8 f := F 47
theorem FIX.c48 {h : MH} (F : FIX h) : ∃ f, hg h 48 = iA 8 f := F 48
theorem FIX.c49 {h : MH} (F : FIX h) : ∃ f, hg h 49 = iA 8 f := F 49
theorem FIX.c50 {h : MH} (F : FIX h) : ∃ f, hg h 50 = iA 256 f := F 50
theorem FIX.c51 {h : MH} (F : FIX h) : hg h 51 = oB 9 [.ref 18, .ref 52] := F 51
theorem FIX.c52 {h : MH} (F : FIX h) : ∃ f, hg h 52 = iA 18 f := F 52
theorem FIX.c53 {h : MH} (F : FIX h) : hg h 53 = oB 7 [.ref 1, .ref 54] := F 53
theorem FIX.c54 {h : MH} (F : FIX h) : ∃ f, hg h 54 = iA 10 f := F 54
theorem FIX.c55 {h : MH} (F : FIX h) : ∃ io wi pl sp wa se bc sv bh : Int32, hg h 55 = oB 12 (MO io wi pl sp wa se bc sv bh) := F 55
theorem FIX.c59 {h : MH} (F : FIX h) : ∃ f, hg h 59 = iA 2 f := F 59
theorem FIX.c60 {h : MH} (F : FIX h) : ∃ f, hg h 60 = iA 2 f := F 60
theorem FIX.c61 {h : MH} (F : FIX h) : ∃ f, hg h 61 = iA 2 f := F 61
theorem FIX.c62 {h : MH} (F : FIX h) : ∃ f, hg h 62 = iA 2 f := F 62
theorem FIX.c63 {h : MH} (F : FIX h) : ∃ f, hg h 63 = iA 2 f := F 63
theorem FIX.c64 {h : MH} (F : FIX h) : ∃ f, hg h 64 = iA 16 f := F 64
theorem FIX.c65 {h : MH} (F : FIX h) : ∃ f, hg h 65 = iA 16 f := F 65
theorem FIX.c66 {h : MH} (F : FIX h) : ∃ f, hg h 66 = iA 16 f := F 66
theorem FIX.c67 {h : MH} (F : FIX h) : ∃ f, hg h 67 = iA 16 f := F 67
theorem FIX.c68 {h : MH} (F : FIX h) : ∃ f, hg h 68 = iA 16 f := F 68
theorem FIX.c69 {h : MH} (F : FIX h) : ∃ f, hg h 69 = iA 16 f := F 69
theorem FIX.c70 {h : MH} (F : FIX h) : ∃ f, hg h 70 = iA 16 f := F 70
theorem FIX.c71 {h : MH} (F : FIX h) : ∃ f, hg h 71 = iA 16 f := F 71
theorem FIX.c72 {h : MH} (F : FIX h) : ∃ f, hg h 72 = iA 60 f := F 72
theorem FIX.c73 {h : MH} (F : FIX h) : ∃ f, hg h 73 = iA 60 f := F 73
theorem FIX.c74 {h : MH} (F : FIX h) : ∃ f, hg h 74 = iA 60 f := F 74
theorem FIX.c75 {h : MH} (F : FIX h) : ∃ f, hg h 75 = lA 60 f := F 75
theorem FIX.c76 {h : MH} (F : FIX h) : ∃ f, hg h 76 = lA 16 f := F 76
theorem FIX.c77 {h : MH} (F : FIX h) : ∃ f, hg h 77 = iA 16 f := F 77
theorem FIX.c78 {h : MH} (F : FIX h) : ∃ f, hg h 78 = iA 16 f := F 78
theorem FIX.c79 {h : MH} (F : FIX h) : ∃ f, hg h 79 = iA 12 f := F 79
theorem FIX.c80 {h : MH} (F : FIX h) : ∃ f, hg h 80 = iA 12 f := F 80
theorem FIX.c81 {h : MH} (F : FIX h) : ∃ f, hg h 81 = iA 8 f := F 81
theorem FIX.c82 {h : MH} (F : FIX h) : ∃ f, hg h 82 = iA 8 f := F 82
theorem FIX.c83 {h : MH} (F : FIX h) : ∃ f, hg h 83 = iA 8 f := F 83
theorem FIX.c84 {h : MH} (F : FIX h) : ∃ f, hg h 84 = iA 9 f := F 84
theorem FIX.c85 {h : MH} (F : FIX h) : ∃ f, hg h 85 = iA 9 f := F 85
theorem FIX.c86 {h : MH} (F : FIX h) : ∃ f, hg h 86 = lA 62 f := F 86
theorem FIX.c87 {h : MH} (F : FIX h) : ∃ f, hg h 87 = iA 10 f := F 87
/-- the reference's lasting data: its row st, its images, which are kept -/
def MD (h : MH) (S IM KP : Nat → Int32) : Prop := hg h 56 = iA 16450 S ∧ hg h 57 = iA 32900 IM ∧ hg h 58 = zA 2 KP
theorem MD.same {h h' : MH} {S IM KP : Nat → Int32} (M : MD h S IM KP) (hs : ∀ k, 55 < k → k < 59 → hg h' k = hg h k) : MD h' S IM KP := ⟨by rw [hs 56 (by omega) (by omega)]; exact M.1, by rw [hs 57 (by omega) (by omega)]; exact M.2.1, by rw [hs 58 (by omega) (by omega)]; exact M.2.2⟩

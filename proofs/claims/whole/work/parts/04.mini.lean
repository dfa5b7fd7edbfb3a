-- THE MINI MACHINE: a small interpreter over the real bytes
abbrev MC : Type := (Nat × vp_A) ⊕ (Nat × List Value)
abbrev MH : Type := Nat × Nat × (Nat → MC)
abbrev MX : Type := Nat × (Nat → Int32)
def mjunk : MC := .inr (1000, [])
def hg (h : MH) (k : Nat) : MC := h.2.2 k
def hp (h : MH) (k : Nat) (c : MC) : MH := (h.1, h.2.1, fun j => if j = k then c else h.2.2 j)
def hnw (h : MH) (c : MC) (sz : Nat) : MH := (h.1 + 1, h.2.1 + sz, fun j => if j = h.1 then c else h.2.2 j)
abbrev iA (n : Nat) (f : Nat → Int32) : MC := .inl (0, n, .inl f)
abbrev lA (n : Nat) (f : Nat → Int64) : MC := .inl (1, n, .inr (.inl f))
abbrev zA (n : Nat) (f : Nat → Int32) : MC := .inl (2, n, .inl f)
abbrev qA (n : Nat) (f : Nat → Option Nat) : MC := .inl (3, n, .inr (.inr (.inr (.inr f))))
abbrev oB (ci : Nat) (fs : List Value) : MC := .inr (ci, fs)
/-- read-only arrays: the script, three static arrays, the bytes of the string constant -/
def roA (X : MX) (k : Nat) : Option (Nat × (Nat → Int32)) := match k with
  | 0 => some X
  | 1 => some (6, fun j => ([12, 21, 102, 120, 201, 210] : List Int32).getD j 0)
  | 2 => some (9, fun j => ([2, 0, 1, 2, 0, 1, 0, 1, 2] : List Int32).getD j 0)
  | 3 => some (9, fun j => ([2, 1, 0, 1, 0, 2, 2, 1, 0] : List Int32).getD j 0)
  | _ => none
def roB : Nat → Int32 := fun j => ([119, 100, 103, 98, 115, 121, 114] : List Int32).getD j 0
def inR (i : Int32) (n : Nat) : Bool := decide (0 ≤ i) && decide (i.toNatClampNeg < n)
/-- field of an object -/
def gf (h : MH) (a ci k : Nat) : Option Value := match hg h a with
  | .inr (c, fs) => if c = ci then fs[k]? else none
  | .inl _ => none
def fitV (ty : FieldType) (v : Value) : Bool := decide (narrow ty v = v) && fits ty v
def fty (ci k : Nat) : Option FieldType := (vwCl[ci]?).bind (fun r => parseFieldDescriptor (r.2.1 k).2.2.1)
def ffin (ci k : Nat) : Bool := match vwCl[ci]? with
  | some r => (r.2.1 k).2.2.2
  | none => true
def pf (h : MH) (a ci k : Nat) (v : Value) : Option MH := match hg h a with
  | .inr (c, fs) => if c = ci ∧ k < fs.length then some (hp h a (.inr (c, fs.set k v))) else none
  | .inl _ => none
/-- a value that may lie in a field of that type; a read-only thing never does -/
def fitF (ty : Option FieldType) (v : Value) : Bool := match ty, v with
  | _, .retAddr _ => false
  | some t, v => fitV t v
  | none, _ => false
def ga (h : MH) (a : Nat) (i : Int32) : Option Int32 := match hg h a with
  | .inl (0, n, .inl f) => if inR i n then some (f i.toNatClampNeg) else none
  | _ => none
def gz (h : MH) (a : Nat) (i : Int32) : Option Int32 := match hg h a with
  | .inl (2, n, .inl f) => if inR i n then some (f i.toNatClampNeg) else none
  | _ => none
def gl (h : MH) (a : Nat) (i : Int32) : Option Int64 := match hg h a with
  | .inl (1, n, .inr (.inl f)) => if inR i n then some (f i.toNatClampNeg) else none
  | _ => none
def mrf (r : Option Nat) : Value := match r with
  | none => .null
  | some a => .ref a
def gq (h : MH) (a : Nat) (i : Int32) : Option (Option Nat) := match hg h a with
  | .inl (3, n, .inr (.inr (.inr (.inr f)))) => if inR i n then some (f i.toNatClampNeg) else none
  | _ => none
def pa (h : MH) (a : Nat) (i x : Int32) : Option MH := match hg h a with
  | .inl (0, n, .inl f) => if inR i n then some (hp h a (.inl (0, n, .inl (upd f i.toNatClampNeg x)))) else none
  | _ => none
def pz (h : MH) (a : Nat) (i x : Int32) : Option MH := match hg h a with
  | .inl (2, n, .inl f) => if inR i n then some (hp h a (.inl (2, n, .inl (upd f i.toNatClampNeg (vp_nar .boolean x))))) else none
  | _ => none
def pl (h : MH) (a : Nat) (i : Int32) (x : Int64) : Option MH := match hg h a with
  | .inl (1, n, .inr (.inl f)) => if inR i n then some (hp h a (.inl (1, n, .inr (.inl (vp_updL f i.toNatClampNeg x))))) else none
  | _ => none
/-- only a League may be laid into the row of Leagues -/
def pq (h : MH) (a : Nat) (i : Int32) (b : Nat) : Option MH := match hg h a, hg h b with
  | .inl (3, n, .inr (.inr (.inr (.inr f)))), .inr (4, _) => if inR i n then some (hp h a (.inl (3, n, .inr (.inr (.inr (.inr (va_up f i.toNatClampNeg (some b)))))))) else none
  | _, _ => none
def alen (h : MH) (a : Nat) : Option Int32 := match hg h a with
  | .inl (t, n, _) => if t ≤ 3 then some (Int32.ofNat n) else none
  | _ => none
def tgo (pc : Nat) (off : Int) : Option Nat := if 0 ≤ (pc : Int) + off then some ((pc : Int) + off).toNat else none
def cmpI (c : Jvm.ClassFile.Cond) (x y : Int32) : Bool := match c with
  | .eq => decide (x = y)
  | .ne => decide (¬ x = y)
  | .lt => decide (x < y)
  | .ge => decide (y ≤ x)
  | .gt => decide (y < x)
  | .le => decide (x ≤ y)
def stO (j : Nat) (loc : List Value) (i : Nat) : Bool := decide (i < loc.length) && (decide (i = 0) || (!((mt_s (mq j)).contains (i - 1)) || (match loc[i - 1]? with
  | some (.int _) => true
  | _ => false)))
def setI (j : Nat) (loc : List Value) (i : Nat) (v : Value) : Option (List Value) := if stO j loc i then some (loc.set i v) else none
def setL (j : Nat) (loc : List Value) (i : Nat) (v : Int64) : Option (List Value) := if stO j loc i && decide (i + 1 < loc.length) && (mt_s (mq j)).contains i then some ((loc.set i (.long v)).set (i + 1) (.float 0)) else none
abbrev MS : Type := Nat × List Value × List Value × MH
def ini (k : Nat) : MC := match vwCl[k]? with
  | some r => .inr (k, (List.range r.2.2).map (fun i => match parseFieldDescriptor (r.2.1 i).2.2.1 with
    | some t => defaultValue t
    | none => .null))
  | none => mjunk
def nfs (k : Nat) : Nat := match vwCl[k]? with
  | some r => r.2.2
  | none => 0
def cpy (h : MH) (a : Nat) (sp : Int32) (b : Nat) (dp n : Int32) : Option MH := match hg h a, hg h b with
  | .inl (0, n0, .inl f), .inl (0, n1, .inl g) => if decide (0 ≤ sp) && decide (0 ≤ dp) && decide (0 ≤ n) && decide (sp.toNatClampNeg + n.toNatClampNeg ≤ n0) && decide (dp.toNatClampNeg + n.toNatClampNeg ≤ n1) then some (hp h b (.inl (0, n1, .inl (va_cpy f g sp.toNatClampNeg dp.toNatClampNeg n.toNatClampNeg)))) else none
  | _, _ => none
def simK (j pc : Nat) (ins : Instr) (len : Nat) (loc st : List Value) (h : MH) : Option MS := match ins, len with
  | .iconst n, 1 => some (pc + 1, loc, .int (Int32.ofInt n) :: st, h)
  | .bipush n, 2 => some (pc + 2, loc, .int (Int8.ofInt n).toInt32 :: st, h)
  | .sipush n, 3 => some (pc + 3, loc, .int (Int16.ofInt n).toInt32 :: st, h)
  | .lconst n, 1 => some (pc + 1, loc, .long (Int64.ofNat n.val) :: st, h)
  | .ldc i, 2 => if mt_c (mq j) = 2 ∧ i = 111 then some (pc + 2, loc, .retAddr 4 :: st, h) else (kt (mt_c (mq j)) i).map (fun v => (pc + 2, loc, .int v :: st, h))
  | .ldc_w i, 3 => (kt (mt_c (mq j)) i).map (fun v => (pc + 3, loc, .int v :: st, h))
  | .ldc2_w i, 3 => (jt (mt_c (mq j)) i).map (fun v => (pc + 3, loc, .long v :: st, h))
  | _, _ => none
def ldI (loc : List Value) (i : Nat) : Option Value := match loc[i]? with
  | some (.int x) => some (.int x)
  | _ => none
def ldL (loc : List Value) (i : Nat) : Option Value := match loc[i]? with
  | some (.long x) => some (.long x)
  | _ => none
def ldA (loc : List Value) (i : Nat) : Option Value := match loc[i]? with
  | some (.ref x) => some (.ref x)
  | some (.retAddr x) => some (.retAddr x)
  | some .null => some .null
  | _ => none
def isA (v : Value) : Bool := match v with
  | .ref _ => true
  | .retAddr _ => true
  | .null => true
  | _ => false
def simL (j pc : Nat) (ins : Instr) (len : Nat) (loc st : List Value) (h : MH) : Option MS := match ins, len with
  | .iload i, 2 => (ldI loc i).map (fun v => (pc + 2, loc, v :: st, h))
  | .iload_n i, 1 => (ldI loc i.val).map (fun v => (pc + 1, loc, v :: st, h))
  | .lload i, 2 => (ldL loc i).map (fun v => (pc + 2, loc, v :: st, h))
  | .lload_n i, 1 => (ldL loc i.val).map (fun v => (pc + 1, loc, v :: st, h))
  | .aload i, 2 => (ldA loc i).map (fun v => (pc + 2, loc, v :: st, h))
  | .aload_n i, 1 => (ldA loc i.val).map (fun v => (pc + 1, loc, v :: st, h))
  | .istore i, 2 => match st with
    | .int x :: r => (setI j loc i (.int x)).map (fun l => (pc + 2, l, r, h))
    | _ => none
  | .istore_n i, 1 => match st with
    | .int x :: r => (setI j loc i.val (.int x)).map (fun l => (pc + 1, l, r, h))
    | _ => none
  | .astore i, 2 => match st with
    | v :: r => if isA v then (setI j loc i v).map (fun l => (pc + 2, l, r, h)) else none
    | _ => none
  | .astore_n i, 1 => match st with
    | v :: r => if isA v then (setI j loc i.val v).map (fun l => (pc + 1, l, r, h)) else none
    | _ => none
  | .lstore i, 2 => match st with
    | .long x :: r => (setL j loc i x).map (fun l => (pc + 2, l, r, h))
    | _ => none
  | .lstore_n i, 1 => match st with
    | .long x :: r => (setL j loc i.val x).map (fun l => (pc + 1, l, r, h))
    | _ => none
  | .iinc i n, 3 => match loc[i]? with
    | some (.int x) => (setI j loc i (.int (x + Int32.ofInt n))).map (fun l => (pc + 3, l, st, h))
    | _ => none
  | _, _ => none
def simA (pc : Nat) (ins : Instr) (len : Nat) (loc st : List Value) (h : MH) : Option MS := match ins, len, st with
  | .iadd, 1, .int y :: .int x :: r => some (pc + 1, loc, .int (x + y) :: r, h)
  | .isub, 1, .int y :: .int x :: r => some (pc + 1, loc, .int (x - y) :: r, h)
  | .imul, 1, .int y :: .int x :: r => some (pc + 1, loc, .int (x * y) :: r, h)
  | .iand, 1, .int y :: .int x :: r => some (pc + 1, loc, .int (x &&& y) :: r, h)
  | .ior, 1, .int y :: .int x :: r => some (pc + 1, loc, .int (x ||| y) :: r, h)
  | .idiv, 1, .int y :: .int x :: r => if y = 0 then none else some (pc + 1, loc, .int (x / y) :: r, h)
  | .irem, 1, .int y :: .int x :: r => if y = 0 then none else some (pc + 1, loc, .int (x - x / y * y) :: r, h)
  | .ishl, 1, .int y :: .int x :: r => some (pc + 1, loc, .int (x <<< (y &&& 31)) :: r, h)
  | .ishr, 1, .int y :: .int x :: r => some (pc + 1, loc, .int (x >>> (y &&& 31)) :: r, h)
  | .iushr, 1, .int y :: .int x :: r => some (pc + 1, loc, .int (x.toUInt32 >>> (y.toUInt32 &&& Int32.toUInt32 31)).toInt32 :: r, h)
  | .ineg, 1, .int x :: r => some (pc + 1, loc, .int (-x) :: r, h)
  | .ladd, 1, .long y :: .long x :: r => some (pc + 1, loc, .long (x + y) :: r, h)
  | .lsub, 1, .long y :: .long x :: r => some (pc + 1, loc, .long (x - y) :: r, h)
  | .lmul, 1, .long y :: .long x :: r => some (pc + 1, loc, .long (x * y) :: r, h)
  | .ldiv, 1, .long y :: .long x :: r => if y = 0 then none else some (pc + 1, loc, .long (x / y) :: r, h)
  | .lneg, 1, .long x :: r => some (pc + 1, loc, .long (-x) :: r, h)
  | .lshl, 1, .int y :: .long x :: r => some (pc + 1, loc, .long (x <<< (y.toInt64 &&& 63)) :: r, h)
  | .i2l, 1, .int x :: r => some (pc + 1, loc, .long x.toInt64 :: r, h)
  | .i2c, 1, .int x :: r => some (pc + 1, loc, .int (x.toUInt32 % 65536).toInt32 :: r, h)
  | .i2b, 1, .int x :: r => some (pc + 1, loc, .int x.toInt8.toInt32 :: r, h)
  | .lcmp, 1, .long y :: .long x :: r => some (pc + 1, loc, .int (lg_cmp x y) :: r, h)
  | .dup, 1, v :: r => if v.category = 1 then some (pc + 1, loc, v :: v :: r, h) else none
  | .dup2, 1, v :: w :: r => if v.category = 1 ∧ w.category = 1 then some (pc + 1, loc, v :: w :: v :: w :: r, h) else none
  | .pop, 1, v :: r => if v.category = 1 then some (pc + 1, loc, r, h) else none
  | _, _, _ => none
def simB (pc : Nat) (ins : Instr) (len : Nat) (loc st : List Value) (h : MH) : Option MS := match ins, len, st with
  | .if_icmp c off, 3, .int y :: .int x :: r => (tgo pc off).map (fun t => (if cmpI c x y then t else pc + 3, loc, r, h))
  | .ifCond c off, 3, .int x :: r => (tgo pc off).map (fun t => (if cmpI c x 0 then t else pc + 3, loc, r, h))
  | .goto off, 3, r => (tgo pc off).map (fun t => (t, loc, r, h))
  | .ifnonnull off, 3, .ref _ :: r => (tgo pc off).map (fun t => (t, loc, r, h))
  | .ifnonnull _, 3, .null :: r => some (pc + 3, loc, r, h)
  | .tableswitch d lo hi offs, _, .int x :: r => if x.toInt < lo ∨ hi < x.toInt then (tgo pc d).map (fun t => (t, loc, r, h)) else (offs[(x.toInt - lo).toNat]?).bind (fun o => (tgo pc o).map (fun t => (t, loc, r, h)))
  | _, _, _ => none
def stv (c i : Nat) : Option Value := if c = 9 ∧ i = 17 then some (.retAddr 1) else if c = 9 ∧ i = 20 then some (.retAddr 2) else if c = 9 ∧ i = 27 then some (.retAddr 3) else if c = 15 ∧ i = 38 then some (.int 1) else none
def rof (c i k : Nat) : Option Value := if c = 15 ∧ k = 4 then (if i = 9 then some (.retAddr 5) else if i = 15 then some (.int 0) else none) else none
def anw (pc t n : Nat) (a0 : Nat → vp_A) (x : Int32) (loc r : List Value) (h : MH) : Option MS := if decide (0 ≤ x) && decide (x.toNatClampNeg ≤ 40000) then some (pc + n, loc, .ref h.1 :: r, hnw h (.inl (t, a0 x.toNatClampNeg)) x.toNatClampNeg) else none
def simH (X : MX) (j pc : Nat) (ins : Instr) (len : Nat) (loc st : List Value) (h : MH) : Option MS := match ins, len, st with
  | .getfield i, 3, .ref a :: r => (ft (mt_c (mq j)) i).bind (fun q => (gf h a q.1 q.2).map (fun v => (pc + 3, loc, v :: r, h)))
  | .getfield i, 3, .retAddr a :: r => (rof (mt_c (mq j)) i a).map (fun v => (pc + 3, loc, v :: r, h))
  | .putfield i, 3, v :: .ref a :: r => (ft (mt_c (mq j)) i).bind (fun q => if fitF (fty q.1 q.2) v && (!(ffin q.1 q.2) || (decide ((mt_y (mq j)).name = "<init>") && decide (mt_c (mq j) = q.1))) then (pf h a q.1 q.2 v).map (fun h1 => (pc + 3, loc, r, h1)) else none)
  | .getstatic i, 3, r => (stv (mt_c (mq j)) i).map (fun v => (pc + 3, loc, v :: r, h))
  | .iaload, 1, .int i :: .ref a :: r => (ga h a i).map (fun v => (pc + 1, loc, .int v :: r, h))
  | .iaload, 1, .int i :: .retAddr a :: r => (roA X a).bind (fun q => if inR i q.1 then some (pc + 1, loc, .int (q.2 i.toNatClampNeg) :: r, h) else none)
  | .baload, 1, .int i :: .ref a :: r => (gz h a i).map (fun v => (pc + 1, loc, .int v :: r, h))
  | .baload, 1, .int i :: .retAddr a :: r => if decide (a = 5) && inR i 7 then some (pc + 1, loc, .int (roB i.toNatClampNeg) :: r, h) else none
  | .laload, 1, .int i :: .ref a :: r => (gl h a i).map (fun v => (pc + 1, loc, .long v :: r, h))
  | .aaload, 1, .int i :: .ref a :: r => (gq h a i).map (fun v => (pc + 1, loc, mrf v :: r, h))
  | .iastore, 1, .int x :: .int i :: .ref a :: r => (pa h a i x).map (fun h1 => (pc + 1, loc, r, h1))
  | .bastore, 1, .int x :: .int i :: .ref a :: r => (pz h a i x).map (fun h1 => (pc + 1, loc, r, h1))
  | .lastore, 1, .long x :: .int i :: .ref a :: r => (pl h a i x).map (fun h1 => (pc + 1, loc, r, h1))
  | .aastore, 1, .ref b :: .int i :: .ref a :: r => (pq h a i b).map (fun h1 => (pc + 1, loc, r, h1))
  | .arraylength, 1, .ref a :: r => (alen h a).map (fun v => (pc + 1, loc, .int v :: r, h))
  | .arraylength, 1, .retAddr a :: r => if a = 5 then some (pc + 1, loc, .int 7 :: r, h) else (roA X a).map (fun q => (pc + 1, loc, .int (Int32.ofNat q.1) :: r, h))
  | .newarray .int, 2, .int x :: r => anw pc 0 2 (fun n => (n, .inl (fun _ => 0))) x loc r h
  | .newarray .long, 2, .int x :: r => anw pc 1 2 (fun n => (n, .inr (.inl (fun _ => 0)))) x loc r h
  | .newarray .boolean, 2, .int x :: r => anw pc 2 2 (fun n => (n, .inl (fun _ => 0))) x loc r h
  | .anewarray i, 3, .int x :: r => if mt_c (mq j) = 11 ∧ i = 7 then anw pc 3 3 (fun n => (n, .inr (.inr (.inr (.inr (fun _ => none)))))) x loc r h else none
  | .new i, 3, r => (nt (mt_c (mq j)) i).map (fun k => (pc + 3, loc, .ref h.1 :: r, hnw h (ini k) (nfs k)))
  | _, _, _ => none
def lite (st : List Value) : Bool := decide (st.length ≤ 4) || decide ((st.map fun v => v.category).sum ≤ 8)
def simI (j pc : Nat) (ins : Instr) (len : Nat) (loc st : List Value) (h : MH) : Option MS := match ins, len with
  | .invokespecial i, 3 => (match st with
    | .ref _ :: r => if it (mt_c (mq j)) i = some 0 ∧ lite r = true then some (pc + 3, loc, r, h) else none
    | _ => none)
  | .invokestatic i, 3 => (match it (mt_c (mq j)) i with
    | some 1 => (match st with
      | .int n :: .int dp :: .ref b :: .int sp :: .ref a :: r => if lite r = true then (cpy h a sp b dp n).map (fun h1 => (pc + 3, loc, r, h1)) else none
      | _ => none)
    | some 2 => (match st with
      | .int y :: .int x :: r => if lite r = true then some (pc + 3, loc, .int (if x < y then y else x) :: r, h) else none
      | _ => none)
    | some 3 => (match st with
      | .int y :: .int x :: r => if lite r = true then some (pc + 3, loc, .int (if y < x then y else x) :: r, h) else none
      | _ => none)
    | some 4 => (match st with
      | .int y :: r => if lite r = true then some (pc + 3, loc, .int (if 0 ≤ y then y else 0 - y) :: r, h) else none
      | _ => none)
    | _ => none)
  | _, _ => none
def kd (ins : Instr) : Nat := match ins with
  | .iconst _ => 0
  | .bipush _ => 0
  | .sipush _ => 0
  | .lconst _ => 0
  | .ldc _ => 0
  | .ldc_w _ => 0
  | .ldc2_w _ => 0
  | .iload _ => 1
  | .iload_n _ => 1
  | .lload _ => 1
  | .lload_n _ => 1
  | .aload _ => 1
  | .aload_n _ => 1
  | .istore _ => 1
  | .istore_n _ => 1
  | .astore _ => 1
  | .astore_n _ => 1
  | .lstore _ => 1
  | .lstore_n _ => 1
  | .iinc _ _ => 1
  | .if_icmp _ _ => 3
  | .ifCond _ _ => 3
  | .goto _ => 3
  | .ifnonnull _ => 3
  | .tableswitch _ _ _ _ => 3
  | .getfield _ => 4
  | .putfield _ => 4
  | .getstatic _ => 4
  | .iaload => 4
  | .baload => 4
  | .laload => 4
  | .aaload => 4
  | .iastore => 4
  | .bastore => 4
  | .lastore => 4
  | .aastore => 4
  | .arraylength => 4
  | .newarray _ => 4
  | .anewarray _ => 4
  | .new _ => 4
  | .invokespecial _ => 5
  | .invokestatic _ => 5
  | .invokevirtual _ => 5
  | .ireturn => 6
  | .lreturn => 6
  | .return_ => 6
  | _ => 2
def sim (X : MX) (j pc : Nat) (ins : Instr) (len : Nat) (loc st : List Value) (h : MH) : Option MS := match kd ins with
  | 0 => simK j pc ins len loc st h
  | 1 => simL j pc ins len loc st h
  | 2 => simA pc ins len loc st h
  | 3 => simB pc ins len loc st h
  | 4 => simH X j pc ins len loc st h
  | 5 => simI j pc ins len loc st h
  | _ => none
def retv (j : Nat) (ins : Instr) (len : Nat) (st : List Value) : Option (Option Value) := match ins, len, st with
  | .return_, 1, [] => if mt_r (mq j) = none then some none else none
  | .ireturn, 1, [.int x] => match mt_r (mq j) with
    | some .int => some (some (.int x))
    | some .boolean => if narrow .boolean (.int x) = .int x then some (some (.int x)) else none
    | some .byte => if narrow .byte (.int x) = .int x then some (some (.int x)) else none
    | _ => none
  | .lreturn, 1, [.long x] => if mt_r (mq j) = some .long then some (some (.long x)) else none
  | _, _, _ => none
/-- may method j call method k -/
def mayc (j k : Nat) : Bool := decide (mt_rk (mq k) < mt_rk (mq j)) && decide (mt_l (mq k) ≤ 40)
def recvOk (h : MH) (k : Nat) (b : Value) : Bool := match b with
  | .ref a => (match hg h a with
    | .inr (ci, _) => (match vwCl[ci]? with
      | some _ => decide (ci = mt_c (mq k) ∨ (ci = 0 ∧ 100 ≤ mt_c (mq k)))
      | none => false)
    | _ => false)
  | .retAddr 4 => decide (mt_c (mq k) = 15)
  | _ => false
def isR (b : Value) : Bool := match b with
  | .ref _ => true
  | _ => false
def callOf (j : Nat) (ins : Instr) (len : Nat) (st : List Value) (h : MH) : Option (Nat × List Value × List Value) := match ins, len with
  | .invokevirtual i, 3 => (ct (mt_c (mq j)) i).bind (fun q => match st.drop (mt_n (mq q.1)) with
    | b :: r => if mt_k (mq q.1) = 1 ∧ q.2 = 0 ∧ mayc j q.1 = true ∧ recvOk h q.1 b = true ∧ lite r = true then some (q.1, b :: (st.take (mt_n (mq q.1))).reverse, r) else none
    | [] => none)
  | .invokespecial i, 3 => (ct (mt_c (mq j)) i).bind (fun q => match st.drop (mt_n (mq q.1)) with
    | b :: r => if mt_k (mq q.1) = 2 ∧ q.2 = 0 ∧ mayc j q.1 = true ∧ isR b = true ∧ lite r = true then some (q.1, b :: (st.take (mt_n (mq q.1))).reverse, r) else none
    | [] => none)
  | .invokestatic i, 3 => (ct (mt_c (mq j)) i).bind (fun q => if mt_k (mq q.1) = 0 ∧ (q.2 = 0 ∨ q.2 = 1) ∧ mayc j q.1 = true ∧ mt_n (mq q.1) ≤ st.length ∧ lite (st.drop (mt_n (mq q.1))) = true then some (q.1, (st.take (mt_n (mq q.1))).reverse, st.drop (mt_n (mq q.1))) else none)
  | _, _ => none
def spread (As : List Value) : List Value := As.flatMap (fun v => if v.category = 2 then [v, .float 0] else [v])
def entryL (k : Nat) (As : List Value) : List Value := spread As ++ List.replicate (mt_l (mq k) - (spread As).length) (.float 0)
/-- the locals with which a method may begin -/
def entOk (k : Nat) (As : List Value) : Bool := decide ((spread As).length ≤ mt_l (mq k)) && ((List.range (mt_l (mq k))).all (fun i => match (entryL k As)[i]? with
  | some (.long _) => (mt_s (mq k)).contains i
  | some (.double _) => false
  | _ => true))
def exec (X : MX) : Nat → Nat → Nat → List Value → List Value → MH → Option (Option Value × MH)
  | 0, _, _, _, _, _ => none
  | n + 1, j, pc, loc, st, h => match decode (mt_b (mq j)) pc with
    | .error _ => none
    | .ok (ins, len) =>
      if kd ins = 6 then (retv j ins len st).map (fun v => (v, h))
      else match callOf j ins len st h with
        | some q => if entOk q.1 q.2.1 then (exec X n q.1 0 (entryL q.1 q.2.1) [] h).bind (fun r => exec X n j (pc + 3) loc (r.1.toList ++ q.2.2) r.2) else none
        | none => (sim X j pc ins len loc st h).bind (fun c => exec X n j c.1 c.2.1 c.2.2.1 c.2.2.2)
theorem exec_mono (X : MX) : ∀ (n j pc : Nat) (loc st : List Value) (h : MH) (r : Option Value × MH), exec X n j pc loc st h = some r → exec X (n + 1) j pc loc st h = some r
  | 0, _, _, _, _, _, _, hh => by cases hh
  | n + 1, j, pc, loc, st, h, r, hh => by
    unfold exec at hh ⊢
    cases hd : decode (mt_b (mq j)) pc with
    | error e => rw [hd] at hh; cases hh
    | ok q =>
      obtain ⟨ins, len⟩ := q
      rw [hd] at hh
      simp only at hh ⊢
      by_cases hk : kd ins = 6
      · rw [if_pos hk] at hh ⊢; exact hh
      · rw [if_neg hk] at hh ⊢
        cases hc : callOf j ins len st h with
        | some q =>
          rw [hc] at hh
          simp only at hh ⊢
          by_cases he : entOk q.1 q.2.1 = true
          · rw [if_pos he] at hh ⊢
            cases h1 : exec X n q.1 0 (entryL q.1 q.2.1) [] h with
            | none => rw [h1] at hh; cases hh
            | some r1 =>
              rw [h1] at hh
              rw [exec_mono X n _ _ _ _ _ _ h1]
              exact exec_mono X n _ _ _ _ _ _ hh
          · rw [if_neg he] at hh; cases hh
        | none =>
          rw [hc] at hh
          simp only at hh ⊢
          cases hs : sim X j pc ins len loc st h with
          | none => rw [hs] at hh; cases hh
          | some c =>
            rw [hs] at hh
            exact exec_mono X n _ _ _ _ _ _ hh
theorem exec_mono' (X : MX) {n m j pc : Nat} {loc st : List Value} {h : MH} {r : Option Value × MH} (hh : exec X n j pc loc st h = some r) (hm : n ≤ m) : exec X m j pc loc st h = some r := by
  induction hm with
  | refl => exact hh
  | step _ ih => exact exec_mono X _ _ _ _ _ _ _ ih

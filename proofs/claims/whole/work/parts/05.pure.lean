-- THE PURE MACHINE: one method's instructions over a heap of handles 0, 1, 2 .. (the object or array made k-th); ints, longs, references apart
abbrev Hs : Type := Bool × Nat × Nat × (Nat → Nat) × (Nat → Nat) × (Nat → Nat → Option Nat)
abbrev Hp : Type := Hs × (Nat → Nat → Int32) × (Nat → Nat → Int64) × (Nat → Nat → Option Nat)
abbrev Rs : Type := Option Value × Hp
abbrev Lc : Type := List (Option Value)
abbrev Cf : Type := Nat × Lc × List Value × Hp
/-- may cells be made -/
def hAl (h : Hp) : Bool := h.1.1
def hTop (h : Hp) : Nat := h.1.2.1
def hSl (h : Hp) : Nat := h.1.2.2.1
/-- kinds: below 13 the class's number; 13 byte[], 14 int[], 15 long[], 16 short[], 17 boolean[] -/
def hK (h : Hp) : Nat → Nat := h.1.2.2.2.1
def hN (h : Hp) : Nat → Nat := h.1.2.2.2.2.1
def hF (h : Hp) : Nat → Nat → Option Nat := h.1.2.2.2.2.2
def hI (h : Hp) : Nat → Nat → Int32 := h.2.1
def hJ (h : Hp) : Nat → Nat → Int64 := h.2.2.1
def hR (h : Hp) : Nat → Nat → Option Nat := h.2.2.2
def stI (h : Hp) (a k : Nat) (v : Int32) : Hp := (h.1, va_up h.2.1 a (upd (h.2.1 a) k v), h.2.2)
def stA (h : Hp) (a : Nat) (f : Nat → Int32) : Hp := (h.1, va_up h.2.1 a f, h.2.2)
def stJ (h : Hp) (a k : Nat) (v : Int64) : Hp := (h.1, h.2.1, va_up h.2.2.1 a (vp_updL (h.2.2.1 a) k v), h.2.2.2)
def stR (h : Hp) (a k : Nat) (v : Option Nat) : Hp := (h.1, h.2.1, h.2.2.1, va_up h.2.2.2 a (va_up (h.2.2.2 a) k v))
def stF (h : Hp) (a k : Nat) (v : Option Nat) : Hp := ((hAl h, hTop h, hSl h, hK h, hN h, va_up (hF h) a (va_up (hF h a) k v)), h.2)
/-- a new object of class ci with n fields, an array of kind ci with n places -/
def hNew (h : Hp) (ci n : Nat) : Hp :=
  ((hAl h, hTop h + 1, hSl h + n, va_up (hK h) (hTop h) ci, va_up (hN h) (hTop h) n, va_up (hF h) (hTop h) (fun _ => none)), va_up (hI h) (hTop h) (fun _ => 0), va_up (hJ h) (hTop h) (fun _ => 0), va_up (hR h) (hTop h) (fun _ => none))
def gd {α : Type} (b : Bool) (x : Option α) : Option α := if b = true then x else none
def inb (i : Int32) (n : Nat) : Bool := !(decide (i < 0)) && decide (i.toNatClampNeg < n)
def clr (o : Option Value) : Option Value := match o with
  | some (.long _) => none
  | some (.double _) => none
  | o => o
def lset1 (ls : Lc) (i : Nat) (v : Value) : Lc := match i with
  | 0 => ls.set 0 (some v)
  | j + 1 => (ls.set j (clr (ls.getD j none))).set (j + 1) (some v)
def lset2 (ls : Lc) (i : Nat) (v : Value) : Lc := match i with
  | 0 => (ls.set 0 (some v)).set 1 none
  | j + 1 => ((ls.set j (clr (ls.getD j none))).set (j + 1) (some v)).set (j + 2) none
def popI (st : List Value) : Option (Int32 × List Value) := match st with
  | .int x :: r => some (x, r)
  | _ => none
def popL (st : List Value) : Option (Int64 × List Value) := match st with
  | .long x :: r => some (x, r)
  | _ => none
def popA (st : List Value) : Option (Nat × List Value) := match st with
  | .ref x :: r => some (x, r)
  | _ => none
/-- a reference or null -/
def popN (st : List Value) : Option (Option Nat × List Value) := match st with
  | .ref x :: r => some (some x, r)
  | .null :: r => some (none, r)
  | _ => none
def popV (st : List Value) : Option (Value × List Value) := match st with
  | v :: r => some (v, r)
  | [] => none
def getI (ls : Lc) (i : Nat) : Option Int32 := match ls[i]? with
  | some (some (.int x)) => some x
  | _ => none
def getL (ls : Lc) (i : Nat) : Option Int64 := match ls[i]? with
  | some (some (.long x)) => some x
  | _ => none
def getN (ls : Lc) (i : Nat) : Option (Option Nat) := match ls[i]? with
  | some (some (.ref x)) => some (some x)
  | some (some .null) => some none
  | _ => none
def go1 (pc : Nat) (ls : Lc) (st : List Value) (h : Hp) : Option (Cf ⊕ Rs) := some (.inl (pc, ls, st, h))
def jmp (pc : Nat) (off : Int) : Nat := ((pc : Int) + off).toNat
def jok (pc : Nat) (off : Int) : Bool := decide (0 ≤ (pc : Int) + off)
def isRf (t : FieldType) : Bool := match t with
  | .object _ => true
  | .array _ => true
  | _ => false
/-- what a field holds -/
def fP (h : Hp) (a ci k : Nat) : Value := if isRf (tyT ci k) = true then va_rf (if (TT ci k).2.2.2 = true then hF h a k else hR h a k) else .int (hI h a k)
def w8 (st : List Value) : Bool := decide ((st.map fun v => v.category).sum ≤ 8)
abbrev Orc : Type := Mth → List Value → Hp → Option Rs
/-- a call: the arguments off the stack -/
def cal (O : Orc) (o idx pc : Nat) (ls : Lc) (st : List Value) (h : Hp) (vk : Nat) : Option (Cf ⊕ Rs) := match mRes o idx with
  | none => none
  | some (M, np, kd, ci) =>
    if kd / 2 = vk then
      (if vk = 1 then
        gd (w8 (st.drop np) && decide (np ≤ st.length)) ((O M (st.take np).reverse h).bind fun r => go1 (pc + 3) ls (r.1.toList ++ st.drop np) r.2)
      else (popA (st.drop np)).bind fun q =>
        gd (w8 q.2 && (vk == 2 || hK h q.1 == ci)) ((O M (.ref q.1 :: (st.take np).reverse) h).bind fun r => go1 (pc + 3) ls (r.1.toList ++ q.2) r.2))
    else none
/-- the kind of an array that newarray makes -/
def akd (t : ArrayType) : Nat := match newarray.typeOf t with
  | .byte => 13
  | .int => 14
  | .long => 15
  | .short => 16
  | .boolean => 17
  | _ => 99
def cmpI (c : ClassFile.Cond) (x y : Int32) : Bool := match c with
  | .eq => decide (x = y)
  | .ne => decide (¬ x = y)
  | .lt => decide (x < y)
  | .ge => decide (y ≤ x)
  | .gt => decide (y < x)
  | .le => decide (x ≤ y)
def ex1 (O : Orc) (M : Mth) (i : Instr) (n pc : Nat) (ls : Lc) (st : List Value) (h : Hp) : Option (Cf ⊕ Rs) := match i with
  | .iconst k => gd (n == 1) (go1 (pc + 1) ls (.int (Int32.ofInt k) :: st) h)
  | .bipush k => gd (n == 2) (go1 (pc + 2) ls (.int (Int8.ofInt k).toInt32 :: st) h)
  | .sipush k => gd (n == 3) (go1 (pc + 3) ls (.int (Int16.ofInt k).toInt32 :: st) h)
  | .lconst k => gd (n == 1) (go1 (pc + 1) ls (.long (Int64.ofNat k) :: st) h)
  | .aconst_null => gd (n == 1) (go1 (pc + 1) ls (.null :: st) h)
  | .ldc idx => ((cKTab M.2.2.2.2).lookup idx).bind fun v => gd (n == 2) (go1 (pc + 2) ls (.int v :: st) h)
  | .ldc_w idx => ((cKTab M.2.2.2.2).lookup idx).bind fun v => gd (n == 3) (go1 (pc + 3) ls (.int v :: st) h)
  | .ldc2_w idx => ((lKTab M.2.2.2.2).lookup idx).bind fun v => gd (n == 3) (go1 (pc + 3) ls (.long v :: st) h)
  | .iload j => (getI ls j).bind fun x => gd (n == 2) (go1 (pc + 2) ls (.int x :: st) h)
  | .iload_n j => (getI ls j).bind fun x => gd (n == 1) (go1 (pc + 1) ls (.int x :: st) h)
  | .lload j => (getL ls j).bind fun x => gd (n == 2) (go1 (pc + 2) ls (.long x :: st) h)
  | .lload_n j => (getL ls j).bind fun x => gd (n == 1) (go1 (pc + 1) ls (.long x :: st) h)
  | .aload j => (getN ls j).bind fun x => gd (n == 2) (go1 (pc + 2) ls (va_rf x :: st) h)
  | .aload_n j => (getN ls j).bind fun x => gd (n == 1) (go1 (pc + 1) ls (va_rf x :: st) h)
  | .istore j => (popI st).bind fun q => gd (n == 2 && decide (j < ls.length)) (go1 (pc + 2) (lset1 ls j (.int q.1)) q.2 h)
  | .istore_n j => (popI st).bind fun q => gd (n == 1 && decide ((j : Nat) < ls.length)) (go1 (pc + 1) (lset1 ls j (.int q.1)) q.2 h)
  | .lstore j => (popL st).bind fun q => gd (n == 2 && decide (j + 1 < ls.length)) (go1 (pc + 2) (lset2 ls j (.long q.1)) q.2 h)
  | .lstore_n j => (popL st).bind fun q => gd (n == 1 && decide ((j : Nat) + 1 < ls.length)) (go1 (pc + 1) (lset2 ls j (.long q.1)) q.2 h)
  | .astore j => (popN st).bind fun q => gd (n == 2 && decide (j < ls.length)) (go1 (pc + 2) (lset1 ls j (va_rf q.1)) q.2 h)
  | .astore_n j => (popN st).bind fun q => gd (n == 1 && decide ((j : Nat) < ls.length)) (go1 (pc + 1) (lset1 ls j (va_rf q.1)) q.2 h)
  | .iinc j k => (getI ls j).bind fun x => gd (decide (j < ls.length)) (if n = 3 then go1 (pc + 3) (lset1 ls j (.int (x + Int32.ofInt k))) st h else if n = 6 then go1 (pc + 6) (lset1 ls j (.int (x + Int32.ofInt k))) st h else none)
  | .iadd => (popI st).bind fun y => (popI y.2).bind fun x => gd (n == 1) (go1 (pc + 1) ls (.int (x.1 + y.1) :: x.2) h)
  | .isub => (popI st).bind fun y => (popI y.2).bind fun x => gd (n == 1) (go1 (pc + 1) ls (.int (x.1 - y.1) :: x.2) h)
  | .imul => (popI st).bind fun y => (popI y.2).bind fun x => gd (n == 1) (go1 (pc + 1) ls (.int (x.1 * y.1) :: x.2) h)
  | .iand => (popI st).bind fun y => (popI y.2).bind fun x => gd (n == 1) (go1 (pc + 1) ls (.int (x.1 &&& y.1) :: x.2) h)
  | .ior => (popI st).bind fun y => (popI y.2).bind fun x => gd (n == 1) (go1 (pc + 1) ls (.int (x.1 ||| y.1) :: x.2) h)
  | .ixor => (popI st).bind fun y => (popI y.2).bind fun x => gd (n == 1) (go1 (pc + 1) ls (.int (x.1 ^^^ y.1) :: x.2) h)
  | .ishl => (popI st).bind fun y => (popI y.2).bind fun x => gd (n == 1) (go1 (pc + 1) ls (.int (x.1 <<< (y.1 &&& 31)) :: x.2) h)
  | .ishr => (popI st).bind fun y => (popI y.2).bind fun x => gd (n == 1) (go1 (pc + 1) ls (.int (x.1 >>> (y.1 &&& 31)) :: x.2) h)
  | .iushr => (popI st).bind fun y => (popI y.2).bind fun x => gd (n == 1) (go1 (pc + 1) ls (.int (x.1.toUInt32 >>> (y.1.toUInt32 &&& Int32.toUInt32 31)).toInt32 :: x.2) h)
  | .idiv => (popI st).bind fun y => (popI y.2).bind fun x => gd (n == 1 && !(decide (y.1 = 0))) (go1 (pc + 1) ls (.int (x.1 / y.1) :: x.2) h)
  | .irem => (popI st).bind fun y => (popI y.2).bind fun x => gd (n == 1 && !(decide (y.1 = 0))) (go1 (pc + 1) ls (.int (x.1 - x.1 / y.1 * y.1) :: x.2) h)
  | .ineg => (popI st).bind fun x => gd (n == 1) (go1 (pc + 1) ls (.int (-x.1) :: x.2) h)
  | .ladd => (popL st).bind fun y => (popL y.2).bind fun x => gd (n == 1) (go1 (pc + 1) ls (.long (x.1 + y.1) :: x.2) h)
  | .lsub => (popL st).bind fun y => (popL y.2).bind fun x => gd (n == 1) (go1 (pc + 1) ls (.long (x.1 - y.1) :: x.2) h)
  | .lmul => (popL st).bind fun y => (popL y.2).bind fun x => gd (n == 1) (go1 (pc + 1) ls (.long (x.1 * y.1) :: x.2) h)
  | .land => (popL st).bind fun y => (popL y.2).bind fun x => gd (n == 1) (go1 (pc + 1) ls (.long (x.1 &&& y.1) :: x.2) h)
  | .ldiv => (popL st).bind fun y => (popL y.2).bind fun x => gd (n == 1 && !(decide (y.1 = 0))) (go1 (pc + 1) ls (.long (x.1 / y.1) :: x.2) h)
  | .lrem => (popL st).bind fun y => (popL y.2).bind fun x => gd (n == 1 && !(decide (y.1 = 0))) (go1 (pc + 1) ls (.long (x.1 - x.1 / y.1 * y.1) :: x.2) h)
  | .lneg => (popL st).bind fun x => gd (n == 1) (go1 (pc + 1) ls (.long (-x.1) :: x.2) h)
  | .lcmp => (popL st).bind fun y => (popL y.2).bind fun x => gd (n == 1) (go1 (pc + 1) ls (.int (lg_cmp x.1 y.1) :: x.2) h)
  | .i2l => (popI st).bind fun x => gd (n == 1) (go1 (pc + 1) ls (.long x.1.toInt64 :: x.2) h)
  | .l2i => (popL st).bind fun x => gd (n == 1) (go1 (pc + 1) ls (.int x.1.toInt32 :: x.2) h)
  | .i2b => (popI st).bind fun x => gd (n == 1) (go1 (pc + 1) ls (.int x.1.toInt8.toInt32 :: x.2) h)
  | .i2s => (popI st).bind fun x => gd (n == 1) (go1 (pc + 1) ls (.int x.1.toInt16.toInt32 :: x.2) h)
  | .dup => (popV st).bind fun x => gd (n == 1 && x.1.category == 1) (go1 (pc + 1) ls (x.1 :: x.1 :: x.2) h)
  | .dup2 => (popV st).bind fun x => (popV x.2).bind fun y => gd (n == 1 && x.1.category == 1 && y.1.category == 1) (go1 (pc + 1) ls (x.1 :: y.1 :: x.1 :: y.1 :: y.2) h)
  | .if_icmp c off => (popI st).bind fun y => (popI y.2).bind fun x => gd (n == 3 && jok pc off) (go1 (if cmpI c x.1 y.1 = true then jmp pc off else pc + 3) ls x.2 h)
  | .ifCond c off => (popI st).bind fun x => gd (n == 3 && jok pc off) (go1 (if cmpI c x.1 0 = true then jmp pc off else pc + 3) ls x.2 h)
  | .ifnull off => (popN st).bind fun x => gd (n == 3 && jok pc off) (go1 (if x.1 = none then jmp pc off else pc + 3) ls x.2 h)
  | .goto off => gd (n == 3 && jok pc off) (go1 (jmp pc off) ls st h)
  | .tableswitch dflt lo hi offs => (popI st).bind fun x => if x.1.toInt < lo ∨ hi < x.1.toInt then gd (jok pc dflt) (go1 (jmp pc dflt) ls x.2 h) else (offs[(x.1.toInt - lo).toNat]?).bind fun off => gd (jok pc off) (go1 (jmp pc off) ls x.2 h)
  | .lookupswitch dflt ps => (popI st).bind fun x => gd ((ps.toList.zip (ps.toList.drop 1)).all (fun (a, next) => a.1 < next.1) && jok pc (Op.lookupswitch.offset ps.toList dflt x.1.toInt)) (go1 (jmp pc (Op.lookupswitch.offset ps.toList dflt x.1.toInt)) ls x.2 h)
  | .getfield idx => (fRes M.2.2.2.2 idx).bind fun q => (popA st).bind fun x => gd (n == 3 && hK h x.1 == q.1) (go1 (pc + 3) ls (fP h x.1 q.1 q.2.1 :: x.2) h)
  | .putfield idx => (fRes M.2.2.2.2 idx).bind fun q =>
      if isRf (tyT q.1 q.2.1) = true then
        (popN st).bind fun v => (popA v.2).bind fun x => gd (n == 3 && hK h x.1 == q.1)
          (if (TT q.1 q.2.1).2.2.2 = true then gd (decide (M.1.name = "<init>") && decide ((TT q.1 q.2.1).1 = cnm M.2.2.2.2) && !q.2.2) (go1 (pc + 3) ls x.2 (stF h x.1 q.2.1 v.1)) else go1 (pc + 3) ls x.2 (stR h x.1 q.2.1 v.1))
      else (popI st).bind fun v => (popA v.2).bind fun x => gd (n == 3 && hK h x.1 == q.1 && fits (tyT q.1 q.2.1) (.int v.1) && !(TT q.1 q.2.1).2.2.2) (go1 (pc + 3) ls x.2 (stI h x.1 q.2.1 v.1))
  | .arraylength => (popA st).bind fun x => gd (n == 1 && decide (13 ≤ hK h x.1) && decide (hK h x.1 < 18)) (go1 (pc + 1) ls (.int (Int32.ofNat (hN h x.1)) :: x.2) h)
  | .iaload => (popI st).bind fun j => (popA j.2).bind fun x => gd (n == 1 && hK h x.1 == 14 && inb j.1 (hN h x.1)) (go1 (pc + 1) ls (.int (hI h x.1 j.1.toNatClampNeg) :: x.2) h)
  | .saload => (popI st).bind fun j => (popA j.2).bind fun x => gd (n == 1 && hK h x.1 == 16 && inb j.1 (hN h x.1)) (go1 (pc + 1) ls (.int (hI h x.1 j.1.toNatClampNeg) :: x.2) h)
  | .baload => (popI st).bind fun j => (popA j.2).bind fun x => gd (n == 1 && (hK h x.1 == 13 || hK h x.1 == 17) && inb j.1 (hN h x.1)) (go1 (pc + 1) ls (.int (hI h x.1 j.1.toNatClampNeg) :: x.2) h)
  | .laload => (popI st).bind fun j => (popA j.2).bind fun x => gd (n == 1 && hK h x.1 == 15 && inb j.1 (hN h x.1)) (go1 (pc + 1) ls (.long (hJ h x.1 j.1.toNatClampNeg) :: x.2) h)
  | .iastore => (popI st).bind fun v => (popI v.2).bind fun j => (popA j.2).bind fun x => gd (n == 1 && hK h x.1 == 14 && inb j.1 (hN h x.1)) (go1 (pc + 1) ls x.2 (stI h x.1 j.1.toNatClampNeg v.1))
  | .sastore => (popI st).bind fun v => (popI v.2).bind fun j => (popA j.2).bind fun x => gd (n == 1 && hK h x.1 == 16 && inb j.1 (hN h x.1)) (go1 (pc + 1) ls x.2 (stI h x.1 j.1.toNatClampNeg v.1.toInt16.toInt32))
  | .bastore => (popI st).bind fun v => (popI v.2).bind fun j => (popA j.2).bind fun x => gd (n == 1 && (hK h x.1 == 13 || hK h x.1 == 17) && inb j.1 (hN h x.1)) (go1 (pc + 1) ls x.2 (stI h x.1 j.1.toNatClampNeg (if hK h x.1 = 13 then v.1.toInt8.toInt32 else v.1 &&& 1)))
  | .lastore => (popL st).bind fun v => (popI v.2).bind fun j => (popA j.2).bind fun x => gd (n == 1 && hK h x.1 == 15 && inb j.1 (hN h x.1)) (go1 (pc + 1) ls x.2 (stJ h x.1 j.1.toNatClampNeg v.1))
  | .new idx => ((nCTab M.2.2.2.2).lookup idx).bind fun ci => gd (n == 3 && hAl h) (go1 (pc + 3) ls (.ref (hTop h) :: st) (hNew h ci (NN ci)))
  | .newarray t => (popI st).bind fun x => gd (n == 2 && hAl h && decide (akd t < 18) && !(decide (x.1 < 0)) && decide (x.1.toNatClampNeg ≤ 60000)) (go1 (pc + 2) ls (.ref (hTop h) :: x.2) (hNew h (akd t) x.1.toNatClampNeg))
  | .invokevirtual idx => gd (n == 3) (cal O M.2.2.2.2 idx pc ls st h 0)
  | .invokestatic idx => gd (n == 3) (match (aCTab M.2.2.2.2).lookup idx with
      | some _ => (popI st).bind fun k => (popI k.2).bind fun dp => (popA dp.2).bind fun d => (popI d.2).bind fun sp => (popA sp.2).bind fun s =>
          gd (hK h d.1 == 14 && hK h s.1 == 14 && !(decide (k.1 < 0)) && !(decide (dp.1 < 0)) && !(decide (sp.1 < 0)) && decide (sp.1.toNatClampNeg + k.1.toNatClampNeg ≤ hN h s.1) && decide (dp.1.toNatClampNeg + k.1.toNatClampNeg ≤ hN h d.1) && w8 s.2)
            (go1 (pc + 3) ls s.2 (stA h d.1 (va_cpy (hI h s.1) (hI h d.1) sp.1.toNatClampNeg dp.1.toNatClampNeg k.1.toNatClampNeg)))
      | none => cal O M.2.2.2.2 idx pc ls st h 1)
  | .invokespecial idx => gd (n == 3) (match (oITab M.2.2.2.2).lookup idx with
      | some _ => (popA st).bind fun x => gd (w8 x.2) (go1 (pc + 3) ls x.2 h)
      | none => cal O M.2.2.2.2 idx pc ls st h 2)
  | .ireturn => (popI st).bind fun x => match M.2.2.2.1 with
      | some .int => gd (n == 1 && x.2.isEmpty) (some (.inr (some (.int x.1), h)))
      | some .boolean => gd (n == 1 && x.2.isEmpty && fits .boolean (.int x.1)) (some (.inr (some (.int x.1), h)))
      | _ => none
  | .lreturn => (popL st).bind fun x => gd (n == 1 && x.2.isEmpty && decide (M.2.2.2.1 = some .long)) (some (.inr (some (.long x.1), h)))
  | .areturn => (popN st).bind fun x => gd (n == 1 && x.2.isEmpty && decide (M.2.2.2.1 = some (.array .int))) (some (.inr (some (va_rf x.1), h)))
  | .return_ => gd (n == 1 && st.isEmpty && decide (M.2.2.2.1 = none)) (some (.inr (none, h)))
  | _ => none
def stp (O : Orc) (M : Mth) (c : Cf) : Option (Cf ⊕ Rs) := match decode M.2.1 c.1 with
  | .ok (i, n) => ex1 O M i n c.1 c.2.1 c.2.2.1 c.2.2.2
  | .error _ => none
theorem stp_of {O : Orc} {M : Mth} {pc n : Nat} {ls : Lc} {st : List Value} {h : Hp} {i : Instr} {o : Option (Cf ⊕ Rs)} (hd : decode M.2.1 pc = .ok (i, n)) (he : ex1 O M i n pc ls st h = o) : stp O M (pc, ls, st, h) = o := by
  unfold stp
  simp only [hd]
  exact he
def runs (O : Orc) (M : Mth) : Nat → Cf → Option Rs
  | 0, _ => none
  | n + 1, c => match stp O M c with
    | some (.inl c') => runs O M n c'
    | some (.inr r) => some r
    | none => none
theorem runs_up {O : Orc} {M : Mth} : ∀ (n : Nat) (c : Cf) (r : Rs), runs O M n c = some r → runs O M (n + 1) c = some r
  | 0, c, r, h => by cases h
  | n + 1, c, r, h => by
    unfold runs at h ⊢
    split at h
    · next c' e => exact runs_up n c' r h
    · exact h
    · cases h
theorem runs_le {O : Orc} {M : Mth} {n : Nat} {c : Cf} {r : Rs} (h : runs O M n c = some r) : ∀ k, runs O M (n + k) c = some r
  | 0 => h
  | k + 1 => runs_up _ _ _ (runs_le h k)
theorem runs_one {O : Orc} {M : Mth} {n m : Nat} {c : Cf} {r r' : Rs} (h : runs O M n c = some r) (h' : runs O M m c = some r') : r = r' := by
  have a := runs_le h m
  have b := runs_le h' n
  rw [Nat.add_comm] at b
  rw [a] at b
  exact Option.some.inj b
noncomputable def E (O : Orc) (M : Mth) (pc : Nat) (ls : Lc) (st : List Value) (h : Hp) : Option Rs :=
  @dite (Option Rs) (∃ (r : Rs) (n : Nat), runs O M n (pc, ls, st, h) = some r) (Classical.propDecidable _) (fun hx => some (Classical.choose hx)) (fun _ => none)
theorem E_iff {O : Orc} {M : Mth} {pc : Nat} {ls : Lc} {st : List Value} {h : Hp} {r : Rs} : E O M pc ls st h = some r ↔ ∃ n, runs O M n (pc, ls, st, h) = some r := by
  unfold E
  constructor
  · intro e
    split at e
    · next hx =>
      obtain ⟨n, hn⟩ := Classical.choose_spec hx
      exact ⟨n, by rw [hn]; exact e⟩
    · cases e
  · rintro ⟨n, hn⟩
    have hx : ∃ (r : Rs) (n : Nat), runs O M n (pc, ls, st, h) = some r := ⟨r, n, hn⟩
    rw [dif_pos hx]
    obtain ⟨m, hm⟩ := Classical.choose_spec hx
    rw [runs_one hm hn]
theorem opt_ext {α : Type} {a b : Option α} (h : ∀ r, a = some r ↔ b = some r) : a = b := by
  cases a with
  | none =>
    cases b with
    | none => rfl
    | some y => exact absurd ((h y).mpr rfl) (by simp)
  | some x => exact ((h x).mp rfl).symm
theorem E_step {O : Orc} {M : Mth} {pc pc' : Nat} {ls ls' : Lc} {st st' : List Value} {h h' : Hp} (hs : stp O M (pc, ls, st, h) = some (.inl (pc', ls', st', h'))) : E O M pc ls st h = E O M pc' ls' st' h' := by
  refine opt_ext fun r => ?_
  rw [E_iff, E_iff]
  constructor
  · rintro ⟨n, hn⟩
    cases n with
    | zero => cases hn
    | succ n =>
      unfold runs at hn
      rw [hs] at hn
      exact ⟨n, hn⟩
  · rintro ⟨n, hn⟩
    refine ⟨n + 1, ?_⟩
    unfold runs
    rw [hs]
    exact hn
theorem E_end {O : Orc} {M : Mth} {pc : Nat} {ls : Lc} {st : List Value} {h : Hp} {r : Rs} (hs : stp O M (pc, ls, st, h) = some (.inr r)) : E O M pc ls st h = some r := by
  refine E_iff.mpr ⟨1, ?_⟩
  unfold runs
  rw [hs]
theorem E_no {O : Orc} {M : Mth} {pc : Nat} {ls : Lc} {st : List Value} {h : Hp} (hs : stp O M (pc, ls, st, h) = none) : E O M pc ls st h = none := by
  refine opt_ext fun r => ?_
  rw [E_iff]
  constructor
  · rintro ⟨n, hn⟩
    cases n with
    | zero => cases hn
    | succ n =>
      unfold runs at hn
      rw [hs] at hn
      cases hn
  · intro h
    cases h
/-- the locals at a method's start -/
def entA : List Value → Lc
  | [] => []
  | .long x :: r => some (.long x) :: none :: entA r
  | .double x :: r => some (.double x) :: none :: entA r
  | v :: r => some v :: entA r
def entL (n : Nat) (as : List Value) : Lc := entA as ++ List.replicate (n - (entA as).length) none
/-- methods of which only the answer is told (own number from 100 on) -/
def extF (d : Nat) (_M : Mth) (_as : List Value) (_h : Hp) : Option Rs := gd (decide (100 < d)) none
noncomputable def C : Nat → Orc
  | 0 => fun _ _ _ => none
  | d + 1 => fun M as h => if 100 ≤ M.2.2.2.2 then extF d M as h else gd (decide ((entA as).length ≤ M.2.2.1)) (E (C d) M 0 (entL M.2.2.1 as) [] h)

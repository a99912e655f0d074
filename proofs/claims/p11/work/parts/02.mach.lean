/-! AN ABSTRACT MACHINE. Cells in a list, references are places in it (0: the script; i + 1: cell i); a method's run is a FUNCTION (am_run). Part 03 proves once that what it answers, the machine does (W). All else is said of am_run alone. -/
/-- a cell: an array (tag: 0 int, 1 byte, 2 boolean, 3 long, c + 4 of references to kind c; length; contents), or an object (kind, fields) -/
abbrev am_C : Type := (Nat × Nat × ((Nat → Int32) ⊕ ((Nat → Int64) ⊕ (Nat → Option Nat)))) ⊕ (Nat × List Value)
abbrev am_H : Type := List am_C
abbrev am_L : Type := List (Nat × Value)
/-- an entry of the table: kind, instruction, length, two numbers, a constant, a switch's rows, the locals that live here -/
abbrev am_I : Type := Nat × Jvm.ClassFile.Instr × Nat × Nat × Nat × Value × List (Int32 × Nat) × Option (List Nat)
/-- a method: name, bytes, locals, what it returns, the room that its calls take (frames, words), the number of its kind -/
abbrev am_M : Type := MethodName × ByteArray × Nat × Option FieldType × (Nat × Nat) × Nat
/-- the fields' types by kind and place; the fields of a new object -/
abbrev am_P : Type := (Nat → Nat → FieldType) × (Nat → List Value)
def am_get (h : am_H) (i : Nat) : Option am_C := match i with
  | 0 => none
  | i + 1 => h[i]?
def am_set (h : am_H) (i : Nat) (c : am_C) : am_H := match i with
  | 0 => h
  | i + 1 => h.set i c
def am_rf (r : Option Nat) : Value := match r with
  | none => .null
  | some q => .ref q
def am_ld (lv : am_L) (i : Nat) : Option Value := match lv with
  | [] => none
  | q :: l => bif Nat.beq q.1 i then some q.2 else am_ld l i
def am_ins (i : Nat) (v : Value) : am_L → am_L
  | [] => [(i, v)]
  | q :: l => bif Nat.ble i q.1 then (i, v) :: q :: l else q :: am_ins i v l
def am_st1 (lv : am_L) (i : Nat) (v : Value) : am_L := am_ins i v (lv.filter (fun q => !(q.1 == i) && !(q.1 + 1 == i && q.2.category == 2)))
def am_st2 (lv : am_L) (i : Nat) (v : Value) : am_L := am_ins i v (lv.filter (fun q => !(q.1 == i) && (!(q.1 == i + 1) && !(q.1 + 1 == i && q.2.category == 2))))
def am_live (lm : Option (List Nat)) (lv : am_L) : am_L := match lm with
  | none => lv
  | some m => lv.filter (fun q => m.contains q.1)
/-- values from the stack alone -/
def am_pure (ins : Jvm.ClassFile.Instr) (v : Value) (st : List Value) : Option (List Value) := match ins, st with
  | .aconst_null, st => some (.null :: st)
  | .iconst _, st => some (v :: st)
  | .bipush _, st => some (v :: st)
  | .sipush _, st => some (v :: st)
  | .lconst _, st => some (v :: st)
  | .ldc _, st => some (v :: st)
  | .ldc2_w _, st => some (v :: st)
  | .iadd, .int y :: .int x :: st => some (.int (x + y) :: st)
  | .isub, .int y :: .int x :: st => some (.int (x - y) :: st)
  | .imul, .int y :: .int x :: st => some (.int (x * y) :: st)
  | .iand, .int y :: .int x :: st => some (.int (x &&& y) :: st)
  | .ior, .int y :: .int x :: st => some (.int (x ||| y) :: st)
  | .ixor, .int y :: .int x :: st => some (.int (x ^^^ y) :: st)
  | .idiv, .int y :: .int x :: st => if y = 0 then none else some (.int (x / y) :: st)
  | .irem, .int y :: .int x :: st => if y = 0 then none else some (.int (x - x / y * y) :: st)
  | .ineg, .int x :: st => some (.int (-x) :: st)
  | .ishl, .int y :: .int x :: st => some (.int (x <<< (y &&& 31)) :: st)
  | .ishr, .int y :: .int x :: st => some (.int (x >>> (y &&& 31)) :: st)
  | .iushr, .int y :: .int x :: st => some (.int ((x.toUInt32 >>> (y.toUInt32 &&& Int32.toUInt32 31)).toInt32) :: st)
  | .ladd, .long y :: .long x :: st => some (.long (x + y) :: st)
  | .lsub, .long y :: .long x :: st => some (.long (x - y) :: st)
  | .lmul, .long y :: .long x :: st => some (.long (x * y) :: st)
  | .land, .long y :: .long x :: st => some (.long (x &&& y) :: st)
  | .lor, .long y :: .long x :: st => some (.long (x ||| y) :: st)
  | .lxor, .long y :: .long x :: st => some (.long (x ^^^ y) :: st)
  | .ldiv, .long y :: .long x :: st => if y = 0 then none else some (.long (x / y) :: st)
  | .lrem, .long y :: .long x :: st => if y = 0 then none else some (.long (x - x / y * y) :: st)
  | .lneg, .long x :: st => some (.long (-x) :: st)
  | .lshl, .int y :: .long x :: st => some (.long (x <<< (y.toInt64 &&& 63)) :: st)
  | .lshr, .int y :: .long x :: st => some (.long (x >>> (y.toInt64 &&& 63)) :: st)
  | .lushr, .int y :: .long x :: st => some (.long ((x.toUInt64 >>> (y.toInt64.toUInt64 &&& Int64.toUInt64 63)).toInt64) :: st)
  | .lcmp, .long y :: .long x :: st => some (.int (lg_cmp x y) :: st)
  | .i2l, .int x :: st => some (.long x.toInt64 :: st)
  | .l2i, .long x :: st => some (.int x.toInt32 :: st)
  | .i2b, .int x :: st => some (.int x.toInt8.toInt32 :: st)
  | .i2s, .int x :: st => some (.int x.toInt16.toInt32 :: st)
  | .i2c, .int x :: st => some (.int (x.toUInt32 % 65536).toInt32 :: st)
  | .pop, a :: st => if a.category = 1 then some st else none
  | .dup, a :: st => if a.category = 1 then some (a :: a :: st) else none
  | .dup_x1, a :: b :: st => if a.category = 1 ∧ b.category = 1 then some (a :: b :: a :: st) else none
  | .dup_x2, a :: b :: d :: st => if a.category = 1 ∧ b.category = 1 ∧ d.category = 1 then some (a :: b :: d :: a :: st) else none
  | .pop2, a :: st => if a.category = 2 then some st else none
  | .dup2, a :: st => if a.category = 2 then some (a :: a :: st) else match st with
    | b :: st => if a.category = 1 ∧ b.category = 1 then some (a :: b :: a :: b :: st) else none
    | [] => none
  | .dup2_x1, a :: b :: st => if a.category = 2 ∧ b.category = 1 then some (a :: b :: a :: st) else none
  | .dup2_x2, a :: b :: d :: st => if a.category = 2 ∧ b.category = 1 ∧ d.category = 1 then some (a :: b :: d :: a :: st) else none
  | _, _ => none
/-- locals; nL: how many there are -/
def am_loc (ins : Jvm.ClassFile.Instr) (v : Value) (nL : Nat) (lv : am_L) (st : List Value) : Option (am_L × List Value) := match ins, st with
  | .iload_n k, st => match am_ld lv k with
    | some (.int x) => some (lv, .int x :: st)
    | _ => none
  | .iload k, st => match am_ld lv k with
    | some (.int x) => some (lv, .int x :: st)
    | _ => none
  | .lload_n k, st => match am_ld lv k with
    | some (.long x) => some (lv, .long x :: st)
    | _ => none
  | .lload k, st => match am_ld lv k with
    | some (.long x) => some (lv, .long x :: st)
    | _ => none
  | .aload_n k, st => match am_ld lv k with
    | some (.ref x) => some (lv, .ref x :: st)
    | some .null => some (lv, .null :: st)
    | _ => none
  | .aload k, st => match am_ld lv k with
    | some (.ref x) => some (lv, .ref x :: st)
    | some .null => some (lv, .null :: st)
    | _ => none
  | .istore_n k, .int x :: st => if k < nL then some (am_st1 lv k (.int x), st) else none
  | .istore k, .int x :: st => if k < nL then some (am_st1 lv k (.int x), st) else none
  | .lstore_n k, .long x :: st => if k + 1 < nL then some (am_st2 lv k (.long x), st) else none
  | .lstore k, .long x :: st => if k + 1 < nL then some (am_st2 lv k (.long x), st) else none
  | .astore_n k, .ref x :: st => if k < nL then some (am_st1 lv k (.ref x), st) else none
  | .astore_n k, .null :: st => if k < nL then some (am_st1 lv k .null, st) else none
  | .astore k, .ref x :: st => if k < nL then some (am_st1 lv k (.ref x), st) else none
  | .astore k, .null :: st => if k < nL then some (am_st1 lv k .null, st) else none
  | .iinc k _, st => match v, am_ld lv k with
    | .int d, some (.int x) => if k < nL then some (am_st1 lv k (.int (x + d)), st) else none
    | _, _ => none
  | _, _ => none
def am_sw (d : Nat) (x : Int32) : List (Int32 × Nat) → Nat
  | [] => d
  | q :: r => if x = q.1 then q.2 else am_sw d x r
/-- jumps: t the place named, nx the next one -/
def am_jump (ins : Jvm.ClassFile.Instr) (t nx : Nat) (sw : List (Int32 × Nat)) (st : List Value) : Option (Nat × List Value) := match ins, st with
  | .goto _, st => some (t, st)
  | .ifCond .eq _, .int x :: st => some (if x = 0 then t else nx, st)
  | .ifCond .ne _, .int x :: st => some (if x = 0 then nx else t, st)
  | .ifCond .lt _, .int x :: st => some (if x < 0 then t else nx, st)
  | .ifCond .ge _, .int x :: st => some (if 0 ≤ x then t else nx, st)
  | .ifCond .gt _, .int x :: st => some (if 0 < x then t else nx, st)
  | .ifCond .le _, .int x :: st => some (if x ≤ 0 then t else nx, st)
  | .if_icmp .eq _, .int y :: .int x :: st => some (if x = y then t else nx, st)
  | .if_icmp .ne _, .int y :: .int x :: st => some (if x = y then nx else t, st)
  | .if_icmp .lt _, .int y :: .int x :: st => some (if x < y then t else nx, st)
  | .if_icmp .ge _, .int y :: .int x :: st => some (if y ≤ x then t else nx, st)
  | .if_icmp .gt _, .int y :: .int x :: st => some (if y < x then t else nx, st)
  | .if_icmp .le _, .int y :: .int x :: st => some (if x ≤ y then t else nx, st)
  | .ifnull _, .null :: st => some (t, st)
  | .ifnull _, .ref _ :: st => some (nx, st)
  | .ifnonnull _, .null :: st => some (nx, st)
  | .ifnonnull _, .ref _ :: st => some (t, st)
  | .tableswitch _ _ _ _, .int x :: st => some (am_sw t x sw, st)
  | .lookupswitch _ _, .int x :: st => some (am_sw t x sw, st)
  | _, _ => none
def am_in (j : Int32) (n : Nat) : Bool := !(decide (j < 0)) && decide (j.toNatClampNeg < n)
/-- the heap -/
def am_heap (P : am_P) (L : Nat) (xs : Nat → Int32) (ins : Jvm.ClassFile.Instr) (a1 a2 : Nat) (st : List Value) (h : am_H) : Option (List Value × am_H) := match ins, st with
  | .getfield _, .ref i :: st => match am_get h i with
    | some (.inr (ci, fs)) => if ci = a1 then match fs[a2]? with
      | some v => some (v :: st, h)
      | none => none
      else none
    | _ => none
  | .putfield _, v :: .ref i :: st => match am_get h i with
    | some (.inr (ci, fs)) => if ci = a1 ∧ a2 < fs.length ∧ narrow (P.1 a1 a2) v = v ∧ fits (P.1 a1 a2) v = true then some (st, am_set h i (.inr (ci, fs.set a2 v))) else none
    | _ => none
  | .new _, st => some (.ref (h.length + 1) :: st, h ++ [.inr (a1, P.2 a1)])
  | .newarray .int, .int n :: st => if n < 0 ∨ 1048576 < n.toNatClampNeg then none else some (.ref (h.length + 1) :: st, h ++ [.inl (0, n.toNatClampNeg, .inl (fun _ => 0))])
  | .newarray .byte, .int n :: st => if n < 0 ∨ 1048576 < n.toNatClampNeg then none else some (.ref (h.length + 1) :: st, h ++ [.inl (1, n.toNatClampNeg, .inl (fun _ => 0))])
  | .newarray .boolean, .int n :: st => if n < 0 ∨ 1048576 < n.toNatClampNeg then none else some (.ref (h.length + 1) :: st, h ++ [.inl (2, n.toNatClampNeg, .inl (fun _ => 0))])
  | .newarray .long, .int n :: st => if n < 0 ∨ 1048576 < n.toNatClampNeg then none else some (.ref (h.length + 1) :: st, h ++ [.inl (3, n.toNatClampNeg, .inr (.inl (fun _ => 0)))])
  | .anewarray _, .int n :: st => if n < 0 ∨ 1048576 < n.toNatClampNeg then none else some (.ref (h.length + 1) :: st, h ++ [.inl (a1 + 4, n.toNatClampNeg, .inr (.inr (fun _ => none)))])
  | .arraylength, .ref i :: st => if i = 0 then some (.int (Int32.ofNat L) :: st, h) else match am_get h i with
    | some (.inl (t, n, _)) => if t = a1 then some (.int (Int32.ofNat n) :: st, h) else none
    | _ => none
  | .iaload, .int j :: .ref i :: st => if i = 0 then (if am_in j L = true then some (.int (xs j.toNatClampNeg) :: st, h) else none) else match am_get h i with
    | some (.inl (t, n, .inl f)) => if t = 0 ∧ am_in j n = true then some (.int (f j.toNatClampNeg) :: st, h) else none
    | _ => none
  | .baload, .int j :: .ref i :: st => match am_get h i with
    | some (.inl (t, n, .inl f)) => if t = a1 ∧ am_in j n = true then some (.int (f j.toNatClampNeg) :: st, h) else none
    | _ => none
  | .laload, .int j :: .ref i :: st => match am_get h i with
    | some (.inl (t, n, .inr (.inl f))) => if t = 3 ∧ am_in j n = true then some (.long (f j.toNatClampNeg) :: st, h) else none
    | _ => none
  | .aaload, .int j :: .ref i :: st => match am_get h i with
    | some (.inl (t, n, .inr (.inr f))) => if t = a1 + 4 ∧ am_in j n = true then some (am_rf (f j.toNatClampNeg) :: st, h) else none
    | _ => none
  | .iastore, .int x :: .int j :: .ref i :: st => match am_get h i with
    | some (.inl (t, n, .inl f)) => if t = 0 ∧ am_in j n = true then some (st, am_set h i (.inl (t, n, .inl (upd f j.toNatClampNeg x)))) else none
    | _ => none
  | .bastore, .int x :: .int j :: .ref i :: st => match am_get h i with
    | some (.inl (t, n, .inl f)) => if t = a1 ∧ am_in j n = true then some (st, am_set h i (.inl (t, n, .inl (upd f j.toNatClampNeg (vp_nar (if a1 = 1 then .byte else .boolean) x))))) else none
    | _ => none
  | .lastore, .long x :: .int j :: .ref i :: st => match am_get h i with
    | some (.inl (t, n, .inr (.inl f))) => if t = 3 ∧ am_in j n = true then some (st, am_set h i (.inl (t, n, .inr (.inl (vp_updL f j.toNatClampNeg x))))) else none
    | _ => none
  | .aastore, .ref w :: .int j :: .ref i :: st => match am_get h i, am_get h w with
    | some (.inl (t, n, .inr (.inr f))), some (.inr (ci, _)) => if t = ci + 4 ∧ ci = a1 ∧ am_in j n = true then some (st, am_set h i (.inl (t, n, .inr (.inr (va_up f j.toNatClampNeg (some w)))))) else none
    | _, _ => none
  | .invokespecial _, .ref _ :: st => if (st.map fun v => v.category).sum ≤ 8 then some (st, h) else none
  | .invokestatic _, .int n :: .int dp :: st => if a1 = 1 then (if (st.map fun v => v.category).sum ≤ 8 then some (.int (if dp < n then n else dp) :: st, h) else none) else if a1 = 2 then (if (st.map fun v => v.category).sum ≤ 8 then some (.int (if n < dp then n else dp) :: st, h) else none) else match st with
    | .ref d :: .int sp :: .ref sr :: st => match am_get h sr, am_get h d with
      | some (.inl (t0, n0, .inl f)), some (.inl (t1, n1, .inl g)) => if t0 = 1 ∧ t1 = 1 ∧ ¬ sp < 0 ∧ ¬ dp < 0 ∧ ¬ n < 0 ∧ sp.toNatClampNeg + n.toNatClampNeg ≤ n0 ∧ dp.toNatClampNeg + n.toNatClampNeg ≤ n1 ∧ (st.map fun v => v.category).sum ≤ 8 ∧ (∀ i, i < n.toNatClampNeg → fits .byte (.int (f (sp.toNatClampNeg + i))) = true) then some (st, am_set h d (.inl (t1, n1, .inl (va_cpy f g sp.toNatClampNeg dp.toNatClampNeg n.toNatClampNeg)))) else none
      | _, _ => none
    | _ => none
  | _, _ => none
/-- a call: the arguments, the rest of the stack -/
def am_call (ins : Jvm.ClassFile.Instr) (ci mL a2 : Nat) (st : List Value) (h : am_H) : Option (List Value × List Value) :=
  if a2 ≤ st.length ∧ ((st.drop a2).map fun v => v.category).sum ≤ 8 ∧ (((st.take a2).reverse).map fun v => v.category).sum ≤ mL then match ins, (st.take a2).reverse with
    | .invokestatic _, as => some (as, st.drop a2)
    | .invokespecial _, .ref i :: as => some (.ref i :: as, st.drop a2)
    | .invokevirtual _, .ref i :: as => match am_get h i with
      | some (.inr (cj, _)) => if cj = ci then some (.ref i :: as, st.drop a2) else none
      | _ => none
    | _, _ => none
  else none
def am_ret (ins : Jvm.ClassFile.Instr) (rt : Option FieldType) (st : List Value) : Option (Option Value) := match ins, rt, st with
  | .ireturn, some ty, [.int v] => if narrow ty (.int v) = .int v then some (some (.int v)) else none
  | .lreturn, some .long, [.long v] => some (some (.long v))
  | .areturn, some (.object _), [.ref v] => some (some (.ref v))
  | .areturn, some (.object _), [.null] => some (some .null)
  | .areturn, some (.array _), [.ref v] => some (some (.ref v))
  | .areturn, some (.array _), [.null] => some (some .null)
  | .return_, none, [] => some none
  | _, _, _ => none
/-- THE RUN of a method from a place on, with fuel -/
def am_run (P : am_P) (T : Nat → Nat → Option am_I) (mt : Nat → am_M) (L : Nat) (xs : Nat → Int32) : Nat → Nat → Nat → am_L → List Value → am_H → Option (Option Value × am_H)
  | 0, _, _, _, _, _ => none
  | n + 1, mi, pc, lv, st, h => match T mi pc with
    | none => none
    | some (k, ins, len, a1, a2, v, sw, lm) => match k with
      | 0 => match am_pure ins v st with
        | none => none
        | some st' => am_run P T mt L xs n mi (pc + len) (am_live lm lv) st' h
      | 1 => match am_loc ins v (mt mi).2.2.1 (am_live lm lv) st with
        | none => none
        | some (lv', st') => am_run P T mt L xs n mi (pc + len) lv' st' h
      | 2 => match am_jump ins a1 (pc + len) sw st with
        | none => none
        | some (pc', st') => am_run P T mt L xs n mi pc' (am_live lm lv) st' h
      | 3 => match am_heap P L xs ins a1 a2 st h with
        | none => none
        | some (st', h') => am_run P T mt L xs n mi (pc + len) (am_live lm lv) st' h'
      | 4 => match am_call ins (mt a1).2.2.2.2.2 (mt a1).2.2.1 a2 st h with
        | none => none
        | some (as, st') => match am_run P T mt L xs n a1 0 (lv_args 0 as) [] h with
          | none => none
          | some (rv, h') => am_run P T mt L xs n mi (pc + len) (am_live lm lv) (rv.toList ++ st') h'
      | _ => match am_ret ins (mt mi).2.2.2.1 st with
        | none => none
        | some rv => some (rv, h)

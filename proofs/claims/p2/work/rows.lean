section
/-! AN ABSTRACT MACHINE. Cells in a list, references are places in it (0: the script; i + 1: cell i); a method's run is a FUNCTION (am_run). Part 03 proves once that what it answers, the machine does (W). All else is said of am_run alone. -/
/-- a cell: an array (tag: 0 int, 1 byte, 2 boolean, 3 long, c + 4 of references to kind c; length; contents), or an object (kind, fields) -/
abbrev am_C : Type := (Nat × Nat × ((Nat → Int32) ⊕ ((Nat → Int64) ⊕ (Nat → Option Nat)))) ⊕ (Nat × List Value)
abbrev am_H : Type := List am_C
abbrev am_L : Type := List (Nat × Value)
/-- an entry of the table: kind, instruction, length, two numbers, a constant, a switch's rows, the locals that live here -/
abbrev am_I : Type := Nat × Jvm.ClassFile.Instr × Nat × Nat × Nat × Value × List (Int32 × Nat) × Option (List Nat)
/-- a method: name, bytes, locals, what it returns, the room that its calls take (frames, words), the number of its kind -/
abbrev am_M : Type := MethodName × ByteArray × Nat × Option FieldType × (Nat × Nat) × Nat
/-- the fields' types by kind and place; the fields of a new object -/
abbrev am_P : Type := (Nat → Nat → FieldType) × (Nat → List Value)
def am_get (h : am_H) (i : Nat) : Option am_C := match i with
  | 0 => none
  | i + 1 => h[i]?
def am_set (h : am_H) (i : Nat) (c : am_C) : am_H := match i with
  | 0 => h
  | i + 1 => h.set i c
def am_rf (r : Option Nat) : Value := match r with
  | none => .null
  | some q => .ref q
def am_ld (lv : am_L) (i : Nat) : Option Value := match lv with
  | [] => none
  | q :: l => bif Nat.beq q.1 i then some q.2 else am_ld l i
def am_ins (i : Nat) (v : Value) : am_L → am_L
  | [] => [(i, v)]
  | q :: l => bif Nat.ble i q.1 then (i, v) :: q :: l else q :: am_ins i v l
def am_st1 (lv : am_L) (i : Nat) (v : Value) : am_L := am_ins i v (lv.filter (fun q => !(q.1 == i) && !(q.1 + 1 == i && q.2.category == 2)))
def am_st2 (lv : am_L) (i : Nat) (v : Value) : am_L := am_ins i v (lv.filter (fun q => !(q.1 == i) && (!(q.1 == i + 1) && !(q.1 + 1 == i && q.2.category == 2))))
def am_live (lm : Option (List Nat)) (lv : am_L) : am_L := match lm with
  | none => lv
  | some m => lv.filter (fun q => m.contains q.1)
/-- values from the stack alone -/
def am_pure (ins : Jvm.ClassFile.Instr) (v : Value) (st : List Value) : Option (List Value) := match ins, st with
  | .aconst_null, st => some (.null :: st)
  | .iconst _, st => some (v :: st)
  | .bipush _, st => some (v :: st)
  | .sipush _, st => some (v :: st)
  | .lconst _, st => some (v :: st)
  | .ldc _, st => some (v :: st)
  | .ldc2_w _, st => some (v :: st)
  | .iadd, .int y :: .int x :: st => some (.int (x + y) :: st)
  | .isub, .int y :: .int x :: st => some (.int (x - y) :: st)
  | .imul, .int y :: .int x :: st => some (.int (x * y) :: st)
  | .iand, .int y :: .int x :: st => some (.int (x &&& y) :: st)
  | .ior, .int y :: .int x :: st => some (.int (x ||| y) :: st)
  | .ixor, .int y :: .int x :: st => some (.int (x ^^^ y) :: st)
  | .idiv, .int y :: .int x :: st => if y = 0 then none else some (.int (x / y) :: st)
  | .irem, .int y :: .int x :: st => if y = 0 then none else some (.int (x - x / y * y) :: st)
  | .ineg, .int x :: st => some (.int (-x) :: st)
  | .ishl, .int y :: .int x :: st => some (.int (x <<< (y &&& 31)) :: st)
  | .ishr, .int y :: .int x :: st => some (.int (x >>> (y &&& 31)) :: st)
  | .iushr, .int y :: .int x :: st => some (.int ((x.toUInt32 >>> (y.toUInt32 &&& Int32.toUInt32 31)).toInt32) :: st)
  | .ladd, .long y :: .long x :: st => some (.long (x + y) :: st)
  | .lsub, .long y :: .long x :: st => some (.long (x - y) :: st)
  | .lmul, .long y :: .long x :: st => some (.long (x * y) :: st)
  | .land, .long y :: .long x :: st => some (.long (x &&& y) :: st)
  | .lor, .long y :: .long x :: st => some (.long (x ||| y) :: st)
  | .lxor, .long y :: .long x :: st => some (.long (x ^^^ y) :: st)
  | .ldiv, .long y :: .long x :: st => if y = 0 then none else some (.long (x / y) :: st)
  | .lrem, .long y :: .long x :: st => if y = 0 then none else some (.long (x - x / y * y) :: st)
  | .lneg, .long x :: st => some (.long (-x) :: st)
  | .lshl, .int y :: .long x :: st => some (.long (x <<< (y.toInt64 &&& 63)) :: st)
  | .lshr, .int y :: .long x :: st => some (.long (x >>> (y.toInt64 &&& 63)) :: st)
  | .lushr, .int y :: .long x :: st => some (.long ((x.toUInt64 >>> (y.toInt64.toUInt64 &&& Int64.toUInt64 63)).toInt64) :: st)
  | .lcmp, .long y :: .long x :: st => some (.int (lg_cmp x y) :: st)
  | .i2l, .int x :: st => some (.long x.toInt64 :: st)
  | .l2i, .long x :: st => some (.int x.toInt32 :: st)
  | .i2b, .int x :: st => some (.int x.toInt8.toInt32 :: st)
  | .i2s, .int x :: st => some (.int x.toInt16.toInt32 :: st)
  | .i2c, .int x :: st => some (.int (x.toUInt32 % 65536).toInt32 :: st)
  | .pop, a :: st => if a.category = 1 then some st else none
  | .dup, a :: st => if a.category = 1 then some (a :: a :: st) else none
  | .dup_x1, a :: b :: st => if a.category = 1 ∧ b.category = 1 then some (a :: b :: a :: st) else none
  | .dup_x2, a :: b :: d :: st => if a.category = 1 ∧ b.category = 1 ∧ d.category = 1 then some (a :: b :: d :: a :: st) else none
  | .pop2, a :: st => if a.category = 2 then some st else none
  | .dup2, a :: st => if a.category = 2 then some (a :: a :: st) else match st with
    | b :: st => if a.category = 1 ∧ b.category = 1 then some (a :: b :: a :: b :: st) else none
    | [] => none
  | .dup2_x1, a :: b :: st => if a.category = 2 ∧ b.category = 1 then some (a :: b :: a :: st) else none
  | .dup2_x2, a :: b :: d :: st => if a.category = 2 ∧ b.category = 1 ∧ d.category = 1 then some (a :: b :: d :: a :: st) else none
  | _, _ => none
/-- locals; nL: how many there are -/
def am_loc (ins : Jvm.ClassFile.Instr) (v : Value) (nL : Nat) (lv : am_L) (st : List Value) : Option (am_L × List Value) := match ins, st with
  | .iload_n k, st => match am_ld lv k with
    | some (.int x) => some (lv, .int x :: st)
    | _ => none
  | .iload k, st => match am_ld lv k with
    | some (.int x) => some (lv, .int x :: st)
    | _ => none
  | .lload_n k, st => match am_ld lv k with
    | some (.long x) => some (lv, .long x :: st)
    | _ => none
  | .lload k, st => match am_ld lv k with
    | some (.long x) => some (lv, .long x :: st)
    | _ => none
  | .aload_n k, st => match am_ld lv k with
    | some (.ref x) => some (lv, .ref x :: st)
    | some .null => some (lv, .null :: st)
    | _ => none
  | .aload k, st => match am_ld lv k with
    | some (.ref x) => some (lv, .ref x :: st)
    | some .null => some (lv, .null :: st)
    | _ => none
  | .istore_n k, .int x :: st => if k < nL then some (am_st1 lv k (.int x), st) else none
  | .istore k, .int x :: st => if k < nL then some (am_st1 lv k (.int x), st) else none
  | .lstore_n k, .long x :: st => if k + 1 < nL then some (am_st2 lv k (.long x), st) else none
  | .lstore k, .long x :: st => if k + 1 < nL then some (am_st2 lv k (.long x), st) else none
  | .astore_n k, .ref x :: st => if k < nL then some (am_st1 lv k (.ref x), st) else none
  | .astore_n k, .null :: st => if k < nL then some (am_st1 lv k .null, st) else none
  | .astore k, .ref x :: st => if k < nL then some (am_st1 lv k (.ref x), st) else none
  | .astore k, .null :: st => if k < nL then some (am_st1 lv k .null, st) else none
  | .iinc k _, st => match v, am_ld lv k with
    | .int d, some (.int x) => if k < nL then some (am_st1 lv k (.int (x + d)), st) else none
    | _, _ => none
  | _, _ => none
def am_sw (d : Nat) (x : Int32) : List (Int32 × Nat) → Nat
  | [] => d
  | q :: r => if x = q.1 then q.2 else am_sw d x r
/-- jumps: t the place named, nx the next one -/
def am_jump (ins : Jvm.ClassFile.Instr) (t nx : Nat) (sw : List (Int32 × Nat)) (st : List Value) : Option (Nat × List Value) := match ins, st with
  | .goto _, st => some (t, st)
  | .ifCond .eq _, .int x :: st => some (if x = 0 then t else nx, st)
  | .ifCond .ne _, .int x :: st => some (if x = 0 then nx else t, st)
  | .ifCond .lt _, .int x :: st => some (if x < 0 then t else nx, st)
  | .ifCond .ge _, .int x :: st => some (if 0 ≤ x then t else nx, st)
  | .ifCond .gt _, .int x :: st => some (if 0 < x then t else nx, st)
  | .ifCond .le _, .int x :: st => some (if x ≤ 0 then t else nx, st)
  | .if_icmp .eq _, .int y :: .int x :: st => some (if x = y then t else nx, st)
  | .if_icmp .ne _, .int y :: .int x :: st => some (if x = y then nx else t, st)
  | .if_icmp .lt _, .int y :: .int x :: st => some (if x < y then t else nx, st)
  | .if_icmp .ge _, .int y :: .int x :: st => some (if y ≤ x then t else nx, st)
  | .if_icmp .gt _, .int y :: .int x :: st => some (if y < x then t else nx, st)
  | .if_icmp .le _, .int y :: .int x :: st => some (if x ≤ y then t else nx, st)
  | .ifnull _, .null :: st => some (t, st)
  | .ifnull _, .ref _ :: st => some (nx, st)
  | .ifnonnull _, .null :: st => some (nx, st)
  | .ifnonnull _, .ref _ :: st => some (t, st)
  | .tableswitch _ _ _ _, .int x :: st => some (am_sw t x sw, st)
  | .lookupswitch _ _, .int x :: st => some (am_sw t x sw, st)
  | _, _ => none
def am_in (j : Int32) (n : Nat) : Bool := !(decide (j < 0)) && decide (j.toNatClampNeg < n)
/-- the heap -/
def am_heap (P : am_P) (L : Nat) (xs : Nat → Int32) (ins : Jvm.ClassFile.Instr) (a1 a2 : Nat) (st : List Value) (h : am_H) : Option (List Value × am_H) := match ins, st with
  | .getfield _, .ref i :: st => match am_get h i with
    | some (.inr (ci, fs)) => if ci = a1 then match fs[a2]? with
      | some v => some (v :: st, h)
      | none => none
      else none
    | _ => none
  | .putfield _, v :: .ref i :: st => match am_get h i with
    | some (.inr (ci, fs)) => if ci = a1 ∧ a2 < fs.length ∧ narrow (P.1 a1 a2) v = v ∧ fits (P.1 a1 a2) v = true then some (st, am_set h i (.inr (ci, fs.set a2 v))) else none
    | _ => none
  | .new _, st => some (.ref (h.length + 1) :: st, h ++ [.inr (a1, P.2 a1)])
  | .newarray .int, .int n :: st => if n < 0 ∨ 1048576 < n.toNatClampNeg then none else some (.ref (h.length + 1) :: st, h ++ [.inl (0, n.toNatClampNeg, .inl (fun _ => 0))])
  | .newarray .byte, .int n :: st => if n < 0 ∨ 1048576 < n.toNatClampNeg then none else some (.ref (h.length + 1) :: st, h ++ [.inl (1, n.toNatClampNeg, .inl (fun _ => 0))])
  | .newarray .boolean, .int n :: st => if n < 0 ∨ 1048576 < n.toNatClampNeg then none else some (.ref (h.length + 1) :: st, h ++ [.inl (2, n.toNatClampNeg, .inl (fun _ => 0))])
  | .newarray .long, .int n :: st => if n < 0 ∨ 1048576 < n.toNatClampNeg then none else some (.ref (h.length + 1) :: st, h ++ [.inl (3, n.toNatClampNeg, .inr (.inl (fun _ => 0)))])
  | .anewarray _, .int n :: st => if n < 0 ∨ 1048576 < n.toNatClampNeg then none else some (.ref (h.length + 1) :: st, h ++ [.inl (a1 + 4, n.toNatClampNeg, .inr (.inr (fun _ => none)))])
  | .arraylength, .ref i :: st => if i = 0 then some (.int (Int32.ofNat L) :: st, h) else match am_get h i with
    | some (.inl (t, n, _)) => if t = a1 then some (.int (Int32.ofNat n) :: st, h) else none
    | _ => none
  | .iaload, .int j :: .ref i :: st => if i = 0 then (if am_in j L = true then some (.int (xs j.toNatClampNeg) :: st, h) else none) else match am_get h i with
    | some (.inl (t, n, .inl f)) => if t = 0 ∧ am_in j n = true then some (.int (f j.toNatClampNeg) :: st, h) else none
    | _ => none
  | .baload, .int j :: .ref i :: st => match am_get h i with
    | some (.inl (t, n, .inl f)) => if t = a1 ∧ am_in j n = true then some (.int (f j.toNatClampNeg) :: st, h) else none
    | _ => none
  | .laload, .int j :: .ref i :: st => match am_get h i with
    | some (.inl (t, n, .inr (.inl f))) => if t = 3 ∧ am_in j n = true then some (.long (f j.toNatClampNeg) :: st, h) else none
    | _ => none
  | .aaload, .int j :: .ref i :: st => match am_get h i with
    | some (.inl (t, n, .inr (.inr f))) => if t = a1 + 4 ∧ am_in j n = true then some (am_rf (f j.toNatClampNeg) :: st, h) else none
    | _ => none
  | .iastore, .int x :: .int j :: .ref i :: st => match am_get h i with
    | some (.inl (t, n, .inl f)) => if t = 0 ∧ am_in j n = true then some (st, am_set h i (.inl (t, n, .inl (upd f j.toNatClampNeg x)))) else none
    | _ => none
  | .bastore, .int x :: .int j :: .ref i :: st => match am_get h i with
    | some (.inl (t, n, .inl f)) => if t = a1 ∧ am_in j n = true then some (st, am_set h i (.inl (t, n, .inl (upd f j.toNatClampNeg (vp_nar (if a1 = 1 then .byte else .boolean) x))))) else none
    | _ => none
  | .lastore, .long x :: .int j :: .ref i :: st => match am_get h i with
    | some (.inl (t, n, .inr (.inl f))) => if t = 3 ∧ am_in j n = true then some (st, am_set h i (.inl (t, n, .inr (.inl (vp_updL f j.toNatClampNeg x))))) else none
    | _ => none
  | .aastore, .ref w :: .int j :: .ref i :: st => match am_get h i, am_get h w with
    | some (.inl (t, n, .inr (.inr f))), some (.inr (ci, _)) => if t = ci + 4 ∧ ci = a1 ∧ am_in j n = true then some (st, am_set h i (.inl (t, n, .inr (.inr (va_up f j.toNatClampNeg (some w)))))) else none
    | _, _ => none
  | .invokespecial _, .ref _ :: st => if (st.map fun v => v.category).sum ≤ 8 then some (st, h) else none
  | .invokestatic _, .int n :: .int dp :: .ref d :: .int sp :: .ref sr :: st => match am_get h sr, am_get h d with
    | some (.inl (t0, n0, .inl f)), some (.inl (t1, n1, .inl g)) => if t0 = 1 ∧ t1 = 1 ∧ ¬ sp < 0 ∧ ¬ dp < 0 ∧ ¬ n < 0 ∧ sp.toNatClampNeg + n.toNatClampNeg ≤ n0 ∧ dp.toNatClampNeg + n.toNatClampNeg ≤ n1 ∧ (st.map fun v => v.category).sum ≤ 8 ∧ (∀ i, i < n.toNatClampNeg → fits .byte (.int (f (sp.toNatClampNeg + i))) = true) then some (st, am_set h d (.inl (t1, n1, .inl (va_cpy f g sp.toNatClampNeg dp.toNatClampNeg n.toNatClampNeg)))) else none
    | _, _ => none
  | _, _ => none
/-- a call: the arguments, the rest of the stack -/
def am_call (ins : Jvm.ClassFile.Instr) (ci mL a2 : Nat) (st : List Value) (h : am_H) : Option (List Value × List Value) :=
  if a2 ≤ st.length ∧ ((st.drop a2).map fun v => v.category).sum ≤ 8 ∧ (((st.take a2).reverse).map fun v => v.category).sum ≤ mL then match ins, (st.take a2).reverse with
    | .invokestatic _, as => some (as, st.drop a2)
    | .invokespecial _, .ref i :: as => some (.ref i :: as, st.drop a2)
    | .invokevirtual _, .ref i :: as => match am_get h i with
      | some (.inr (cj, _)) => if cj = ci then some (.ref i :: as, st.drop a2) else none
      | _ => none
    | _, _ => none
  else none
def am_ret (ins : Jvm.ClassFile.Instr) (rt : Option FieldType) (st : List Value) : Option (Option Value) := match ins, rt, st with
  | .ireturn, some ty, [.int v] => if narrow ty (.int v) = .int v then some (some (.int v)) else none
  | .lreturn, some .long, [.long v] => some (some (.long v))
  | .areturn, some (.object _), [.ref v] => some (some (.ref v))
  | .areturn, some (.object _), [.null] => some (some .null)
  | .areturn, some (.array _), [.ref v] => some (some (.ref v))
  | .areturn, some (.array _), [.null] => some (some .null)
  | .return_, none, [] => some none
  | _, _, _ => none
/-- THE RUN of a method from a place on, with fuel -/
def am_run (P : am_P) (T : Nat → Nat → Option am_I) (mt : Nat → am_M) (L : Nat) (xs : Nat → Int32) : Nat → Nat → Nat → am_L → List Value → am_H → Option (Option Value × am_H)
  | 0, _, _, _, _, _ => none
  | n + 1, mi, pc, lv, st, h => match T mi pc with
    | none => none
    | some (k, ins, len, a1, a2, v, sw, lm) => match k with
      | 0 => match am_pure ins v st with
        | none => none
        | some st' => am_run P T mt L xs n mi (pc + len) (am_live lm lv) st' h
      | 1 => match am_loc ins v (mt mi).2.2.1 (am_live lm lv) st with
        | none => none
        | some (lv', st') => am_run P T mt L xs n mi (pc + len) lv' st' h
      | 2 => match am_jump ins a1 (pc + len) sw st with
        | none => none
        | some (pc', st') => am_run P T mt L xs n mi pc' (am_live lm lv) st' h
      | 3 => match am_heap P L xs ins a1 a2 st h with
        | none => none
        | some (st', h') => am_run P T mt L xs n mi (pc + len) (am_live lm lv) st' h'
      | 4 => match am_call ins (mt a1).2.2.2.2.2 (mt a1).2.2.1 a2 st h with
        | none => none
        | some (as, st') => match am_run P T mt L xs n a1 0 (lv_args 0 as) [] h with
          | none => none
          | some (rv, h') => am_run P T mt L xs n mi (pc + len) (am_live lm lv) (rv.toList ++ st') h'
      | _ => match am_ret ins (mt mi).2.2.2.1 st with
        | none => none
        | some rv => some (rv, h)
end
section
/-! THE ABSTRACT MACHINE IS SOUND: what am_run answers, the machine does (W). b: the script's cell, sz: the heap's size when the law began, dA: the id of each kind of array -/
def am_ad (b sz : Nat) : Nat → Nat
  | 0 => b
  | i + 1 => sz + i
def am_tv (b sz : Nat) (v : Value) : Value := match v with
  | .ref i => .ref (am_ad b sz i)
  | v => v
def am_enc (b sz : Nat) (dA : Nat → ClassId) (c : am_C) : va_E := match c with
  | .inl (t, n, .inl f) => .inl (dA t, n, .inl f)
  | .inl (t, n, .inr (.inl f)) => .inl (dA t, n, .inr (.inl f))
  | .inl (t, n, .inr (.inr f)) => .inl (dA t, n, .inr (.inr (.inr (.inr (fun k => (f k).map (am_ad b sz))))))
  | .inr (ci, fs) => .inr (ci, fs.map (am_tv b sz))
def am_wsF (b sz : Nat) (dA : Nat → ClassId) : Nat → am_H → va_W
  | _, [] => []
  | k, c :: r => (k, am_enc b sz dA c) :: am_wsF b sz dA (k + 1) r
abbrev am_ws (b sz : Nat) (dA : Nat → ClassId) (h : am_H) : va_W := am_wsF b sz dA sz h
section AMW
variable {b sz : Nat} {dA : Nat → ClassId}
theorem am_wsF_get (h : am_H) : ∀ (k i : Nat), (am_wsF b sz dA k h)[i]? = h[i]?.map (fun c => (k + i, am_enc b sz dA c)) := by
  induction h with
  | nil => intro k i; simp [am_wsF]
  | cons c r ih =>
    intro k i
    cases i with
    | zero => simp [am_wsF]
    | succ i =>
      simp only [am_wsF, List.getElem?_cons_succ]
      rw [ih (k + 1) i, show k + 1 + i = k + (i + 1) by omega]
theorem am_ws_get {h : am_H} {i : Nat} {c : am_C} (hc : h[i]? = some c) : (am_ws b sz dA h)[i]? = some (sz + i, am_enc b sz dA c) := by
  rw [am_wsF_get, hc]; rfl
theorem am_wsF_set (h : am_H) (c : am_C) : ∀ (k i : Nat), am_wsF b sz dA k (h.set i c) = (am_wsF b sz dA k h).set i (k + i, am_enc b sz dA c) := by
  induction h with
  | nil => intro k i; simp [am_wsF]
  | cons d r ih =>
    intro k i
    cases i with
    | zero => simp [am_wsF]
    | succ i =>
      simp only [List.set_cons_succ, am_wsF]
      rw [ih (k + 1) i, show k + 1 + i = k + (i + 1) by omega]
theorem am_wsF_app (h : am_H) (c : am_C) : ∀ k : Nat, am_wsF b sz dA k (h ++ [c]) = am_wsF b sz dA k h ++ [(k + h.length, am_enc b sz dA c)] := by
  induction h with
  | nil => intro k; simp [am_wsF]
  | cons d r ih =>
    intro k
    simp only [List.cons_append, am_wsF, List.length_cons]
    rw [ih (k + 1), show k + 1 + r.length = k + (r.length + 1) by omega]
theorem am_ws_D (h : am_H) : va_D (fun q : Nat => sz ≤ q) (am_ws b sz dA h) := by
  have key : ∀ (i : Nat) (q : Nat × va_E), (am_ws b sz dA h)[i]? = some q → q.1 = sz + i := by
    intro i q hq
    rw [am_wsF_get] at hq
    cases hc : h[i]? with
    | none => rw [hc] at hq; cases hq
    | some c => rw [hc] at hq; cases hq; rfl
  refine ⟨fun i j p q hi hj hpq => ?_, fun k q hk => ?_⟩
  · have h1 := key i p hi
    have h2 := key j q hj
    omega
  · have h1 := key k q hk
    show sz ≤ q.1
    omega
theorem am_ws_len (h : am_H) : ∀ k, (am_wsF b sz dA k h).length = h.length := by
  induction h with
  | nil => intro k; rfl
  | cons c r ih => intro k; simp [am_wsF, ih]
theorem am_tv_cat (v : Value) : (am_tv b sz v).category = v.category := by cases v <;> rfl
theorem am_tv_nar {ty : FieldType} {v : Value} (h : narrow ty v = v) : narrow ty (am_tv b sz v) = am_tv b sz v := by
  cases v with
  | ref i => cases ty <;> rfl
  | _ => exact h
theorem am_tv_fits {ty : FieldType} {v : Value} (h : fits ty v = true) : fits ty (am_tv b sz v) = true := by
  cases v with
  | ref i => cases ty <;> first | exact h | (simp [fits] at h)
  | _ => exact h
theorem am_tv_rf (r : Option Nat) : am_tv b sz (am_rf r) = va_rf (r.map (am_ad b sz)) := by cases r <;> rfl
theorem am_sum_tv (st : List Value) : ((st.map (am_tv b sz)).map fun v => v.category).sum = (st.map fun v => v.category).sum := by
  rw [List.map_map]
  congr 1
  apply List.map_congr_left
  intro v _
  exact am_tv_cat v
/-- locals -/
abbrev am_lvT (b sz : Nat) (lv : am_L) : am_L := lv.map (fun q => (q.1, am_tv b sz q.2))
theorem am_ld_mem : ∀ {lv : am_L} {i : Nat} {v : Value}, am_ld lv i = some v → (i, v) ∈ lv
  | [], i, v, h => by simp [am_ld] at h
  | q :: l, i, v, h => by
    unfold am_ld at h
    cases hb : Nat.beq q.1 i with
    | true =>
      rw [hb] at h
      have e := Nat.eq_of_beq_eq_true hb
      simp at h
      rw [← e, ← h]
      exact List.mem_cons_self
    | false =>
      rw [hb] at h
      exact List.mem_cons_of_mem _ (am_ld_mem h)
theorem am_ins_mem {i : Nat} {v : Value} : ∀ {l : am_L} {q : Nat × Value}, q ∈ am_ins i v l → q ∈ (i, v) :: l
  | [], q, h => h
  | p :: l, q, h => by
    unfold am_ins at h
    cases hb : Nat.ble i p.1 with
    | true => rw [hb] at h; exact h
    | false =>
      rw [hb] at h
      rcases List.mem_cons.mp h with h | h
      · rw [h]; exact List.mem_cons_of_mem _ List.mem_cons_self
      · rcases List.mem_cons.mp (am_ins_mem h) with h | h
        · rw [h]; exact List.mem_cons_self
        · exact List.mem_cons_of_mem _ (List.mem_cons_of_mem _ h)
theorem am_has_of {ls : Array Slot} {nL : Nat} {l l' : am_L} (h : lv_has ls nL l) (hs : ∀ q ∈ l', q ∈ l) : lv_has ls nL l' := ⟨h.1, h.2.1, fun q hq => h.2.2 q (hs q hq)⟩
theorem am_has_ld {ls : Array Slot} {nL : Nat} {lv : am_L} {i : Nat} {v : Value} (h : lv_has ls nL (am_lvT b sz lv)) (hl : am_ld lv i = some v) : ls[i]? = some (.val (am_tv b sz v)) :=
  h.2.2 (i, am_tv b sz v) (List.mem_map.mpr ⟨(i, v), am_ld_mem hl, rfl⟩)
theorem am_has_live {ls : Array Slot} {nL : Nat} {lv : am_L} {lm : Option (List Nat)} (h : lv_has ls nL (am_lvT b sz lv)) : lv_has ls nL (am_lvT b sz (am_live lm lv)) := by
  cases lm with
  | none => exact h
  | some m =>
    refine am_has_of h fun q hq => ?_
    obtain ⟨z, hz, e⟩ := List.mem_map.mp hq
    exact List.mem_map.mpr ⟨z, (List.mem_filter.mp hz).1, e⟩
theorem am_has_st1 {ls : Array Slot} {nL i : Nat} {lv : am_L} {v : Value} (h : lv_has ls nL ((i, am_tv b sz v) :: (am_lvT b sz lv).filter (fun q => !(q.1 == i) && !(q.1 + 1 == i && q.2.category == 2)))) : lv_has ls nL (am_lvT b sz (am_st1 lv i v)) := by
  refine am_has_of h fun q hq => ?_
  obtain ⟨z, hz, e⟩ := List.mem_map.mp hq
  rcases List.mem_cons.mp (am_ins_mem hz) with hz | hz
  · rw [← e, hz]; exact List.mem_cons_self
  · obtain ⟨h1, h2⟩ := List.mem_filter.mp hz
    refine List.mem_cons_of_mem _ (List.mem_filter.mpr ⟨List.mem_map.mpr ⟨z, h1, e⟩, ?_⟩)
    rw [← e]
    simpa [am_tv_cat] using h2
theorem am_has_st2 {ls : Array Slot} {nL i : Nat} {lv : am_L} {v : Value} (h : lv_has ls nL ((i, am_tv b sz v) :: (am_lvT b sz lv).filter (fun q => !(q.1 == i) && (!(q.1 == i + 1) && !(q.1 + 1 == i && q.2.category == 2))))) : lv_has ls nL (am_lvT b sz (am_st2 lv i v)) := by
  refine am_has_of h fun q hq => ?_
  obtain ⟨z, hz, e⟩ := List.mem_map.mp hq
  rcases List.mem_cons.mp (am_ins_mem hz) with hz | hz
  · rw [← e, hz]; exact List.mem_cons_self
  · obtain ⟨h1, h2⟩ := List.mem_filter.mp hz
    refine List.mem_cons_of_mem _ (List.mem_filter.mpr ⟨List.mem_map.mpr ⟨z, h1, e⟩, ?_⟩)
    rw [← e]
    simpa [am_tv_cat] using h2
theorem am_args_tv (as : List Value) : ∀ i : Nat, lv_args i (as.map (am_tv b sz)) = am_lvT b sz (lv_args i as) := by
  induction as with
  | nil => intro i; rfl
  | cons v vs ih => intro i; simp only [List.map_cons, lv_args, am_tv_cat, ih]
theorem am_sl_len (vs : List Value) : (lg_sl vs).length = (vs.map fun v => v.category).sum := by
  induction vs with
  | nil => rfl
  | cons v vs ih =>
    have e : lg_sl (v :: vs) = (if v.category = 2 then [Slot.val v, .second] else [.val v]) ++ lg_sl vs := by simp [lg_sl]
    rw [e, List.length_append, ih, List.map_cons, List.sum_cons]
    rcases lv_cat v with h | h <;> simp [h]
theorem am_get_eq {h : am_H} {i : Nat} {c : am_C} (hc : am_get h i = some c) : ∃ j, i = j + 1 ∧ h[j]? = some c := by
  cases i with
  | zero => simp [am_get] at hc
  | succ j => exact ⟨j, rfl, hc⟩
theorem am_in_vp {j : Int32} {n : Nat} (h : am_in j n = true) : vp_in j n := by
  simp only [am_in, Bool.and_eq_true, Bool.not_eq_true', decide_eq_false_iff_not, decide_eq_true_eq] at h
  rintro (q | q)
  · exact h.1 q
  · omega
end AMW
/-- lengths of the instructions that have one -/
def am_len : Jvm.ClassFile.Instr → Nat
  | .bipush _ => 2
  | .sipush _ => 3
  | .ldc _ => 2
  | .ldc2_w _ => 3
  | .iload _ => 2
  | .lload _ => 2
  | .aload _ => 2
  | .istore _ => 2
  | .lstore _ => 2
  | .astore _ => 2
  | .iinc _ _ => 3
  | .goto _ => 3
  | .ifCond _ _ => 3
  | .if_icmp _ _ => 3
  | .ifnull _ => 3
  | .ifnonnull _ => 3
  | .getfield _ => 3
  | .putfield _ => 3
  | .new _ => 3
  | .newarray _ => 2
  | .anewarray _ => 3
  | .invokespecial _ => 3
  | .invokestatic _ => 3
  | .invokevirtual _ => 3
  | _ => 1
def am_isSw : Jvm.ClassFile.Instr → Bool
  | .tableswitch _ _ _ _ => true
  | .lookupswitch _ _ => true
  | _ => false
/-- constants -/
def am_ok0 (tbl : List Cond) (own : String) (ins : Jvm.ClassFile.Instr) (v : Value) : Prop := match ins with
  | .iconst n => v = .int (Int32.ofInt n)
  | .bipush n => v = .int ((Int8.ofInt n).toInt32)
  | .sipush n => v = .int ((Int16.ofInt n).toInt32)
  | .lconst n => v = .long (Int64.ofNat n)
  | .ldc i => ∃ x : Int32, v = .int x ∧ Cond.constant own i x ∈ tbl
  | .ldc2_w i => ∃ x : Int64, v = .long x ∧ Cond.constantLong own i x ∈ tbl
  | _ => True
section AMS
variable {p : Program} {l : Launch} {e : Env} {R : Room} {s : State} {m : MethodId} {args : Array Value} {below : List Frame} {meth : Method} {c : Code} {H : Heap} {locs : List Loc} {cells slots : Nat} {Q : State → Prop}
variable {cc : ByteArray} {pc len : Nat} {ls : Array Slot} {b sz : Nat} {tbl : List Cond} {own : String} {ins : Jvm.ClassFile.Instr} {v : Value} {st st' : List Value}
set_option maxHeartbeats 4000000 in
theorem am_pure_W (hx : p.tables.exec = Jvm.exec) (hb : c.code = cc) (hown : s.vm.findClass own = some m.cls) (hts : ∀ w ∈ tbl, w.before args s = true) (hd : decode cc pc = .ok (ins, len)) (hn : len = am_len ins) (hok : am_ok0 tbl own ins v) (hp : am_pure ins v st = some st')
    (k : W p l e R s m args below meth c H locs cells slots Q (F0 m (pc + len) ls (st'.map (am_tv b sz)))) : W p l e R s m args below meth c H locs cells slots Q (F0 m pc ls (st.map (am_tv b sz))) := by
  subst hn
  unfold am_pure at hp
  split at hp
  · cases hp; exact lv_null hx hb hd k
  · cases hp; cases (show v = _ from hok); exact lv_iconst hx hb hd rfl k
  · cases hp; cases (show v = _ from hok); exact lv_bipush hx hb hd rfl k
  · cases hp; cases (show v = _ from hok); exact lv_sipush hx hb hd rfl k
  · cases hp; cases (show v = _ from hok); exact lv_lconst hx hb hd rfl k
  · cases hp; obtain ⟨x, rfl, hw⟩ := hok; exact lv_ldc hx hb hown (hts _ hw) hd k
  · cases hp; obtain ⟨x, rfl, hw⟩ := hok; exact lv_ldc2 hx hb hown (hts _ hw) hd k
  · cases hp; exact lv_iadd hx hb hd k
  · cases hp; exact lv_isub hx hb hd k
  · cases hp; exact lv_imul hx hb hd k
  · cases hp; exact lv_iand hx hb hd k
  · cases hp; exact lv_ior hx hb hd k
  · cases hp; exact lv_ixor hx hb hd k
  · split at hp
    · cases hp
    · cases hp; rename_i hz; exact lv_idiv hx hb hd hz k
  · split at hp
    · cases hp
    · cases hp; rename_i hz; exact lv_irem hx hb hd hz k
  · cases hp; exact lv_ineg hx hb hd k
  · cases hp; exact lv_ishl hx hb hd k
  · cases hp; exact lv_ishr hx hb hd k
  · cases hp; exact lv_iushr hx hb hd rfl k
  · cases hp; exact lv_ladd hx hb hd k
  · cases hp; exact lv_lsub hx hb hd k
  · cases hp; exact lv_lmul hx hb hd k
  · cases hp; exact lv_land hx hb hd k
  · cases hp; exact lv_lor hx hb hd k
  · cases hp; exact lv_lxor hx hb hd k
  · split at hp
    · cases hp
    · cases hp; rename_i hz; exact lv_ldiv hx hb hd hz k
  · split at hp
    · cases hp
    · cases hp; rename_i hz; exact lv_lrem hx hb hd hz k
  · cases hp; exact lv_lneg hx hb hd k
  · cases hp; exact lv_lshl hx hb hd rfl k
  · cases hp; exact lv_lshr hx hb hd rfl k
  · cases hp; exact lv_lushr hx hb hd rfl k
  · cases hp; exact W.lcmp hx hb hd k
  · cases hp; exact lv_i2l hx hb hd rfl k
  · cases hp; exact lv_l2i hx hb hd rfl k
  · cases hp; exact lv_i2b hx hb hd rfl k
  · cases hp; exact lv_i2s hx hb hd rfl k
  · cases hp; exact lv_i2c hx hb hd rfl k
  · split at hp
    · rename_i hc; cases hp; exact lv_pop hx hb hd (by rw [am_tv_cat]; exact hc) k
    · cases hp
  · split at hp
    · rename_i hc; cases hp; exact lv_dup hx hb hd (by rw [am_tv_cat]; exact hc) k
    · cases hp
  · split at hp
    · rename_i hc; cases hp; exact lv_dup_x1 hx hb hd (by rw [am_tv_cat]; exact hc.1) (by rw [am_tv_cat]; exact hc.2) k
    · cases hp
  · split at hp
    · rename_i hc; cases hp; exact lv_dup_x2 hx hb hd (by rw [am_tv_cat]; exact hc.1) (by rw [am_tv_cat]; exact hc.2.1) (by rw [am_tv_cat]; exact hc.2.2) k
    · cases hp
  · split at hp
    · rename_i hc; cases hp; exact lv_pop2_2 hx hb hd (by rw [am_tv_cat]; exact hc) k
    · cases hp
  · split at hp
    · rename_i hc; cases hp; exact lv_dup2_2 hx hb hd (by rw [am_tv_cat]; exact hc) k
    · split at hp
      · split at hp
        · rename_i hc; cases hp; exact lv_dup2_11 hx hb hd (by rw [am_tv_cat]; exact hc.1) (by rw [am_tv_cat]; exact hc.2) k
        · cases hp
      · cases hp
  · split at hp
    · rename_i hc; cases hp; exact lv_dup2_x1_2 hx hb hd (by rw [am_tv_cat]; exact hc.1) (by rw [am_tv_cat]; exact hc.2) k
    · cases hp
  · split at hp
    · rename_i hc; cases hp; exact lv_dup2_x2_2 hx hb hd (by rw [am_tv_cat]; exact hc.1) (by rw [am_tv_cat]; exact hc.2.1) (by rw [am_tv_cat]; exact hc.2.2) k
    · cases hp
  · cases hp
/-- iinc's constant -/
def am_ok1 (ins : Jvm.ClassFile.Instr) (v : Value) : Prop := match ins with
  | .iinc _ n => v = .int (Int32.ofInt n)
  | _ => True
variable {nL : Nat} {lv lv' : am_L}
set_option maxHeartbeats 4000000 in
theorem am_loc_W (hx : p.tables.exec = Jvm.exec) (hb : c.code = cc) (hd : decode cc pc = .ok (ins, len)) (hn : len = am_len ins) (hok : am_ok1 ins v) (hl : lv_has ls nL (am_lvT b sz lv)) (hp : am_loc ins v nL lv st = some (lv', st'))
    (k : ∀ ls' : Array Slot, lv_has ls' nL (am_lvT b sz lv') → W p l e R s m args below meth c H locs cells slots Q (F0 m (pc + len) ls' (st'.map (am_tv b sz)))) : W p l e R s m args below meth c H locs cells slots Q (F0 m pc ls (st.map (am_tv b sz))) := by
  subst hn
  unfold am_loc at hp
  split at hp
  · split at hp
    · rename_i hg; cases hp; exact lv_iload_n hx hb hd rfl (am_has_ld hl hg) (k _ hl)
    · cases hp
  · split at hp
    · rename_i hg; cases hp; exact lv_iload hx hb hd (am_has_ld hl hg) (k _ hl)
    · cases hp
  · split at hp
    · rename_i hg; cases hp; exact lv_lload_n hx hb hd rfl (am_has_ld hl hg) (k _ hl)
    · cases hp
  · split at hp
    · rename_i hg; cases hp; exact lv_lload hx hb hd (am_has_ld hl hg) (k _ hl)
    · cases hp
  · split at hp
    · rename_i hg; cases hp; exact lv_aload_n hx hb hd rfl (am_has_ld hl hg) (k _ hl)
    · rename_i hg; cases hp; exact lv_aload_nN hx hb hd rfl (am_has_ld hl hg) (k _ hl)
    · cases hp
  · split at hp
    · rename_i hg; cases hp; exact lv_aload hx hb hd (am_has_ld hl hg) (k _ hl)
    · rename_i hg; cases hp; exact lv_aloadN hx hb hd (am_has_ld hl hg) (k _ hl)
    · cases hp
  · split at hp
    · rename_i hg; cases hp; exact lv_istore_n hx hb hd rfl hl hg rfl (fun ls' h' => k ls' (am_has_st1 h'))
    · cases hp
  · split at hp
    · rename_i hg; cases hp; exact lv_istore hx hb hd hl hg rfl (fun ls' h' => k ls' (am_has_st1 h'))
    · cases hp
  · split at hp
    · rename_i hg; cases hp; exact lv_lstore_n hx hb hd rfl hl hg rfl (fun ls' h' => k ls' (am_has_st2 h'))
    · cases hp
  · split at hp
    · rename_i hg; cases hp; exact lv_lstore hx hb hd hl hg rfl (fun ls' h' => k ls' (am_has_st2 h'))
    · cases hp
  · split at hp
    · rename_i hg; cases hp; exact lv_astore_n hx hb hd rfl hl hg rfl (fun ls' h' => k ls' (am_has_st1 h'))
    · cases hp
  · split at hp
    · rename_i hg; cases hp; exact lv_astore_nN hx hb hd rfl hl hg rfl (fun ls' h' => k ls' (am_has_st1 h'))
    · cases hp
  · split at hp
    · rename_i hg; cases hp; exact lv_astore hx hb hd hl hg rfl (fun ls' h' => k ls' (am_has_st1 h'))
    · cases hp
  · split at hp
    · rename_i hg; cases hp; exact lv_astoreN hx hb hd hl hg rfl (fun ls' h' => k ls' (am_has_st1 h'))
    · cases hp
  · split at hp
    · split at hp
      · rename_i x hg hk
        cases hp
        cases (show Value.int _ = _ from hok)
        obtain ⟨kk, hkk⟩ := List.getElem?_of_mem (show (_, am_tv b sz (.int x)) ∈ am_lvT b sz lv from List.mem_map.mpr ⟨_, am_ld_mem hg, rfl⟩)
        exact lv_iinc hx hb hd hl hkk rfl hk rfl (fun ls' h' => k ls' (am_has_st1 h'))
      · cases hp
    · cases hp
  · cases hp
/-- where jumps go -/
def am_ok2 (ins : Jvm.ClassFile.Instr) (pc t : Nat) (sw : List (Int32 × Nat)) : Prop := match ins with
  | .goto o => (pc : Int) + o = (t : Int)
  | .ifCond _ o => (pc : Int) + o = (t : Int)
  | .if_icmp _ o => (pc : Int) + o = (t : Int)
  | .ifnull o => (pc : Int) + o = (t : Int)
  | .ifnonnull o => (pc : Int) + o = (t : Int)
  | .tableswitch d lo hi offs => (pc : Int) + d = (t : Int) ∧ hi - lo + 1 = (sw.length : Int) ∧ offs.toList.map (fun o => (pc : Int) + o) = sw.map (fun q => (q.2 : Int)) ∧ sw.map (fun q => q.1.toInt) = (List.range sw.length).map (fun j : Nat => lo + (j : Int))
  | .lookupswitch d ps => (pc : Int) + d = (t : Int) ∧ (ps.toList.zip (ps.toList.drop 1)).all (fun (a, next) => a.1 < next.1) = true ∧ ps.toList.map (fun q => (q.1, (pc : Int) + q.2)) = sw.map (fun q => (q.1.toInt, (q.2 : Int)))
  | _ => True
theorem am_sw_look {pc t : Nat} {d : Int} (hd : (pc : Int) + d = (t : Int)) (x : Int32) : ∀ (ps : List (Int × Int)) (sw : List (Int32 × Nat)), ps.map (fun q => (q.1, (pc : Int) + q.2)) = sw.map (fun q => (q.1.toInt, (q.2 : Int))) → (pc : Int) + Op.lookupswitch.offset ps d x.toInt = (am_sw t x sw : Int)
  | [], [], _ => by simpa [Op.lookupswitch.offset, am_sw] using hd
  | [], q :: r, h => by simp at h
  | p :: ps, [], h => by simp at h
  | p :: ps, q :: r, h => by
    simp only [List.map_cons, List.cons.injEq, Prod.mk.injEq] at h
    obtain ⟨a, o⟩ := p
    obtain ⟨⟨h1, h2⟩, h3⟩ := h
    rw [Op.lookupswitch.offset_cons]
    unfold am_sw
    by_cases hq : x = q.1
    · rw [if_pos hq, if_pos (by rw [hq]; exact h1)]
      exact h2
    · rw [if_neg hq, if_neg (fun z => hq (Int32.toInt_inj.mp (by rw [← h1]; exact z.symm)))]
      exact am_sw_look hd x ps r h3
theorem am_sw_tab (t : Nat) (x : Int32) : ∀ (sw : List (Int32 × Nat)) (lo : Int), sw.map (fun q => q.1.toInt) = (List.range sw.length).map (fun j : Nat => lo + (j : Int)) →
    ((x.toInt < lo ∨ lo + sw.length ≤ x.toInt) ∧ am_sw t x sw = t) ∨ (lo ≤ x.toInt ∧ x.toInt < lo + sw.length ∧ ∃ q, sw[(x.toInt - lo).toNat]? = some q ∧ am_sw t x sw = q.2)
  | [], lo, _ => by
    left
    refine ⟨?_, rfl⟩
    simp only [List.length_nil]
    omega
  | q :: r, lo, h => by
    rw [List.length_cons, List.range_succ_eq_map, List.map_cons, List.map_cons, List.map_map] at h
    simp only [List.cons.injEq] at h
    obtain ⟨h1, h2⟩ := h
    have h2' : r.map (fun q => q.1.toInt) = (List.range r.length).map (fun j : Nat => (lo + 1) + (j : Int)) := by
      rw [h2]
      apply List.map_congr_left
      intro j _
      simp only [Function.comp]
      omega
    have e0 : q.1.toInt = lo := by rw [h1]; simp
    unfold am_sw
    by_cases hq : x = q.1
    · right
      rw [if_pos hq]
      have ex : x.toInt = lo := by rw [hq]; exact e0
      refine ⟨by omega, by simp only [List.length_cons]; omega, q, ?_, rfl⟩
      rw [show (x.toInt - lo).toNat = 0 by omega]
      rfl
    · have hne : x.toInt ≠ lo := fun z => hq (Int32.toInt_inj.mp (by rw [e0]; exact z))
      rw [if_neg hq]
      rcases am_sw_tab t x r (lo + 1) h2' with ⟨h3, h4⟩ | ⟨h3, h4, q', h5, h6⟩
      · left
        refine ⟨?_, h4⟩
        simp only [List.length_cons]
        omega
      · right
        refine ⟨by omega, by simp only [List.length_cons]; omega, q', ?_, h6⟩
        rw [show (x.toInt - lo).toNat = (x.toInt - (lo + 1)).toNat + 1 by omega]
        exact h5
variable {t nx pc' : Nat} {sw : List (Int32 × Nat)}
set_option maxHeartbeats 4000000 in
theorem am_jump_W (hx : p.tables.exec = Jvm.exec) (hb : c.code = cc) (hd : decode cc pc = .ok (ins, len)) (hn : am_isSw ins = true ∨ len = am_len ins) (hok : am_ok2 ins pc t sw) (hp : am_jump ins t (pc + len) sw st = some (pc', st'))
    (k : W p l e R s m args below meth c H locs cells slots Q (F0 m pc' ls (st'.map (am_tv b sz)))) : W p l e R s m args below meth c H locs cells slots Q (F0 m pc ls (st.map (am_tv b sz))) := by
  unfold am_jump at hp
  split at hp
  · cases hp; (rcases hn with h | rfl; · simp [am_isSw] at h); exact lv_goto hx hb hd hok k
  · cases hp; (rcases hn with h | rfl; · simp [am_isSw] at h); exact lv_if_eq hx hb hd hok (fun q => by rw [if_pos q] at k; exact k) (fun q => by rw [if_neg q] at k; exact k)
  · cases hp; (rcases hn with h | rfl; · simp [am_isSw] at h); exact lv_if_ne hx hb hd hok (fun q => by rw [if_neg q] at k; exact k) (fun q => by rw [if_pos q] at k; exact k)
  · cases hp; (rcases hn with h | rfl; · simp [am_isSw] at h); exact lv_if_lt hx hb hd hok (fun q => by rw [if_pos q] at k; exact k) (fun q => by rw [if_neg q] at k; exact k)
  · cases hp; (rcases hn with h | rfl; · simp [am_isSw] at h); exact lv_if_ge hx hb hd hok (fun q => by rw [if_pos q] at k; exact k) (fun q => by rw [if_neg q] at k; exact k)
  · cases hp; (rcases hn with h | rfl; · simp [am_isSw] at h); exact lv_if_gt hx hb hd hok (fun q => by rw [if_pos q] at k; exact k) (fun q => by rw [if_neg q] at k; exact k)
  · cases hp; (rcases hn with h | rfl; · simp [am_isSw] at h); exact lv_if_le hx hb hd hok (fun q => by rw [if_pos q] at k; exact k) (fun q => by rw [if_neg q] at k; exact k)
  · cases hp; (rcases hn with h | rfl; · simp [am_isSw] at h); exact lv_icmp_eq hx hb hd hok (fun q => by rw [if_pos q] at k; exact k) (fun q => by rw [if_neg q] at k; exact k)
  · cases hp; (rcases hn with h | rfl; · simp [am_isSw] at h); exact lv_icmp_ne hx hb hd hok (fun q => by rw [if_neg q] at k; exact k) (fun q => by rw [if_pos q] at k; exact k)
  · cases hp; (rcases hn with h | rfl; · simp [am_isSw] at h); exact lv_icmp_lt hx hb hd hok (fun q => by rw [if_pos q] at k; exact k) (fun q => by rw [if_neg q] at k; exact k)
  · cases hp; (rcases hn with h | rfl; · simp [am_isSw] at h); exact lv_icmp_ge hx hb hd hok (fun q => by rw [if_pos q] at k; exact k) (fun q => by rw [if_neg q] at k; exact k)
  · cases hp; (rcases hn with h | rfl; · simp [am_isSw] at h); exact lv_icmp_gt hx hb hd hok (fun q => by rw [if_pos q] at k; exact k) (fun q => by rw [if_neg q] at k; exact k)
  · cases hp; (rcases hn with h | rfl; · simp [am_isSw] at h); exact lv_icmp_le hx hb hd hok (fun q => by rw [if_pos q] at k; exact k) (fun q => by rw [if_neg q] at k; exact k)
  · cases hp; (rcases hn with h | rfl; · simp [am_isSw] at h); exact lv_ifnullN hx hb hd hok k
  · cases hp; (rcases hn with h | rfl; · simp [am_isSw] at h); exact lv_ifnull hx hb hd k
  · cases hp; (rcases hn with h | rfl; · simp [am_isSw] at h); exact lv_ifnonnullN hx hb hd k
  · cases hp; (rcases hn with h | rfl; · simp [am_isSw] at h); exact lv_ifnonnull hx hb hd hok k
  · rename_i d lo hi offs x rest
    cases hp
    obtain ⟨h1, h2, h3, h4⟩ := hok
    rcases am_sw_tab t x sw lo h4 with ⟨g1, g2⟩ | ⟨g1, g2, q, g3, g4⟩
    · rw [g2] at k
      exact lv_tableOut hx hb hd (by omega) h1 k
    · rw [g4] at k
      have h5 : (offs.toList.map (fun o => (pc : Int) + o))[(x.toInt - lo).toNat]? = some (q.2 : Int) := by rw [h3, List.getElem?_map, g3]; rfl
      rw [List.getElem?_map] at h5
      cases ho : offs.toList[(x.toInt - lo).toNat]? with
      | none => rw [ho] at h5; cases h5
      | some o =>
        rw [ho] at h5
        exact lv_tableIn hx hb hd (by omega) (by omega) (by rw [← Array.getElem?_toList]; exact ho) (Option.some.inj h5) k
  · cases hp
    obtain ⟨h1, h2, h3⟩ := hok
    exact lv_lookup hx hb hd h2 rfl (am_sw_look h1 _ _ _ h3) k
  · cases hp
end AMS
end

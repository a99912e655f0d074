/-! THE TABLE CHECKED BY COMPUTATION: booleans that the kernel reckons, and that they give am_okA -/
def am_mb (big : List Cond) (pos : Nat) (w : Cond) : Bool := goodWord w && match big[pos]? with
  | some z => decide (z = w)
  | none => false
def am_nb (big : List Cond) (pos : Nat) (w : Cond) : Bool := am_isN w && match big[pos]? with
  | some z => decide (z = w)
  | none => false
theorem am_mb_ok {big : List Cond} {pos : Nat} {w : Cond} (h : am_mb big pos w = true) : w ∈ big.filter goodWord := by
  unfold am_mb at h
  rw [Bool.and_eq_true] at h
  obtain ⟨h1, h2⟩ := h
  split at h2
  · rename_i z hz
    have e : z = w := of_decide_eq_true h2
    subst e
    exact List.mem_filter.mpr ⟨List.mem_of_getElem? hz, h1⟩
  · cases h2
theorem am_nb_ok {big : List Cond} {pos : Nat} {w : Cond} (h : am_nb big pos w = true) : w ∈ big.filter am_isN := by
  unfold am_nb at h
  rw [Bool.and_eq_true] at h
  obtain ⟨h1, h2⟩ := h
  split at h2
  · rename_i z hz
    have e : z = w := of_decide_eq_true h2
    subst e
    exact List.mem_filter.mpr ⟨List.mem_of_getElem? hz, h1⟩
  · cases h2
/-- the links of a file: constants, fields, kinds, methods, Object's constructor, arraycopy; each with its place in the pool and where its word stands -/
abbrev am_K : Type := List (Nat × Value × Nat) × List (Nat × Nat × Nat × Nat × String) × List (Nat × Nat × Nat) × List (Nat × Nat × Nat × String) × List (Nat × Nat) × List (Nat × Nat)
def am_ckc (big : List Cond) (own : String) (r : Nat × Value × Nat) : Bool := match r.2.1 with
  | .int x => am_mb big r.2.2 (.constant own r.1 x)
  | .long x => am_mb big r.2.2 (.constantLong own r.1 x)
  | _ => false
def am_ckf (big : List Cond) (cl : List vw_C) (own : String) (r : Nat × Nat × Nat × Nat × String) : Bool := match cl[r.2.1]? with
  | some q => decide (r.2.2.1 < q.2.2) && (bif r.2.2.2.2 == "" then am_mb big r.2.2.2.1 (.fieldLink own r.1 (q.2.1 r.2.2.1).1 (q.2.1 r.2.2.1).2.1 (q.2.1 r.2.2.1).2.2.1) else am_nb big r.2.2.2.1 (.fieldLinkNest own r.1 (q.2.1 r.2.2.1).1 (q.2.1 r.2.2.1).2.1 (q.2.1 r.2.2.1).2.2.1 r.2.2.2.2))
  | none => false
def am_ckn (big : List Cond) (cl : List vw_C) (own : String) (r : Nat × Nat × Nat) : Bool := match cl[r.2.1]? with
  | some q => am_mb big r.2.2 (.classLink own r.1 q.1)
  | none => false
def am_ckm (big : List Cond) (mt : Nat → am_M) (own : String) (r : Nat × Nat × Nat × String) : Bool := bif r.2.2.2 == "" then am_mb big r.2.2.1 (.methodLink own r.1 (mt r.2.1).1) else am_nb big r.2.2.1 (.methodLinkNest own r.1 (mt r.2.1).1 r.2.2.2)
def am_ckK (big : List Cond) (cl : List vw_C) (mt : Nat → am_M) (own : String) (K : am_K) : Bool := K.1.all (am_ckc big own) && (K.2.1.all (am_ckf big cl own) && (K.2.2.1.all (am_ckn big cl own) && (K.2.2.2.1.all (am_ckm big mt own) && (K.2.2.2.2.1.all (fun r => am_mb big r.2 (.methodLink own r.1 objectInit)) && K.2.2.2.2.2.all (fun r => am_mb big r.2 (.methodLink own r.1 arraycopyName))))))
/-- a method's words: kind of call, arguments, where the words stand -/
def am_ckJ (big : List Cond) (cl : List vw_C) (M : am_M) (kd na p1 p2 p3 p4 : Nat) : Bool := am_mb big p1 (.code M.1 M.2.1 M.2.2.1 M.2.2.2.1) && (am_mb big p2 (.initialized M.1.cls) && (plainName M.1.cls && (decide (M.1.cls ≠ "java/lang/invoke/MethodHandle") && (decide (M.1.cls ≠ "java/lang/invoke/VarHandle") && match kd with
  | 0 => am_mb big p3 (.static M.1) && decide ((parseMethodDescriptor M.1.desc).map (fun d => d.parameters.length) = some na)
  | 1 => am_mb big p3 (.instanceMethod M.1) && (decide (M.1.name = "<init>") && (decide (M.2.2.2.1 = none) && decide ((parseMethodDescriptor M.1.desc).map (fun d => d.parameters.length + 1) = some na)))
  | _ => am_mb big p3 (.instanceMethod M.1) && (am_mb big p4 (.selects M.1.cls M.1 M.1) && (decide ((parseMethodDescriptor M.1.desc).map (fun d => d.parameters.length + 1) = some na) && match cl[M.2.2.2.2.2]? with
    | some q => decide (q.1 = M.1.cls)
    | none => false))))))
/-- a kind's words: can be made, is initialised -/
def am_ckC (big : List Cond) (q : vw_C) (fty : Nat → FieldType) (dfl : List Value) (p1 p2 : Nat) (ps : List Nat) : Bool := am_mb big p1 (.instantiable q.1 q.2.2) && (am_mb big p2 (.initialized q.1) && (decide (dfl.length = q.2.2) && (decide (ps.length = q.2.2) && ((List.range q.2.2).all (fun k => decide (parseFieldDescriptor (q.2.1 k).2.2.1 = some (fty k)) && (decide (defaultValue (fty k) = vp_V dfl k) && match ps[k]? with
  | some p => am_mb big p (u_lay q.1 q.2.1 k)
  | none => false)) && (dfl.all (fun v => decide (v.asRef? = none) || decide (v = .null)) && decide (∀ a, a < q.2.2 → ∀ b, b < q.2.2 → a ≠ b → (q.2.1 a).2.1 ≠ (q.2.1 b).2.1))))))
def am_ck0 (K : am_K) (ins : Jvm.ClassFile.Instr) (v : Value) : Bool := match ins with
  | .iconst n => decide (v = .int (Int32.ofInt n))
  | .bipush n => decide (v = .int ((Int8.ofInt n).toInt32))
  | .sipush n => decide (v = .int ((Int16.ofInt n).toInt32))
  | .lconst n => decide (v = .long (Int64.ofNat n))
  | .ldc i => (match v with
    | .int _ => true
    | _ => false) && K.1.any (fun r => Nat.beq r.1 i && decide (r.2.1 = v))
  | .ldc2_w i => (match v with
    | .long _ => true
    | _ => false) && K.1.any (fun r => Nat.beq r.1 i && decide (r.2.1 = v))
  | _ => true
def am_ck1 (ins : Jvm.ClassFile.Instr) (v : Value) : Bool := match ins with
  | .iinc _ n => decide (v = .int (Int32.ofInt n))
  | _ => true
def am_ck2 (ins : Jvm.ClassFile.Instr) (pc t : Nat) (sw : List (Int32 × Nat)) : Bool := match ins with
  | .goto o => decide ((pc : Int) + o = (t : Int))
  | .ifCond _ o => decide ((pc : Int) + o = (t : Int))
  | .if_icmp _ o => decide ((pc : Int) + o = (t : Int))
  | .ifnull o => decide ((pc : Int) + o = (t : Int))
  | .ifnonnull o => decide ((pc : Int) + o = (t : Int))
  | .tableswitch d lo hi offs => decide ((pc : Int) + d = (t : Int)) && (decide (hi - lo + 1 = (sw.length : Int)) && (decide (offs.toList.map (fun o => (pc : Int) + o) = sw.map (fun q => (q.2 : Int))) && decide (sw.map (fun q => q.1.toInt) = (List.range sw.length).map (fun j : Nat => lo + (j : Int)))))
  | .lookupswitch d ps => decide ((pc : Int) + d = (t : Int)) && ((ps.toList.zip (ps.toList.drop 1)).all (fun (a, next) => a.1 < next.1) && decide (ps.toList.map (fun q => (q.1, (pc : Int) + q.2)) = sw.map (fun q => (q.1.toInt, (q.2 : Int)))))
  | _ => true
def am_fin (cl : List vw_C) (a1 a2 : Nat) : Bool := match cl[a1]? with
  | some q => (q.2.1 a2).2.2.2
  | none => true
def am_dec (cl : List vw_C) (a1 a2 : Nat) : String := match cl[a1]? with
  | some q => (q.2.1 a2).1
  | none => ""
def am_ck3 (cl : List vw_C) (aos : List String) (tl : List Nat) (oks : List Nat) (K : am_K) (y : MethodName) (rk : Nat × Nat) (ins : Jvm.ClassFile.Instr) (a1 a2 : Nat) : Bool := match ins with
  | .getfield i => K.2.1.any (fun r => Nat.beq r.1 i && (Nat.beq r.2.1 a1 && Nat.beq r.2.2.1 a2))
  | .putfield i => bif am_fin cl a1 a2 then y.name == "<init>" && (am_dec cl a1 a2 == y.cls && K.2.1.any (fun r => r.2.2.2.2 == "" && (Nat.beq r.1 i && (Nat.beq r.2.1 a1 && Nat.beq r.2.2.1 a2)))) else K.2.1.any (fun r => Nat.beq r.1 i && (Nat.beq r.2.1 a1 && Nat.beq r.2.2.1 a2))
  | .new i => oks.contains a1 && K.2.2.1.any (fun r => Nat.beq r.1 i && Nat.beq r.2.1 a1)
  | .newarray t => match t with
    | .int => tl.contains 0
    | .byte => tl.contains 1
    | .boolean => tl.contains 2
    | .long => tl.contains 3
    | _ => false
  | .anewarray i => tl.contains (a1 + 4) && (K.2.2.1.any (fun r => Nat.beq r.1 i && Nat.beq r.2.1 a1) && match cl[a1]? with
    | some q => aos.contains q.1
    | none => false)
  | .arraylength => tl.contains a1
  | .iaload => tl.contains 0
  | .iastore => tl.contains 0
  | .baload => (Nat.beq a1 1 || Nat.beq a1 2) && tl.contains a1
  | .bastore => (Nat.beq a1 1 || Nat.beq a1 2) && tl.contains a1
  | .laload => tl.contains 3
  | .lastore => tl.contains 3
  | .aaload => tl.contains (a1 + 4) && (cl[a1]?).isSome
  | .aastore => tl.contains (a1 + 4) && (cl[a1]?).isSome
  | .invokespecial i => Nat.ble 1 rk.1 && (Nat.ble 20 rk.2 && K.2.2.2.2.1.any (fun r => Nat.beq r.1 i))
  | .invokestatic i => Nat.ble 1 rk.1 && (Nat.ble 26 rk.2 && (tl.contains 1 && K.2.2.2.2.2.any (fun r => Nat.beq r.1 i)))
  | _ => false
def am_ck4 (mt : Nat → am_M) (mj : Nat → Nat × Nat) (nM : Nat) (K : am_K) (rk : Nat × Nat) (ins : Jvm.ClassFile.Instr) (a1 a2 : Nat) : Bool := Nat.blt a1 nM && (Nat.blt (mt a1).2.2.2.2.1.1 rk.1 && (Nat.ble (8 + ((mt a1).2.2.1 + 11) + (mt a1).2.2.2.2.1.2) rk.2 && (Nat.beq (mj a1).2 a2 && match ins with
  | .invokestatic i => Nat.beq (mj a1).1 0 && K.2.2.2.1.any (fun r => Nat.beq r.1 i && Nat.beq r.2.1 a1)
  | .invokespecial i => Nat.beq (mj a1).1 1 && K.2.2.2.1.any (fun r => Nat.beq r.1 i && Nat.beq r.2.1 a1)
  | .invokevirtual i => Nat.ble 2 (mj a1).1 && K.2.2.2.1.any (fun r => Nat.beq r.1 i && Nat.beq r.2.1 a1)
  | _ => false)))
def am_ckE (cl : List vw_C) (aos : List String) (tl oks : List Nat) (mt : Nat → am_M) (mj : Nat → Nat × Nat) (nM : Nat) (K : am_K) (mi : Nat) (q : Nat × am_I) : Bool := match q.2 with
  | (k, ins, len, a1, a2, v, sw, _) => decide (decode (mt mi).2.1 q.1 = .ok (ins, len)) && ((am_isSw ins || Nat.beq len (am_len ins)) && match k with
    | 0 => !am_isSw ins && am_ck0 K ins v
    | 1 => !am_isSw ins && am_ck1 ins v
    | 2 => am_ck2 ins q.1 a1 sw
    | 3 => !am_isSw ins && am_ck3 cl aos tl oks K (mt mi).1 (mt mi).2.2.2.2.1 ins a1 a2
    | 4 => !am_isSw ins && am_ck4 mt mj nM K (mt mi).2.2.2.2.1 ins a1 a2
    | _ => true)
def am_find (pc : Nat) : List (Nat × am_I) → Option am_I
  | [] => none
  | q :: r => bif Nat.beq q.1 pc then some q.2 else am_find pc r
theorem am_find_mem {pc : Nat} {en : am_I} : ∀ {l : List (Nat × am_I)}, am_find pc l = some en → (pc, en) ∈ l
  | [], h => by cases h
  | q :: r, h => by
    unfold am_find at h
    cases hb : Nat.beq q.1 pc with
    | true =>
      rw [hb] at h
      have e := Nat.eq_of_beq_eq_true hb
      have e2 : q.2 = en := Option.some.inj h
      rw [← e, ← e2]
      exact List.mem_cons_self
    | false =>
      rw [hb] at h
      exact List.mem_cons_of_mem _ (am_find_mem h)
section AMK
variable {big : List Cond} {cl : List vw_C} {aos : List String} {tl oks : List Nat} {mt : Nat → am_M} {mj : Nat → Nat × Nat} {nM : Nat} {K : am_K} {P : am_P} {mi : Nat} {ins : Jvm.ClassFile.Instr} {a1 a2 : Nat} {v : Value} {y : MethodName} {rk : Nat × Nat}
abbrev am_tb (big : List Cond) : List Cond := big.filter goodWord
abbrev am_ns (big : List Cond) : List Cond := big.filter am_isN
theorem am_ckf_ok {own : String} {r : Nat × Nat × Nat × Nat × String} (h : am_ckf big cl own r = true) : ∃ q, cl[r.2.1]? = some q ∧ r.2.2.1 < q.2.2 ∧ am_lnk (am_tb big) (am_ns big) own r.1 (q.2.1 r.2.2.1) ∧ (r.2.2.2.2 = "" → Cond.fieldLink own r.1 (q.2.1 r.2.2.1).1 (q.2.1 r.2.2.1).2.1 (q.2.1 r.2.2.1).2.2.1 ∈ am_tb big) := by
  unfold am_ckf at h
  split at h
  · rename_i q hq
    rw [Bool.and_eq_true] at h
    obtain ⟨h1, h2⟩ := h
    refine ⟨q, hq, of_decide_eq_true h1, ?_⟩
    cases hb : (r.2.2.2.2 == "") with
    | true =>
      rw [hb] at h2
      exact ⟨Or.inl (am_mb_ok h2), fun _ => am_mb_ok h2⟩
    | false =>
      rw [hb] at h2
      refine ⟨Or.inr ⟨_, am_nb_ok h2⟩, fun e => ?_⟩
      rw [e] at hb
      cases hb
  · cases h
theorem am_fld_ok {own : String} {i : Nat} (hK : K.2.1.all (am_ckf big cl own) = true) (h : K.2.1.any (fun r => Nat.beq r.1 i && (Nat.beq r.2.1 a1 && Nat.beq r.2.2.1 a2)) = true) : ∃ q, cl[a1]? = some q ∧ a2 < q.2.2 ∧ am_lnk (am_tb big) (am_ns big) own i (q.2.1 a2) := by
  obtain ⟨r, hr, h⟩ := List.any_eq_true.mp h
  simp only [Bool.and_eq_true] at h
  obtain ⟨q, q1, q2, q3, -⟩ := am_ckf_ok (List.all_eq_true.mp hK r hr)
  rw [← Nat.eq_of_beq_eq_true h.1, ← Nat.eq_of_beq_eq_true h.2.1, ← Nat.eq_of_beq_eq_true h.2.2]
  exact ⟨q, q1, q2, q3⟩
/-- a kind's words are given -/
def am_okq (big : List Cond) (cl : List vw_C) (P : am_P) (oks : List Nat) : Prop := ∀ ci ∈ oks, ∃ q, cl[ci]? = some q ∧ Cond.instantiable q.1 q.2.2 ∈ am_tb big ∧ Cond.initialized q.1 ∈ am_tb big ∧ (P.2 ci).length = q.2.2 ∧ (∀ j, j < q.2.2 → defaultValue (P.1 ci j) = vp_V (P.2 ci) j) ∧ ∀ v ∈ P.2 ci, v.asRef? = none ∨ v = .null
/-- the methods' words are given -/
def am_okj (big : List Cond) (cl : List vw_C) (mt : Nat → am_M) (mj : Nat → Nat × Nat) (nM : Nat) : Prop := ∀ j, j < nM → ∃ p1 p2 p3 p4, am_ckJ big cl (mt j) (mj j).1 (mj j).2 p1 p2 p3 p4 = true
/-- what natives and arrays need -/
def am_okx (big : List Cond) (tl : List Nat) : Prop := Cond.instanceMethod objectInit ∈ am_tb big ∧ Cond.code objectInit ⟨#[0xb1]⟩ 1 none ∈ am_tb big ∧ Cond.native arraycopyName ∈ am_tb big ∧ Cond.static arraycopyName ∈ am_tb big ∧ Cond.initialized "java/lang/System" ∈ am_tb big ∧ (0 ∈ tl → Cond.arrayClass .int ∈ am_tb big) ∧ (1 ∈ tl → Cond.arrayClass .byte ∈ am_tb big) ∧ (2 ∈ tl → Cond.arrayClass .boolean ∈ am_tb big) ∧ (3 ∈ tl → Cond.arrayClass .long ∈ am_tb big)
theorem am_con {l : List Nat} {x : Nat} (h : l.contains x = true) : x ∈ l := by simpa using h
set_option maxHeartbeats 4000000 in
theorem am_ck0_ok {own : String} (hK : K.1.all (am_ckc big own) = true) (h : am_ck0 K ins v = true) : am_ok0 (am_tb big) own ins v := by
  have key : ∀ i, K.1.any (fun r => Nat.beq r.1 i && decide (r.2.1 = v)) = true → ∃ r, am_ckc big own r = true ∧ r.1 = i ∧ r.2.1 = v := by
    intro i h
    obtain ⟨r, hr, h⟩ := List.any_eq_true.mp h
    simp only [Bool.and_eq_true, decide_eq_true_eq] at h
    exact ⟨r, List.all_eq_true.mp hK r hr, Nat.eq_of_beq_eq_true h.1, h.2⟩
  unfold am_ck0 at h
  split at h
  · have h := of_decide_eq_true h; exact h
  · have h := of_decide_eq_true h; exact h
  · have h := of_decide_eq_true h; exact h
  · have h := of_decide_eq_true h; exact h
  · rw [Bool.and_eq_true] at h
    obtain ⟨h1, h2⟩ := h
    split at h1
    · obtain ⟨r, g1, g2, g3⟩ := key _ h2
      unfold am_ckc at g1
      rw [g3] at g1
      exact ⟨_, rfl, by rw [← g2]; exact am_mb_ok g1⟩
    · cases h1
  · rw [Bool.and_eq_true] at h
    obtain ⟨h1, h2⟩ := h
    split at h1
    · obtain ⟨r, g1, g2, g3⟩ := key _ h2
      unfold am_ckc at g1
      rw [g3] at g1
      exact ⟨_, rfl, by rw [← g2]; exact am_mb_ok g1⟩
    · cases h1
  · rename_i h1 h2 h3 h4 h5 h6
    unfold am_ok0
    split
    · exact absurd rfl (h1 _)
    · exact absurd rfl (h2 _)
    · exact absurd rfl (h3 _)
    · exact absurd rfl (h4 _)
    · exact absurd rfl (h5 _)
    · exact absurd rfl (h6 _)
    · trivial
theorem am_ck1_ok (h : am_ck1 ins v = true) : am_ok1 ins v := by
  unfold am_ck1 at h
  split at h
  · have h := of_decide_eq_true h; exact h
  · rename_i h1
    unfold am_ok1
    split
    · exact absurd rfl (h1 _ _)
    · trivial
theorem am_ck2_ok {pc t : Nat} {sw : List (Int32 × Nat)} (h : am_ck2 ins pc t sw = true) : am_ok2 ins pc t sw := by
  unfold am_ck2 at h
  split at h
  · have h := of_decide_eq_true h; exact h
  · have h := of_decide_eq_true h; exact h
  · have h := of_decide_eq_true h; exact h
  · have h := of_decide_eq_true h; exact h
  · have h := of_decide_eq_true h; exact h
  · simp only [Bool.and_eq_true, decide_eq_true_eq] at h
    exact ⟨h.1, h.2.1, h.2.2.1, h.2.2.2⟩
  · simp only [Bool.and_eq_true, decide_eq_true_eq] at h
    exact ⟨h.1, h.2.1, h.2.2⟩
  · rename_i h1 h2 h3 h4 h5 h6 h7
    unfold am_ok2
    split
    · exact absurd rfl (h1 _)
    · exact absurd rfl (h2 _ _)
    · exact absurd rfl (h3 _ _)
    · exact absurd rfl (h4 _)
    · exact absurd rfl (h5 _)
    · exact absurd rfl (h6 _ _ _ _)
    · exact absurd rfl (h7 _ _)
    · trivial
set_option maxHeartbeats 4000000 in
theorem am_ck3_ok (hK : am_ckK big cl mt y.cls K = true) (hq : am_okq big cl P oks) (hx : am_okx big tl) (h : am_ck3 cl aos tl oks K y rk ins a1 a2 = true) : am_ok3 cl (am_tb big) (am_ns big) aos tl P.1 P.2 y rk ins a1 a2 := by
  unfold am_ckK at hK
  simp only [Bool.and_eq_true] at hK
  obtain ⟨k1, k2, k3, k4, k5, k6⟩ := hK
  have cls : ∀ i, K.2.2.1.any (fun r => Nat.beq r.1 i && Nat.beq r.2.1 a1) = true → ∃ q, cl[a1]? = some q ∧ Cond.classLink y.cls i q.1 ∈ am_tb big := by
    intro i h
    obtain ⟨r, hr, h⟩ := List.any_eq_true.mp h
    simp only [Bool.and_eq_true] at h
    have g := List.all_eq_true.mp k3 r hr
    unfold am_ckn at g
    rw [Nat.eq_of_beq_eq_true h.1, Nat.eq_of_beq_eq_true h.2] at g
    split at g
    · rename_i q hq
      exact ⟨q, hq, am_mb_ok g⟩
    · cases g
  unfold am_ck3 at h
  split at h
  · exact am_fld_ok k2 h
  · rename_i i
    cases hf : am_fin cl a1 a2 with
    | false =>
      rw [hf] at h
      obtain ⟨q, q1, q2, q3⟩ := am_fld_ok k2 h
      refine ⟨q, q1, q2, Or.inl ⟨?_, q3⟩⟩
      unfold am_fin at hf
      rw [q1] at hf
      exact hf
    | true =>
      rw [hf] at h
      simp only [cond_true, Bool.and_eq_true, beq_iff_eq] at h
      obtain ⟨g1, g2, g3⟩ := h
      obtain ⟨r, hr, g3⟩ := List.any_eq_true.mp g3
      simp only [Bool.and_eq_true, beq_iff_eq] at g3
      obtain ⟨e0, e1, e2, e3⟩ := g3
      obtain ⟨q, q1, q2, q3, q4⟩ := am_ckf_ok (List.all_eq_true.mp k2 r hr)
      have q4 := q4 e0
      rw [Nat.eq_of_beq_eq_true e1, Nat.eq_of_beq_eq_true e3] at q4
      rw [Nat.eq_of_beq_eq_true e2] at q1
      rw [Nat.eq_of_beq_eq_true e3] at q2
      unfold am_fin at hf
      rw [q1] at hf
      unfold am_dec at g2
      rw [q1] at g2
      exact ⟨q, q1, q2, Or.inr ⟨hf, g1, g2, q4⟩⟩
  · rw [Bool.and_eq_true] at h
    obtain ⟨q, q1, q2, q3, q4, q5, q6⟩ := hq a1 (am_con h.1)
    obtain ⟨q', p1, p2⟩ := cls _ h.2
    have e : q' = q := Option.some.inj (p1.symm.trans q1)
    subst e
    exact ⟨q', q1, p2, q2, q3, q4, q5, q6⟩
  · split at h
    · exact ⟨hx.2.2.2.2.2.1 (am_con h), Or.inl ⟨rfl, am_con h⟩⟩
    · exact ⟨hx.2.2.2.2.2.2.1 (am_con h), Or.inr (Or.inl ⟨rfl, am_con h⟩)⟩
    · exact ⟨hx.2.2.2.2.2.2.2.1 (am_con h), Or.inr (Or.inr (Or.inl ⟨rfl, am_con h⟩))⟩
    · exact ⟨hx.2.2.2.2.2.2.2.2 (am_con h), Or.inr (Or.inr (Or.inr ⟨rfl, am_con h⟩))⟩
    · cases h
  · simp only [Bool.and_eq_true] at h
    obtain ⟨h1, h2, h3⟩ := h
    obtain ⟨q, p1, p2⟩ := cls _ h2
    rw [p1] at h3
    exact ⟨q, p1, p2, by simpa using h3, am_con h1⟩
  · exact am_con h
  · exact am_con h
  · exact am_con h
  · simp only [Bool.and_eq_true, Bool.or_eq_true] at h
    exact ⟨h.1.imp Nat.eq_of_beq_eq_true Nat.eq_of_beq_eq_true, am_con h.2⟩
  · simp only [Bool.and_eq_true, Bool.or_eq_true] at h
    exact ⟨h.1.imp Nat.eq_of_beq_eq_true Nat.eq_of_beq_eq_true, am_con h.2⟩
  · exact am_con h
  · exact am_con h
  · simp only [Bool.and_eq_true] at h
    exact ⟨Option.isSome_iff_exists.mp h.2, am_con h.1⟩
  · simp only [Bool.and_eq_true] at h
    exact ⟨Option.isSome_iff_exists.mp h.2, am_con h.1⟩
  · simp only [Bool.and_eq_true] at h
    obtain ⟨h1, h2, h3⟩ := h
    obtain ⟨r, hr, h3⟩ := List.any_eq_true.mp h3
    have g := am_mb_ok (List.all_eq_true.mp k5 r hr)
    rw [Nat.eq_of_beq_eq_true h3] at g
    exact ⟨⟨Nat.le_of_ble_eq_true h1, Nat.le_of_ble_eq_true h2⟩, g, hx.1, hx.2.1⟩
  · simp only [Bool.and_eq_true] at h
    obtain ⟨h1, h2, h3, h4⟩ := h
    obtain ⟨r, hr, h4⟩ := List.any_eq_true.mp h4
    have g := am_mb_ok (List.all_eq_true.mp k6 r hr)
    rw [Nat.eq_of_beq_eq_true h4] at g
    exact ⟨⟨Nat.le_of_ble_eq_true h1, Nat.le_of_ble_eq_true h2⟩, g, hx.2.2.1, hx.2.2.2.1, hx.2.2.2.2.1, am_con h3⟩
  · cases h
set_option maxHeartbeats 4000000 in
theorem am_ck4_ok {own : String} (hK : am_ckK big cl mt own K = true) (hj : am_okj big cl mt mj nM) (h : am_ck4 mt mj nM K rk ins a1 a2 = true) : am_ok4 cl (am_tb big) (am_ns big) own rk ins (mt a1) a2 := by
  unfold am_ckK at hK
  simp only [Bool.and_eq_true] at hK
  obtain ⟨k1, k2, k3, k4, k5, k6⟩ := hK
  have lnk : ∀ i, K.2.2.2.1.any (fun r => Nat.beq r.1 i && Nat.beq r.2.1 a1) = true → am_lnkM (am_tb big) (am_ns big) own i (mt a1).1 := by
    intro i h
    obtain ⟨r, hr, h⟩ := List.any_eq_true.mp h
    simp only [Bool.and_eq_true] at h
    have g := List.all_eq_true.mp k4 r hr
    unfold am_ckm at g
    rw [Nat.eq_of_beq_eq_true h.1, Nat.eq_of_beq_eq_true h.2] at g
    cases hb : (r.2.2.2 == "") with
    | true => rw [hb] at g; exact Or.inl (am_mb_ok g)
    | false => rw [hb] at g; exact Or.inr ⟨_, am_nb_ok g⟩
  unfold am_ck4 at h
  simp only [Bool.and_eq_true] at h
  obtain ⟨h0, h1, h2, h3, h4⟩ := h
  have h0 : a1 < nM := Nat.le_of_ble_eq_true h0
  have h1 : (mt a1).2.2.2.2.1.1 < rk.1 := Nat.le_of_ble_eq_true h1
  have h2 := Nat.le_of_ble_eq_true h2
  have h3 := Nat.eq_of_beq_eq_true h3
  obtain ⟨p1, p2, p3, p4, hJ⟩ := hj a1 h0
  rw [h3] at hJ
  unfold am_ckJ at hJ
  simp only [Bool.and_eq_true, decide_eq_true_eq] at hJ
  obtain ⟨j1, j2, j3, j4, j5, j6⟩ := hJ
  refine ⟨⟨h1, h2⟩, ⟨am_mb_ok j1, am_mb_ok j2, j3, j4, j5⟩, ?_⟩
  split at h4
  · simp only [Bool.and_eq_true] at h4
    rw [Nat.eq_of_beq_eq_true h4.1] at j6
    simp only [Bool.and_eq_true, decide_eq_true_eq] at j6
    exact ⟨j6.2, am_mb_ok j6.1, lnk _ h4.2⟩
  · simp only [Bool.and_eq_true] at h4
    rw [Nat.eq_of_beq_eq_true h4.1] at j6
    simp only [Bool.and_eq_true, decide_eq_true_eq] at j6
    exact ⟨j6.2.2.2, j6.2.1, j6.2.2.1, am_mb_ok j6.1, lnk _ h4.2⟩
  · simp only [Bool.and_eq_true] at h4
    have hge := Nat.le_of_ble_eq_true h4.1
    obtain ⟨kd, hkd⟩ : ∃ kd, (mj a1).1 = kd + 2 := ⟨(mj a1).1 - 2, by omega⟩
    rw [hkd] at j6
    simp only [Bool.and_eq_true, decide_eq_true_eq] at j6
    obtain ⟨g1, g2, g3, g4⟩ := j6
    split at g4
    · rename_i q hq
      exact ⟨g3, ⟨q, hq, of_decide_eq_true g4⟩, am_mb_ok g1, am_mb_ok g2, lnk _ h4.2⟩
    · cases g4
  · cases h4
theorem am_ckE_ok {pc : Nat} {en : am_I} (hK : am_ckK big cl mt (mt mi).1.cls K = true) (hq : am_okq big cl P oks) (hx : am_okx big tl) (hj : am_okj big cl mt mj nM) (h : am_ckE cl aos tl oks mt mj nM K mi (pc, en) = true) : am_okK cl (am_tb big) (am_ns big) aos tl P mt mi pc en := by
  obtain ⟨k, ins, len, a1, a2, v, sw, lm⟩ := en
  unfold am_ckE at h
  simp only [Bool.and_eq_true, decide_eq_true_eq, Bool.or_eq_true] at h
  obtain ⟨h1, h2, h3⟩ := h
  refine ⟨h1, h2.imp id Nat.eq_of_beq_eq_true, ?_⟩
  have K0 := hK
  unfold am_ckK at K0
  simp only [Bool.and_eq_true] at K0
  split at h3
  · simp only [Bool.and_eq_true, Bool.not_eq_true'] at h3
    exact ⟨h3.1, am_ck0_ok K0.1 h3.2⟩
  · simp only [Bool.and_eq_true, Bool.not_eq_true'] at h3
    exact ⟨h3.1, am_ck1_ok h3.2⟩
  · exact am_ck2_ok h3
  · simp only [Bool.and_eq_true, Bool.not_eq_true'] at h3
    exact ⟨h3.1, am_ck3_ok hK hq hx h3.2⟩
  · simp only [Bool.and_eq_true, Bool.not_eq_true'] at h3
    exact ⟨h3.1, am_ck4_ok hK hj h3.2⟩
  · rename_i g0 g1 g2 g3 g4
    split
    · exact absurd rfl g0
    · exact absurd rfl g1
    · exact absurd rfl g2
    · exact absurd rfl g3
    · exact absurd rfl g4
    · trivial
end AMK

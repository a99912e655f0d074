/-! THE TABLE CHECKED BY COMPUTATION: booleans that the kernel reckons, and that they give am_okA -/
/-- the links of a file, by places in its pool: constants; fields; final fields that its constructors write; kinds; methods; Object's constructor; natives -/
abbrev am_K : Type := List (Nat × Value) × List (Nat × Nat × Nat) × List (Nat × Nat × Nat) × List (Nat × Nat) × List (Nat × Nat) × List Nat × List (Nat × Nat)
def am_vc (tbl : List Cond) (own : String) (r : Nat × Value) : Prop := match r.2 with
  | .int x => Cond.constant own r.1 x ∈ tbl
  | .long x => Cond.constantLong own r.1 x ∈ tbl
  | _ => False
def am_vf (tbl nst : List Cond) (cl : List vw_C) (own : String) (r : Nat × Nat × Nat) : Prop := ∃ q, cl[r.2.1]? = some q ∧ r.2.2 < q.2.2 ∧ am_lnk tbl nst own r.1 (q.2.1 r.2.2)
def am_vg (tbl : List Cond) (cl : List vw_C) (own : String) (r : Nat × Nat × Nat) : Prop := ∃ q, cl[r.2.1]? = some q ∧ r.2.2 < q.2.2 ∧ (q.2.1 r.2.2).2.2.2 = true ∧ (q.2.1 r.2.2).1 = own ∧ Cond.fieldLink own r.1 (q.2.1 r.2.2).1 (q.2.1 r.2.2).2.1 (q.2.1 r.2.2).2.2.1 ∈ tbl
def am_vn (tbl : List Cond) (cl : List vw_C) (own : String) (r : Nat × Nat) : Prop := ∃ q, cl[r.2]? = some q ∧ Cond.classLink own r.1 q.1 ∈ tbl
def am_vx (tbl : List Cond) (tl : List Nat) (own : String) (r : Nat × Nat) : Prop := match r.2 with
  | 1 => Cond.methodLink own r.1 Lib.Math.max.name ∈ tbl ∧ Cond.static Lib.Math.max.name ∈ tbl ∧ Cond.initialized "java/lang/Math" ∈ tbl ∧ Cond.code Lib.Math.max.name Lib.Math.max.code 2 (some .int) ∈ tbl
  | 2 => Cond.methodLink own r.1 Lib.Math.min.name ∈ tbl ∧ Cond.static Lib.Math.min.name ∈ tbl ∧ Cond.initialized "java/lang/Math" ∈ tbl ∧ Cond.code Lib.Math.min.name Lib.Math.min.code 2 (some .int) ∈ tbl
  | _ => Cond.methodLink own r.1 arraycopyName ∈ tbl ∧ Cond.native arraycopyName ∈ tbl ∧ Cond.static arraycopyName ∈ tbl ∧ Cond.initialized "java/lang/System" ∈ tbl ∧ 1 ∈ tl
def am_vK (tbl nst : List Cond) (cl : List vw_C) (tl : List Nat) (mt : Nat → am_M) (own : String) (K : am_K) : Prop := (∀ r ∈ K.1, am_vc tbl own r) ∧ (∀ r ∈ K.2.1, am_vf tbl nst cl own r) ∧ (∀ r ∈ K.2.2.1, am_vg tbl cl own r) ∧ (∀ r ∈ K.2.2.2.1, am_vn tbl cl own r) ∧ (∀ r ∈ K.2.2.2.2.1, am_lnkM tbl nst own r.1 (mt r.2).1) ∧ (∀ r ∈ K.2.2.2.2.2.1, Cond.methodLink own r objectInit ∈ tbl) ∧ (∀ r ∈ K.2.2.2.2.2.2, am_vx tbl tl own r)
/-- a method's words: kind of call, arguments -/
def am_vJ (tbl : List Cond) (cl : List vw_C) (M : am_M) (kd na : Nat) : Prop := am_okM tbl M ∧ match kd with
  | 0 => Cond.static M.1 ∈ tbl ∧ (parseMethodDescriptor M.1.desc).map (fun d => d.parameters.length) = some na
  | 1 => Cond.instanceMethod M.1 ∈ tbl ∧ M.1.name = "<init>" ∧ M.2.2.2.1 = none ∧ (parseMethodDescriptor M.1.desc).map (fun d => d.parameters.length + 1) = some na
  | _ => Cond.instanceMethod M.1 ∈ tbl ∧ Cond.selects M.1.cls M.1 M.1 ∈ tbl ∧ (parseMethodDescriptor M.1.desc).map (fun d => d.parameters.length + 1) = some na ∧ ∃ q, cl[M.2.2.2.2.2]? = some q ∧ q.1 = M.1.cls
theorem am_fa0 {α : Type} {p : α → Prop} : ∀ x ∈ ([] : List α), p x := fun _ h => absurd h List.not_mem_nil
theorem am_fa1 {α : Type} {p : α → Prop} {a : α} {l : List α} (h : p a) (t : ∀ x ∈ l, p x) : ∀ x ∈ a :: l, p x := List.forall_mem_cons.mpr ⟨h, t⟩
def am_ck0 (K : am_K) (ins : Jvm.ClassFile.Instr) (v : Value) : Bool := match ins with
  | .iconst n => decide (v = .int (Int32.ofInt n))
  | .bipush n => decide (v = .int ((Int8.ofInt n).toInt32))
  | .sipush n => decide (v = .int ((Int16.ofInt n).toInt32))
  | .lconst n => decide (v = .long (Int64.ofNat n))
  | .ldc i => (match v with
    | .int _ => true
    | _ => false) && K.1.any (fun r => Nat.beq r.1 i && decide (r.2 = v))
  | .ldc2_w i => (match v with
    | .long _ => true
    | _ => false) && K.1.any (fun r => Nat.beq r.1 i && decide (r.2 = v))
  | _ => true
def am_ck1 (ins : Jvm.ClassFile.Instr) (v : Value) : Bool := match ins with
  | .iinc _ n => decide (v = .int (Int32.ofInt n))
  | _ => true
def am_ck2 (ins : Jvm.ClassFile.Instr) (pc t : Nat) (sw : List (Int32 × Nat)) : Bool := match ins with
  | .goto o => decide ((pc : Int) + o = (t : Int))
  | .ifCond _ o => decide ((pc : Int) + o = (t : Int))
  | .if_icmp _ o => decide ((pc : Int) + o = (t : Int))
  | .ifnull o => decide ((pc : Int) + o = (t : Int))
  | .ifnonnull o => decide ((pc : Int) + o = (t : Int))
  | .tableswitch d lo hi offs => decide ((pc : Int) + d = (t : Int)) && (decide (hi - lo + 1 = (sw.length : Int)) && (decide (offs.toList.map (fun o => (pc : Int) + o) = sw.map (fun q => (q.2 : Int))) && decide (sw.map (fun q => q.1.toInt) = (List.range sw.length).map (fun j : Nat => lo + (j : Int)))))
  | .lookupswitch d ps => decide ((pc : Int) + d = (t : Int)) && ((ps.toList.zip (ps.toList.drop 1)).all (fun (a, next) => a.1 < next.1) && decide (ps.toList.map (fun q => (q.1, (pc : Int) + q.2)) = sw.map (fun q => (q.1.toInt, (q.2 : Int)))))
  | _ => true
def am_fin (cl : List vw_C) (a1 a2 : Nat) : Bool := match cl[a1]? with
  | some q => (q.2.1 a2).2.2.2
  | none => true
def am_ck3 (cl : List vw_C) (aos : List String) (tl : List Nat) (oks : List Nat) (K : am_K) (kd : Nat) (rk : Nat × Nat) (ins : Jvm.ClassFile.Instr) (a1 a2 : Nat) : Bool := match ins with
  | .getfield i => K.2.1.any (fun r => Nat.beq r.1 i && (Nat.beq r.2.1 a1 && Nat.beq r.2.2 a2))
  | .putfield i => bif am_fin cl a1 a2 then Nat.beq kd 1 && K.2.2.1.any (fun r => Nat.beq r.1 i && (Nat.beq r.2.1 a1 && Nat.beq r.2.2 a2)) else K.2.1.any (fun r => Nat.beq r.1 i && (Nat.beq r.2.1 a1 && Nat.beq r.2.2 a2))
  | .new i => oks.contains a1 && K.2.2.2.1.any (fun r => Nat.beq r.1 i && Nat.beq r.2 a1)
  | .newarray t => match t with
    | .int => tl.contains 0
    | .byte => tl.contains 1
    | .boolean => tl.contains 2
    | .long => tl.contains 3
    | _ => false
  | .anewarray i => tl.contains (a1 + 4) && (K.2.2.2.1.any (fun r => Nat.beq r.1 i && Nat.beq r.2 a1) && match cl[a1]? with
    | some q => aos.contains q.1
    | none => false)
  | .arraylength => tl.contains a1
  | .iaload => tl.contains 0
  | .iastore => tl.contains 0
  | .baload => (Nat.beq a1 1 || Nat.beq a1 2) && tl.contains a1
  | .bastore => (Nat.beq a1 1 || Nat.beq a1 2) && tl.contains a1
  | .laload => tl.contains 3
  | .lastore => tl.contains 3
  | .aaload => tl.contains (a1 + 4) && (cl[a1]?).isSome
  | .aastore => tl.contains (a1 + 4) && (cl[a1]?).isSome
  | .invokespecial i => Nat.ble 1 rk.1 && (Nat.ble 20 rk.2 && K.2.2.2.2.2.1.any (fun r => Nat.beq r i))
  | .invokestatic i => Nat.ble 1 rk.1 && (Nat.ble 26 rk.2 && K.2.2.2.2.2.2.any (fun r => Nat.beq r.1 i && Nat.beq r.2 a1))
  | _ => false
def am_ck4 (mt : Nat → am_M) (mj : Nat → Nat × Nat) (nM : Nat) (K : am_K) (rk : Nat × Nat) (ins : Jvm.ClassFile.Instr) (a1 a2 : Nat) : Bool := Nat.ble 1 a1 && (Nat.blt a1 nM && (Nat.blt (mt a1).2.2.2.2.1.1 rk.1 && (Nat.ble (8 + ((mt a1).2.2.1 + 11) + (mt a1).2.2.2.2.1.2) rk.2 && (Nat.beq (mj a1).2 a2 && match ins with
  | .invokestatic i => Nat.beq (mj a1).1 0 && K.2.2.2.2.1.any (fun r => Nat.beq r.1 i && Nat.beq r.2 a1)
  | .invokespecial i => Nat.beq (mj a1).1 1 && K.2.2.2.2.1.any (fun r => Nat.beq r.1 i && Nat.beq r.2 a1)
  | .invokevirtual i => Nat.ble 2 (mj a1).1 && K.2.2.2.2.1.any (fun r => Nat.beq r.1 i && Nat.beq r.2 a1)
  | _ => false))))
def am_ckE (cl : List vw_C) (aos : List String) (tl oks : List Nat) (mt : Nat → am_M) (mj : Nat → Nat × Nat) (nM : Nat) (K : am_K) (mi : Nat) (q : Nat × am_I) : Bool := match q.2 with
  | (k, ins, len, a1, a2, v, sw, _) => decide (decode (mt mi).2.1 q.1 = .ok (ins, len)) && ((am_isSw ins || Nat.beq len (am_len ins)) && match k with
    | 0 => !am_isSw ins && am_ck0 K ins v
    | 1 => !am_isSw ins && am_ck1 ins v
    | 2 => am_ck2 ins q.1 a1 sw
    | 3 => !am_isSw ins && am_ck3 cl aos tl oks K (mj mi).1 (mt mi).2.2.2.2.1 ins a1 a2
    | 4 => !am_isSw ins && am_ck4 mt mj nM K (mt mi).2.2.2.2.1 ins a1 a2
    | _ => true)
def am_find (pc : Nat) : List (Nat × am_I) → Option am_I
  | [] => none
  | q :: r => bif Nat.beq q.1 pc then some q.2 else am_find pc r
theorem am_find_mem {pc : Nat} {en : am_I} : ∀ {l : List (Nat × am_I)}, am_find pc l = some en → (pc, en) ∈ l
  | [], h => by cases h
  | q :: r, h => by
    unfold am_find at h
    cases hb : Nat.beq q.1 pc with
    | true =>
      rw [hb] at h
      have e := Nat.eq_of_beq_eq_true hb
      have e2 : q.2 = en := Option.some.inj h
      rw [← e, ← e2]
      exact List.mem_cons_self
    | false =>
      rw [hb] at h
      exact List.mem_cons_of_mem _ (am_find_mem h)
section AMK
variable {tbl nst : List Cond} {cl : List vw_C} {aos : List String} {tl oks : List Nat} {mt : Nat → am_M} {mj : Nat → Nat × Nat} {nM : Nat} {K : am_K} {P : am_P} {mi : Nat} {ins : Jvm.ClassFile.Instr} {a1 a2 kd : Nat} {v : Value} {y : MethodName} {rk : Nat × Nat} {own : String}
theorem am_fld_ok {i : Nat} (hK : ∀ r ∈ K.2.1, am_vf tbl nst cl own r) (h : K.2.1.any (fun r => Nat.beq r.1 i && (Nat.beq r.2.1 a1 && Nat.beq r.2.2 a2)) = true) : ∃ q, cl[a1]? = some q ∧ a2 < q.2.2 ∧ am_lnk tbl nst own i (q.2.1 a2) := by
  obtain ⟨r, hr, h⟩ := List.any_eq_true.mp h
  simp only [Bool.and_eq_true] at h
  have g := hK r hr
  unfold am_vf at g
  rw [Nat.eq_of_beq_eq_true h.1, Nat.eq_of_beq_eq_true h.2.1, Nat.eq_of_beq_eq_true h.2.2] at g
  exact g
/-- a kind's words are given -/
def am_okq (tbl : List Cond) (cl : List vw_C) (P : am_P) (oks : List Nat) : Prop := ∀ ci ∈ oks, ∃ q, cl[ci]? = some q ∧ Cond.instantiable q.1 q.2.2 ∈ tbl ∧ Cond.initialized q.1 ∈ tbl ∧ (P.2 ci).length = q.2.2 ∧ (∀ j, j < q.2.2 → defaultValue (P.1 ci j) = vp_V (P.2 ci) j) ∧ ∀ v ∈ P.2 ci, v.asRef? = none ∨ v = .null
/-- the methods' words are given -/
def am_okj (tbl : List Cond) (cl : List vw_C) (mt : Nat → am_M) (mj : Nat → Nat × Nat) (nM : Nat) : Prop := ∀ j, 0 < j → j < nM → am_vJ tbl cl (mt j) (mj j).1 (mj j).2
/-- what Object's constructor and arrays need -/
def am_okx (tbl : List Cond) (tl : List Nat) : Prop := Cond.instanceMethod objectInit ∈ tbl ∧ Cond.code objectInit ⟨#[0xb1]⟩ 1 none ∈ tbl ∧ (0 ∈ tl → Cond.arrayClass .int ∈ tbl) ∧ (1 ∈ tl → Cond.arrayClass .byte ∈ tbl) ∧ (2 ∈ tl → Cond.arrayClass .boolean ∈ tbl) ∧ (3 ∈ tl → Cond.arrayClass .long ∈ tbl)
theorem am_con {l : List Nat} {x : Nat} (h : l.contains x = true) : x ∈ l := by simpa using h
set_option maxHeartbeats 4000000 in
theorem am_ck0_ok (hK : ∀ r ∈ K.1, am_vc tbl own r) (h : am_ck0 K ins v = true) : am_ok0 tbl own ins v := by
  have key : ∀ i, K.1.any (fun r => Nat.beq r.1 i && decide (r.2 = v)) = true → ∃ r, am_vc tbl own r ∧ r.1 = i ∧ r.2 = v := by
    intro i h
    obtain ⟨r, hr, h⟩ := List.any_eq_true.mp h
    simp only [Bool.and_eq_true, decide_eq_true_eq] at h
    exact ⟨r, hK r hr, Nat.eq_of_beq_eq_true h.1, h.2⟩
  unfold am_ck0 at h
  split at h
  · have h := of_decide_eq_true h; exact h
  · have h := of_decide_eq_true h; exact h
  · have h := of_decide_eq_true h; exact h
  · have h := of_decide_eq_true h; exact h
  · rw [Bool.and_eq_true] at h
    obtain ⟨h1, h2⟩ := h
    split at h1
    · obtain ⟨r, g1, g2, g3⟩ := key _ h2
      unfold am_vc at g1
      rw [g3] at g1
      exact ⟨_, rfl, by rw [← g2]; exact g1⟩
    · cases h1
  · rw [Bool.and_eq_true] at h
    obtain ⟨h1, h2⟩ := h
    split at h1
    · obtain ⟨r, g1, g2, g3⟩ := key _ h2
      unfold am_vc at g1
      rw [g3] at g1
      exact ⟨_, rfl, by rw [← g2]; exact g1⟩
    · cases h1
  · rename_i h1 h2 h3 h4 h5 h6
    unfold am_ok0
    split
    · exact absurd rfl (h1 _)
    · exact absurd rfl (h2 _)
    · exact absurd rfl (h3 _)
    · exact absurd rfl (h4 _)
    · exact absurd rfl (h5 _)
    · exact absurd rfl (h6 _)
    · trivial
theorem am_ck1_ok (h : am_ck1 ins v = true) : am_ok1 ins v := by
  unfold am_ck1 at h
  split at h
  · have h := of_decide_eq_true h; exact h
  · rename_i h1
    unfold am_ok1
    split
    · exact absurd rfl (h1 _ _)
    · trivial
theorem am_ck2_ok {pc t : Nat} {sw : List (Int32 × Nat)} (h : am_ck2 ins pc t sw = true) : am_ok2 ins pc t sw := by
  unfold am_ck2 at h
  split at h
  · have h := of_decide_eq_true h; exact h
  · have h := of_decide_eq_true h; exact h
  · have h := of_decide_eq_true h; exact h
  · have h := of_decide_eq_true h; exact h
  · have h := of_decide_eq_true h; exact h
  · simp only [Bool.and_eq_true, decide_eq_true_eq] at h
    exact ⟨h.1, h.2.1, h.2.2.1, h.2.2.2⟩
  · simp only [Bool.and_eq_true, decide_eq_true_eq] at h
    exact ⟨h.1, h.2.1, h.2.2⟩
  · rename_i h1 h2 h3 h4 h5 h6 h7
    unfold am_ok2
    split
    · exact absurd rfl (h1 _)
    · exact absurd rfl (h2 _ _)
    · exact absurd rfl (h3 _ _)
    · exact absurd rfl (h4 _)
    · exact absurd rfl (h5 _)
    · exact absurd rfl (h6 _ _ _ _)
    · exact absurd rfl (h7 _ _)
    · trivial
set_option maxHeartbeats 4000000 in
theorem am_ck3_ok (hK : am_vK tbl nst cl tl mt y.cls K) (hkd : kd = 1 → y.name = "<init>") (hq : am_okq tbl cl P oks) (hx : am_okx tbl tl) (h : am_ck3 cl aos tl oks K kd rk ins a1 a2 = true) : am_ok3 cl tbl nst aos tl P.1 P.2 y rk ins a1 a2 := by
  obtain ⟨k1, k2, k3, k4, k5, k6, k7⟩ := hK
  have cls : ∀ i, K.2.2.2.1.any (fun r => Nat.beq r.1 i && Nat.beq r.2 a1) = true → ∃ q, cl[a1]? = some q ∧ Cond.classLink y.cls i q.1 ∈ tbl := by
    intro i h
    obtain ⟨r, hr, h⟩ := List.any_eq_true.mp h
    simp only [Bool.and_eq_true] at h
    have g := k4 r hr
    unfold am_vn at g
    rw [Nat.eq_of_beq_eq_true h.1, Nat.eq_of_beq_eq_true h.2] at g
    exact g
  unfold am_ck3 at h
  split at h
  · exact am_fld_ok k2 h
  · rename_i i
    cases hf : am_fin cl a1 a2 with
    | false =>
      rw [hf] at h
      obtain ⟨q, q1, q2, q3⟩ := am_fld_ok k2 h
      refine ⟨q, q1, q2, Or.inl ⟨?_, q3⟩⟩
      unfold am_fin at hf
      rw [q1] at hf
      exact hf
    | true =>
      rw [hf] at h
      simp only [cond_true, Bool.and_eq_true] at h
      obtain ⟨g1, g3⟩ := h
      obtain ⟨r, hr, g3⟩ := List.any_eq_true.mp g3
      simp only [Bool.and_eq_true] at g3
      have g := k3 r hr
      unfold am_vg at g
      rw [Nat.eq_of_beq_eq_true g3.1, Nat.eq_of_beq_eq_true g3.2.1, Nat.eq_of_beq_eq_true g3.2.2] at g
      obtain ⟨q, q1, q2, q3, q4, q5⟩ := g
      exact ⟨q, q1, q2, Or.inr ⟨q3, hkd (Nat.eq_of_beq_eq_true g1), q4, q5⟩⟩
  · rw [Bool.and_eq_true] at h
    obtain ⟨q, q1, q2, q3, q4, q5, q6⟩ := hq a1 (am_con h.1)
    obtain ⟨q', p1, p2⟩ := cls _ h.2
    have e : q' = q := Option.some.inj (p1.symm.trans q1)
    subst e
    exact ⟨q', q1, p2, q2, q3, q4, q5, q6⟩
  · split at h
    · exact ⟨hx.2.2.1 (am_con h), Or.inl ⟨rfl, am_con h⟩⟩
    · exact ⟨hx.2.2.2.1 (am_con h), Or.inr (Or.inl ⟨rfl, am_con h⟩)⟩
    · exact ⟨hx.2.2.2.2.1 (am_con h), Or.inr (Or.inr (Or.inl ⟨rfl, am_con h⟩))⟩
    · exact ⟨hx.2.2.2.2.2 (am_con h), Or.inr (Or.inr (Or.inr ⟨rfl, am_con h⟩))⟩
    · cases h
  · simp only [Bool.and_eq_true] at h
    obtain ⟨h1, h2, h3⟩ := h
    obtain ⟨q, p1, p2⟩ := cls _ h2
    rw [p1] at h3
    exact ⟨q, p1, p2, by simpa using h3, am_con h1⟩
  · exact am_con h
  · exact am_con h
  · exact am_con h
  · simp only [Bool.and_eq_true, Bool.or_eq_true] at h
    exact ⟨h.1.imp Nat.eq_of_beq_eq_true Nat.eq_of_beq_eq_true, am_con h.2⟩
  · simp only [Bool.and_eq_true, Bool.or_eq_true] at h
    exact ⟨h.1.imp Nat.eq_of_beq_eq_true Nat.eq_of_beq_eq_true, am_con h.2⟩
  · exact am_con h
  · exact am_con h
  · simp only [Bool.and_eq_true] at h
    exact ⟨Option.isSome_iff_exists.mp h.2, am_con h.1⟩
  · simp only [Bool.and_eq_true] at h
    exact ⟨Option.isSome_iff_exists.mp h.2, am_con h.1⟩
  · simp only [Bool.and_eq_true] at h
    obtain ⟨h1, h2, h3⟩ := h
    obtain ⟨r, hr, h3⟩ := List.any_eq_true.mp h3
    have g := k6 r hr
    rw [Nat.eq_of_beq_eq_true h3] at g
    exact ⟨⟨Nat.le_of_ble_eq_true h1, Nat.le_of_ble_eq_true h2⟩, g, hx.1, hx.2.1⟩
  · simp only [Bool.and_eq_true] at h
    obtain ⟨h1, h2, h4⟩ := h
    obtain ⟨r, hr, h4⟩ := List.any_eq_true.mp h4
    simp only [Bool.and_eq_true] at h4
    have g := k7 r hr
    unfold am_vx at g
    rw [Nat.eq_of_beq_eq_true h4.1, Nat.eq_of_beq_eq_true h4.2] at g
    exact ⟨⟨Nat.le_of_ble_eq_true h1, Nat.le_of_ble_eq_true h2⟩, g⟩
  · cases h
set_option maxHeartbeats 4000000 in
theorem am_ck4_ok (hK : am_vK tbl nst cl tl mt own K) (hj : am_okj tbl cl mt mj nM) (h : am_ck4 mt mj nM K rk ins a1 a2 = true) : am_ok4 cl tbl nst own rk ins (mt a1) a2 := by
  obtain ⟨k1, k2, k3, k4, k5, k6, k7⟩ := hK
  have lnk : ∀ i, K.2.2.2.2.1.any (fun r => Nat.beq r.1 i && Nat.beq r.2 a1) = true → am_lnkM tbl nst own i (mt a1).1 := by
    intro i h
    obtain ⟨r, hr, h⟩ := List.any_eq_true.mp h
    simp only [Bool.and_eq_true] at h
    have g := k5 r hr
    rw [Nat.eq_of_beq_eq_true h.1, Nat.eq_of_beq_eq_true h.2] at g
    exact g
  unfold am_ck4 at h
  simp only [Bool.and_eq_true] at h
  obtain ⟨h00, h0, h1, h2, h3, h4⟩ := h
  have h00 : 0 < a1 := Nat.le_of_ble_eq_true h00
  have h0 : a1 < nM := Nat.le_of_ble_eq_true h0
  have h1 : (mt a1).2.2.2.2.1.1 < rk.1 := Nat.le_of_ble_eq_true h1
  have h2 := Nat.le_of_ble_eq_true h2
  have h3 := Nat.eq_of_beq_eq_true h3
  have hJ := hj a1 h00 h0
  rw [h3] at hJ
  obtain ⟨j1, j6⟩ := hJ
  refine ⟨⟨h1, h2⟩, j1, ?_⟩
  split at h4
  · simp only [Bool.and_eq_true] at h4
    rw [Nat.eq_of_beq_eq_true h4.1] at j6
    exact ⟨j6.2, j6.1, lnk _ h4.2⟩
  · simp only [Bool.and_eq_true] at h4
    rw [Nat.eq_of_beq_eq_true h4.1] at j6
    exact ⟨j6.2.2.2, j6.2.1, j6.2.2.1, j6.1, lnk _ h4.2⟩
  · simp only [Bool.and_eq_true] at h4
    have hge := Nat.le_of_ble_eq_true h4.1
    obtain ⟨kd, hkd⟩ : ∃ kd, (mj a1).1 = kd + 2 := ⟨(mj a1).1 - 2, by omega⟩
    rw [hkd] at j6
    exact ⟨j6.2.2.1, j6.2.2.2, j6.1, j6.2.1, lnk _ h4.2⟩
  · cases h4
theorem am_ckE_ok {pc : Nat} {en : am_I} (hK : am_vK tbl nst cl tl mt (mt mi).1.cls K) (hkd : (mj mi).1 = 1 → (mt mi).1.name = "<init>") (hq : am_okq tbl cl P oks) (hx : am_okx tbl tl) (hj : am_okj tbl cl mt mj nM) (h : am_ckE cl aos tl oks mt mj nM K mi (pc, en) = true) : am_okK cl tbl nst aos tl P mt mi pc en := by
  obtain ⟨k, ins, len, a1, a2, v, sw, lm⟩ := en
  unfold am_ckE at h
  simp only [Bool.and_eq_true, decide_eq_true_eq, Bool.or_eq_true] at h
  obtain ⟨h1, h2, h3⟩ := h
  refine ⟨h1, h2.imp id Nat.eq_of_beq_eq_true, ?_⟩
  split at h3
  · simp only [Bool.and_eq_true, Bool.not_eq_true'] at h3
    exact ⟨h3.1, am_ck0_ok hK.1 h3.2⟩
  · simp only [Bool.and_eq_true, Bool.not_eq_true'] at h3
    exact ⟨h3.1, am_ck1_ok h3.2⟩
  · exact am_ck2_ok h3
  · simp only [Bool.and_eq_true, Bool.not_eq_true'] at h3
    exact ⟨h3.1, am_ck3_ok hK hkd hq hx h3.2⟩
  · simp only [Bool.and_eq_true, Bool.not_eq_true'] at h3
    exact ⟨h3.1, am_ck4_ok hK hj h3.2⟩
  · rename_i g0 g1 g2 g3 g4
    split
    · exact absurd rfl g0
    · exact absurd rfl g1
    · exact absurd rfl g2
    · exact absurd rfl g3
    · exact absurd rfl g4
    · trivial
end AMK
section AMV
variable {tbl nst : List Cond} {cl : List vw_C} {own : String} {M : am_M} {na : Nat} {q : vw_C} {tl : List Nat}
theorem am_vf_p {r : Nat × Nat × Nat} (h1 : cl[r.2.1]? = some q) (h2 : r.2.2 < q.2.2) (h3 : Cond.fieldLink own r.1 (q.2.1 r.2.2).1 (q.2.1 r.2.2).2.1 (q.2.1 r.2.2).2.2.1 ∈ tbl) : am_vf tbl nst cl own r := ⟨q, h1, h2, Or.inl h3⟩
theorem am_vf_n {r : Nat × Nat × Nat} {host : String} (h1 : cl[r.2.1]? = some q) (h2 : r.2.2 < q.2.2) (h3 : Cond.fieldLinkNest own r.1 (q.2.1 r.2.2).1 (q.2.1 r.2.2).2.1 (q.2.1 r.2.2).2.2.1 host ∈ nst) : am_vf tbl nst cl own r := ⟨q, h1, h2, Or.inr ⟨host, h3⟩⟩
theorem am_vg_p {r : Nat × Nat × Nat} (h1 : cl[r.2.1]? = some q) (h2 : r.2.2 < q.2.2) (h4 : (q.2.1 r.2.2).2.2.2 = true) (h5 : (q.2.1 r.2.2).1 = own) (h3 : Cond.fieldLink own r.1 (q.2.1 r.2.2).1 (q.2.1 r.2.2).2.1 (q.2.1 r.2.2).2.2.1 ∈ tbl) : am_vg tbl cl own r := ⟨q, h1, h2, h4, h5, h3⟩
theorem am_vn_p {r : Nat × Nat} (h1 : cl[r.2]? = some q) (h3 : Cond.classLink own r.1 q.1 ∈ tbl) : am_vn tbl cl own r := ⟨q, h1, h3⟩
theorem am_vx0 {i : Nat} (h1 : Cond.methodLink own i arraycopyName ∈ tbl) (h2 : Cond.native arraycopyName ∈ tbl) (h3 : Cond.static arraycopyName ∈ tbl) (h4 : Cond.initialized "java/lang/System" ∈ tbl) (h5 : 1 ∈ tl) : am_vx tbl tl own (i, 0) := ⟨h1, h2, h3, h4, h5⟩
theorem am_vx1 {i : Nat} (h1 : Cond.methodLink own i Lib.Math.max.name ∈ tbl) (h2 : Cond.static Lib.Math.max.name ∈ tbl) (h3 : Cond.initialized "java/lang/Math" ∈ tbl) (h4 : Cond.code Lib.Math.max.name Lib.Math.max.code 2 (some .int) ∈ tbl) : am_vx tbl tl own (i, 1) := ⟨h1, h2, h3, h4⟩
theorem am_vx2 {i : Nat} (h1 : Cond.methodLink own i Lib.Math.min.name ∈ tbl) (h2 : Cond.static Lib.Math.min.name ∈ tbl) (h3 : Cond.initialized "java/lang/Math" ∈ tbl) (h4 : Cond.code Lib.Math.min.name Lib.Math.min.code 2 (some .int) ∈ tbl) : am_vx tbl tl own (i, 2) := ⟨h1, h2, h3, h4⟩
theorem am_vJ0 (h : am_okM tbl M) (h1 : Cond.static M.1 ∈ tbl) (h2 : (parseMethodDescriptor M.1.desc).map (fun d => d.parameters.length) = some na) : am_vJ tbl cl M 0 na := ⟨h, h1, h2⟩
theorem am_vJ1 (h : am_okM tbl M) (h1 : Cond.instanceMethod M.1 ∈ tbl) (h3 : M.1.name = "<init>") (h4 : M.2.2.2.1 = none) (h2 : (parseMethodDescriptor M.1.desc).map (fun d => d.parameters.length + 1) = some na) : am_vJ tbl cl M 1 na := ⟨h, h1, h3, h4, h2⟩
theorem am_vJ2 (h : am_okM tbl M) (h1 : Cond.instanceMethod M.1 ∈ tbl) (h3 : Cond.selects M.1.cls M.1 M.1 ∈ tbl) (h2 : (parseMethodDescriptor M.1.desc).map (fun d => d.parameters.length + 1) = some na) (h4 : cl[M.2.2.2.2.2]? = some q) (h5 : q.1 = M.1.cls) : am_vJ tbl cl M 2 na := ⟨h, h1, h3, h2, q, h4, h5⟩
end AMV

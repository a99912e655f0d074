/-! THE ABSTRACT MACHINE IS SOUND: what am_run answers, the machine does (W). b: the script's cell, sz: the heap's size when the law began, dA: the id of each kind of array -/
def am_ad (b sz : Nat) : Nat → Nat
  | 0 => b
  | i + 1 => sz + i
def am_tv (b sz : Nat) (v : Value) : Value := match v with
  | .ref i => .ref (am_ad b sz i)
  | v => v
def am_enc (b sz : Nat) (dA : Nat → ClassId) (c : am_C) : va_E := match c with
  | .inl (t, n, .inl f) => .inl (dA t, n, .inl f)
  | .inl (t, n, .inr (.inl f)) => .inl (dA t, n, .inr (.inl f))
  | .inl (t, n, .inr (.inr f)) => .inl (dA t, n, .inr (.inr (.inr (.inr (fun k => (f k).map (am_ad b sz))))))
  | .inr (ci, fs) => .inr (ci, fs.map (am_tv b sz))
def am_wsF (b sz : Nat) (dA : Nat → ClassId) : Nat → am_H → va_W
  | _, [] => []
  | k, c :: r => (k, am_enc b sz dA c) :: am_wsF b sz dA (k + 1) r
abbrev am_ws (b sz : Nat) (dA : Nat → ClassId) (h : am_H) : va_W := am_wsF b sz dA sz h
section AMW
variable {b sz : Nat} {dA : Nat → ClassId}
theorem am_wsF_get (h : am_H) : ∀ (k i : Nat), (am_wsF b sz dA k h)[i]? = h[i]?.map (fun c => (k + i, am_enc b sz dA c)) := by
  induction h with
  | nil => intro k i; simp [am_wsF]
  | cons c r ih =>
    intro k i
    cases i with
    | zero => simp [am_wsF]
    | succ i =>
      simp only [am_wsF, List.getElem?_cons_succ]
      rw [ih (k + 1) i, show k + 1 + i = k + (i + 1) by omega]
theorem am_ws_get {h : am_H} {i : Nat} {c : am_C} (hc : h[i]? = some c) : (am_ws b sz dA h)[i]? = some (sz + i, am_enc b sz dA c) := by
  rw [am_wsF_get, hc]; rfl
theorem am_wsF_set (h : am_H) (c : am_C) : ∀ (k i : Nat), am_wsF b sz dA k (h.set i c) = (am_wsF b sz dA k h).set i (k + i, am_enc b sz dA c) := by
  induction h with
  | nil => intro k i; simp [am_wsF]
  | cons d r ih =>
    intro k i
    cases i with
    | zero => simp [am_wsF]
    | succ i =>
      simp only [List.set_cons_succ, am_wsF]
      rw [ih (k + 1) i, show k + 1 + i = k + (i + 1) by omega]
theorem am_wsF_app (h : am_H) (c : am_C) : ∀ k : Nat, am_wsF b sz dA k (h ++ [c]) = am_wsF b sz dA k h ++ [(k + h.length, am_enc b sz dA c)] := by
  induction h with
  | nil => intro k; simp [am_wsF]
  | cons d r ih =>
    intro k
    simp only [List.cons_append, am_wsF, List.length_cons]
    rw [ih (k + 1), show k + 1 + r.length = k + (r.length + 1) by omega]
theorem am_ws_D (h : am_H) : va_D (fun q : Nat => sz ≤ q) (am_ws b sz dA h) := by
  have key : ∀ (i : Nat) (q : Nat × va_E), (am_ws b sz dA h)[i]? = some q → q.1 = sz + i := by
    intro i q hq
    rw [am_wsF_get] at hq
    cases hc : h[i]? with
    | none => rw [hc] at hq; cases hq
    | some c => rw [hc] at hq; cases hq; rfl
  refine ⟨fun i j p q hi hj hpq => ?_, fun k q hk => ?_⟩
  · have h1 := key i p hi
    have h2 := key j q hj
    omega
  · have h1 := key k q hk
    show sz ≤ q.1
    omega
theorem am_ws_len (h : am_H) : ∀ k, (am_wsF b sz dA k h).length = h.length := by
  induction h with
  | nil => intro k; rfl
  | cons c r ih => intro k; simp [am_wsF, ih]
theorem am_tv_cat (v : Value) : (am_tv b sz v).category = v.category := by cases v <;> rfl
theorem am_tv_nar {ty : FieldType} {v : Value} (h : narrow ty v = v) : narrow ty (am_tv b sz v) = am_tv b sz v := by
  cases v with
  | ref i => cases ty <;> rfl
  | _ => exact h
theorem am_tv_fits {ty : FieldType} {v : Value} (h : fits ty v = true) : fits ty (am_tv b sz v) = true := by
  cases v with
  | ref i => cases ty <;> first | exact h | (simp [fits] at h)
  | _ => exact h
theorem am_tv_rf (r : Option Nat) : am_tv b sz (am_rf r) = va_rf (r.map (am_ad b sz)) := by cases r <;> rfl
theorem am_sum_tv (st : List Value) : ((st.map (am_tv b sz)).map fun v => v.category).sum = (st.map fun v => v.category).sum := by
  rw [List.map_map]
  congr 1
  apply List.map_congr_left
  intro v _
  exact am_tv_cat v
/-- locals -/
abbrev am_lvT (b sz : Nat) (lv : am_L) : am_L := lv.map (fun q => (q.1, am_tv b sz q.2))
theorem am_ld_mem : ∀ {lv : am_L} {i : Nat} {v : Value}, am_ld lv i = some v → (i, v) ∈ lv
  | [], i, v, h => by simp [am_ld] at h
  | q :: l, i, v, h => by
    unfold am_ld at h
    cases hb : Nat.beq q.1 i with
    | true =>
      rw [hb] at h
      have e := Nat.eq_of_beq_eq_true hb
      simp at h
      rw [← e, ← h]
      exact List.mem_cons_self
    | false =>
      rw [hb] at h
      exact List.mem_cons_of_mem _ (am_ld_mem h)
theorem am_ins_mem {i : Nat} {v : Value} : ∀ {l : am_L} {q : Nat × Value}, q ∈ am_ins i v l → q ∈ (i, v) :: l
  | [], q, h => h
  | p :: l, q, h => by
    unfold am_ins at h
    cases hb : Nat.ble i p.1 with
    | true => rw [hb] at h; exact h
    | false =>
      rw [hb] at h
      rcases List.mem_cons.mp h with h | h
      · rw [h]; exact List.mem_cons_of_mem _ List.mem_cons_self
      · rcases List.mem_cons.mp (am_ins_mem h) with h | h
        · rw [h]; exact List.mem_cons_self
        · exact List.mem_cons_of_mem _ (List.mem_cons_of_mem _ h)
theorem am_has_of {ls : Array Slot} {nL : Nat} {l l' : am_L} (h : lv_has ls nL l) (hs : ∀ q ∈ l', q ∈ l) : lv_has ls nL l' := ⟨h.1, h.2.1, fun q hq => h.2.2 q (hs q hq)⟩
theorem am_has_ld {ls : Array Slot} {nL : Nat} {lv : am_L} {i : Nat} {v : Value} (h : lv_has ls nL (am_lvT b sz lv)) (hl : am_ld lv i = some v) : ls[i]? = some (.val (am_tv b sz v)) :=
  h.2.2 (i, am_tv b sz v) (List.mem_map.mpr ⟨(i, v), am_ld_mem hl, rfl⟩)
theorem am_has_live {ls : Array Slot} {nL : Nat} {lv : am_L} {lm : Option (List Nat)} (h : lv_has ls nL (am_lvT b sz lv)) : lv_has ls nL (am_lvT b sz (am_live lm lv)) := by
  cases lm with
  | none => exact h
  | some m =>
    refine am_has_of h fun q hq => ?_
    obtain ⟨z, hz, e⟩ := List.mem_map.mp hq
    exact List.mem_map.mpr ⟨z, (List.mem_filter.mp hz).1, e⟩
theorem am_has_st1 {ls : Array Slot} {nL i : Nat} {lv : am_L} {v : Value} (h : lv_has ls nL ((i, am_tv b sz v) :: (am_lvT b sz lv).filter (fun q => !(q.1 == i) && !(q.1 + 1 == i && q.2.category == 2)))) : lv_has ls nL (am_lvT b sz (am_st1 lv i v)) := by
  refine am_has_of h fun q hq => ?_
  obtain ⟨z, hz, e⟩ := List.mem_map.mp hq
  rcases List.mem_cons.mp (am_ins_mem hz) with hz | hz
  · rw [← e, hz]; exact List.mem_cons_self
  · obtain ⟨h1, h2⟩ := List.mem_filter.mp hz
    refine List.mem_cons_of_mem _ (List.mem_filter.mpr ⟨List.mem_map.mpr ⟨z, h1, e⟩, ?_⟩)
    rw [← e]
    simpa [am_tv_cat] using h2
theorem am_has_st2 {ls : Array Slot} {nL i : Nat} {lv : am_L} {v : Value} (h : lv_has ls nL ((i, am_tv b sz v) :: (am_lvT b sz lv).filter (fun q => !(q.1 == i) && (!(q.1 == i + 1) && !(q.1 + 1 == i && q.2.category == 2))))) : lv_has ls nL (am_lvT b sz (am_st2 lv i v)) := by
  refine am_has_of h fun q hq => ?_
  obtain ⟨z, hz, e⟩ := List.mem_map.mp hq
  rcases List.mem_cons.mp (am_ins_mem hz) with hz | hz
  · rw [← e, hz]; exact List.mem_cons_self
  · obtain ⟨h1, h2⟩ := List.mem_filter.mp hz
    refine List.mem_cons_of_mem _ (List.mem_filter.mpr ⟨List.mem_map.mpr ⟨z, h1, e⟩, ?_⟩)
    rw [← e]
    simpa [am_tv_cat] using h2
theorem am_args_tv (as : List Value) : ∀ i : Nat, lv_args i (as.map (am_tv b sz)) = am_lvT b sz (lv_args i as) := by
  induction as with
  | nil => intro i; rfl
  | cons v vs ih => intro i; simp only [List.map_cons, lv_args, am_tv_cat, ih]
theorem am_sl_len (vs : List Value) : (lg_sl vs).length = (vs.map fun v => v.category).sum := by
  induction vs with
  | nil => rfl
  | cons v vs ih =>
    have e : lg_sl (v :: vs) = (if v.category = 2 then [Slot.val v, .second] else [.val v]) ++ lg_sl vs := by simp [lg_sl]
    rw [e, List.length_append, ih, List.map_cons, List.sum_cons]
    rcases lv_cat v with h | h <;> simp [h]
theorem am_get_eq {h : am_H} {i : Nat} {c : am_C} (hc : am_get h i = some c) : ∃ j, i = j + 1 ∧ h[j]? = some c := by
  cases i with
  | zero => simp [am_get] at hc
  | succ j => exact ⟨j, rfl, hc⟩
theorem am_in_vp {j : Int32} {n : Nat} (h : am_in j n = true) : vp_in j n := by
  simp only [am_in, Bool.and_eq_true, Bool.not_eq_true', decide_eq_false_iff_not, decide_eq_true_eq] at h
  rintro (q | q)
  · exact h.1 q
  · omega
end AMW
/-- lengths of the instructions that have one -/
def am_len : Jvm.ClassFile.Instr → Nat
  | .bipush _ => 2
  | .sipush _ => 3
  | .ldc _ => 2
  | .ldc2_w _ => 3
  | .iload _ => 2
  | .lload _ => 2
  | .aload _ => 2
  | .istore _ => 2
  | .lstore _ => 2
  | .astore _ => 2
  | .iinc _ _ => 3
  | .goto _ => 3
  | .ifCond _ _ => 3
  | .if_icmp _ _ => 3
  | .ifnull _ => 3
  | .ifnonnull _ => 3
  | .getfield _ => 3
  | .putfield _ => 3
  | .new _ => 3
  | .newarray _ => 2
  | .anewarray _ => 3
  | .invokespecial _ => 3
  | .invokestatic _ => 3
  | .invokevirtual _ => 3
  | _ => 1
def am_isSw : Jvm.ClassFile.Instr → Bool
  | .tableswitch _ _ _ _ => true
  | .lookupswitch _ _ => true
  | _ => false
/-- constants -/
def am_ok0 (tbl : List Cond) (own : String) (ins : Jvm.ClassFile.Instr) (v : Value) : Prop := match ins with
  | .iconst n => v = .int (Int32.ofInt n)
  | .bipush n => v = .int ((Int8.ofInt n).toInt32)
  | .sipush n => v = .int ((Int16.ofInt n).toInt32)
  | .lconst n => v = .long (Int64.ofNat n)
  | .ldc i => ∃ x : Int32, v = .int x ∧ Cond.constant own i x ∈ tbl
  | .ldc2_w i => ∃ x : Int64, v = .long x ∧ Cond.constantLong own i x ∈ tbl
  | _ => True
section AMS
variable {p : Program} {l : Launch} {e : Env} {R : Room} {s : State} {m : MethodId} {args : Array Value} {below : List Frame} {meth : Method} {c : Code} {H : Heap} {locs : List Loc} {cells slots : Nat} {Q : State → Prop}
variable {cc : ByteArray} {pc len : Nat} {ls : Array Slot} {b sz : Nat} {tbl : List Cond} {own : String} {ins : Jvm.ClassFile.Instr} {v : Value} {st st' : List Value}
set_option maxHeartbeats 4000000 in
theorem am_pure_W (hx : p.tables.exec = Jvm.exec) (hb : c.code = cc) (hown : s.vm.findClass own = some m.cls) (hts : ∀ w ∈ tbl, w.before args s = true) (hd : decode cc pc = .ok (ins, len)) (hn : len = am_len ins) (hok : am_ok0 tbl own ins v) (hp : am_pure ins v st = some st')
    (k : W p l e R s m args below meth c H locs cells slots Q (F0 m (pc + len) ls (st'.map (am_tv b sz)))) : W p l e R s m args below meth c H locs cells slots Q (F0 m pc ls (st.map (am_tv b sz))) := by
  subst hn
  unfold am_pure at hp
  split at hp
  · cases hp; exact lv_null hx hb hd k
  · cases hp; cases (show v = _ from hok); exact lv_iconst hx hb hd rfl k
  · cases hp; cases (show v = _ from hok); exact lv_bipush hx hb hd rfl k
  · cases hp; cases (show v = _ from hok); exact lv_sipush hx hb hd rfl k
  · cases hp; cases (show v = _ from hok); exact lv_lconst hx hb hd rfl k
  · cases hp; obtain ⟨x, rfl, hw⟩ := hok; exact lv_ldc hx hb hown (hts _ hw) hd k
  · cases hp; obtain ⟨x, rfl, hw⟩ := hok; exact lv_ldc2 hx hb hown (hts _ hw) hd k
  · cases hp; exact lv_iadd hx hb hd k
  · cases hp; exact lv_isub hx hb hd k
  · cases hp; exact lv_imul hx hb hd k
  · cases hp; exact lv_iand hx hb hd k
  · cases hp; exact lv_ior hx hb hd k
  · cases hp; exact lv_ixor hx hb hd k
  · split at hp
    · cases hp
    · cases hp; rename_i hz; exact lv_idiv hx hb hd hz k
  · split at hp
    · cases hp
    · cases hp; rename_i hz; exact lv_irem hx hb hd hz k
  · cases hp; exact lv_ineg hx hb hd k
  · cases hp; exact lv_ishl hx hb hd k
  · cases hp; exact lv_ishr hx hb hd k
  · cases hp; exact lv_iushr hx hb hd rfl k
  · cases hp; exact lv_ladd hx hb hd k
  · cases hp; exact lv_lsub hx hb hd k
  · cases hp; exact lv_lmul hx hb hd k
  · cases hp; exact lv_land hx hb hd k
  · cases hp; exact lv_lor hx hb hd k
  · cases hp; exact lv_lxor hx hb hd k
  · split at hp
    · cases hp
    · cases hp; rename_i hz; exact lv_ldiv hx hb hd hz k
  · split at hp
    · cases hp
    · cases hp; rename_i hz; exact lv_lrem hx hb hd hz k
  · cases hp; exact lv_lneg hx hb hd k
  · cases hp; exact lv_lshl hx hb hd rfl k
  · cases hp; exact lv_lshr hx hb hd rfl k
  · cases hp; exact lv_lushr hx hb hd rfl k
  · cases hp; exact W.lcmp hx hb hd k
  · cases hp; exact lv_i2l hx hb hd rfl k
  · cases hp; exact lv_l2i hx hb hd rfl k
  · cases hp; exact lv_i2b hx hb hd rfl k
  · cases hp; exact lv_i2s hx hb hd rfl k
  · cases hp; exact lv_i2c hx hb hd rfl k
  · split at hp
    · rename_i hc; cases hp; exact lv_pop hx hb hd (by rw [am_tv_cat]; exact hc) k
    · cases hp
  · split at hp
    · rename_i hc; cases hp; exact lv_dup hx hb hd (by rw [am_tv_cat]; exact hc) k
    · cases hp
  · split at hp
    · rename_i hc; cases hp; exact lv_dup_x1 hx hb hd (by rw [am_tv_cat]; exact hc.1) (by rw [am_tv_cat]; exact hc.2) k
    · cases hp
  · split at hp
    · rename_i hc; cases hp; exact lv_dup_x2 hx hb hd (by rw [am_tv_cat]; exact hc.1) (by rw [am_tv_cat]; exact hc.2.1) (by rw [am_tv_cat]; exact hc.2.2) k
    · cases hp
  · split at hp
    · rename_i hc; cases hp; exact lv_pop2_2 hx hb hd (by rw [am_tv_cat]; exact hc) k
    · cases hp
  · split at hp
    · rename_i hc; cases hp; exact lv_dup2_2 hx hb hd (by rw [am_tv_cat]; exact hc) k
    · split at hp
      · split at hp
        · rename_i hc; cases hp; exact lv_dup2_11 hx hb hd (by rw [am_tv_cat]; exact hc.1) (by rw [am_tv_cat]; exact hc.2) k
        · cases hp
      · cases hp
  · split at hp
    · rename_i hc; cases hp; exact lv_dup2_x1_2 hx hb hd (by rw [am_tv_cat]; exact hc.1) (by rw [am_tv_cat]; exact hc.2) k
    · cases hp
  · split at hp
    · rename_i hc; cases hp; exact lv_dup2_x2_2 hx hb hd (by rw [am_tv_cat]; exact hc.1) (by rw [am_tv_cat]; exact hc.2.1) (by rw [am_tv_cat]; exact hc.2.2) k
    · cases hp
  · cases hp
/-- iinc's constant -/
def am_ok1 (ins : Jvm.ClassFile.Instr) (v : Value) : Prop := match ins with
  | .iinc _ n => v = .int (Int32.ofInt n)
  | _ => True
variable {nL : Nat} {lv lv' : am_L}
set_option maxHeartbeats 4000000 in
theorem am_loc_W (hx : p.tables.exec = Jvm.exec) (hb : c.code = cc) (hd : decode cc pc = .ok (ins, len)) (hn : len = am_len ins) (hok : am_ok1 ins v) (hl : lv_has ls nL (am_lvT b sz lv)) (hp : am_loc ins v nL lv st = some (lv', st'))
    (k : ∀ ls' : Array Slot, lv_has ls' nL (am_lvT b sz lv') → W p l e R s m args below meth c H locs cells slots Q (F0 m (pc + len) ls' (st'.map (am_tv b sz)))) : W p l e R s m args below meth c H locs cells slots Q (F0 m pc ls (st.map (am_tv b sz))) := by
  subst hn
  unfold am_loc at hp
  split at hp
  · split at hp
    · rename_i hg; cases hp; exact lv_iload_n hx hb hd rfl (am_has_ld hl hg) (k _ hl)
    · cases hp
  · split at hp
    · rename_i hg; cases hp; exact lv_iload hx hb hd (am_has_ld hl hg) (k _ hl)
    · cases hp
  · split at hp
    · rename_i hg; cases hp; exact lv_lload_n hx hb hd rfl (am_has_ld hl hg) (k _ hl)
    · cases hp
  · split at hp
    · rename_i hg; cases hp; exact lv_lload hx hb hd (am_has_ld hl hg) (k _ hl)
    · cases hp
  · split at hp
    · rename_i hg; cases hp; exact lv_aload_n hx hb hd rfl (am_has_ld hl hg) (k _ hl)
    · rename_i hg; cases hp; exact lv_aload_nN hx hb hd rfl (am_has_ld hl hg) (k _ hl)
    · cases hp
  · split at hp
    · rename_i hg; cases hp; exact lv_aload hx hb hd (am_has_ld hl hg) (k _ hl)
    · rename_i hg; cases hp; exact lv_aloadN hx hb hd (am_has_ld hl hg) (k _ hl)
    · cases hp
  · split at hp
    · rename_i hg; cases hp; exact lv_istore_n hx hb hd rfl hl hg rfl (fun ls' h' => k ls' (am_has_st1 h'))
    · cases hp
  · split at hp
    · rename_i hg; cases hp; exact lv_istore hx hb hd hl hg rfl (fun ls' h' => k ls' (am_has_st1 h'))
    · cases hp
  · split at hp
    · rename_i hg; cases hp; exact lv_lstore_n hx hb hd rfl hl hg rfl (fun ls' h' => k ls' (am_has_st2 h'))
    · cases hp
  · split at hp
    · rename_i hg; cases hp; exact lv_lstore hx hb hd hl hg rfl (fun ls' h' => k ls' (am_has_st2 h'))
    · cases hp
  · split at hp
    · rename_i hg; cases hp; exact lv_astore_n hx hb hd rfl hl hg rfl (fun ls' h' => k ls' (am_has_st1 h'))
    · cases hp
  · split at hp
    · rename_i hg; cases hp; exact lv_astore_nN hx hb hd rfl hl hg rfl (fun ls' h' => k ls' (am_has_st1 h'))
    · cases hp
  · split at hp
    · rename_i hg; cases hp; exact lv_astore hx hb hd hl hg rfl (fun ls' h' => k ls' (am_has_st1 h'))
    · cases hp
  · split at hp
    · rename_i hg; cases hp; exact lv_astoreN hx hb hd hl hg rfl (fun ls' h' => k ls' (am_has_st1 h'))
    · cases hp
  · split at hp
    · split at hp
      · rename_i x hg hk
        cases hp
        cases (show Value.int _ = _ from hok)
        obtain ⟨kk, hkk⟩ := List.getElem?_of_mem (show (_, am_tv b sz (.int x)) ∈ am_lvT b sz lv from List.mem_map.mpr ⟨_, am_ld_mem hg, rfl⟩)
        exact lv_iinc hx hb hd hl hkk rfl hk rfl (fun ls' h' => k ls' (am_has_st1 h'))
      · cases hp
    · cases hp
  · cases hp
/-- where jumps go -/
def am_ok2 (ins : Jvm.ClassFile.Instr) (pc t : Nat) (sw : List (Int32 × Nat)) : Prop := match ins with
  | .goto o => (pc : Int) + o = (t : Int)
  | .ifCond _ o => (pc : Int) + o = (t : Int)
  | .if_icmp _ o => (pc : Int) + o = (t : Int)
  | .ifnull o => (pc : Int) + o = (t : Int)
  | .ifnonnull o => (pc : Int) + o = (t : Int)
  | .tableswitch d lo hi offs => (pc : Int) + d = (t : Int) ∧ hi - lo + 1 = (sw.length : Int) ∧ offs.toList.map (fun o => (pc : Int) + o) = sw.map (fun q => (q.2 : Int)) ∧ sw.map (fun q => q.1.toInt) = (List.range sw.length).map (fun j : Nat => lo + (j : Int))
  | .lookupswitch d ps => (pc : Int) + d = (t : Int) ∧ (ps.toList.zip (ps.toList.drop 1)).all (fun (a, next) => a.1 < next.1) = true ∧ ps.toList.map (fun q => (q.1, (pc : Int) + q.2)) = sw.map (fun q => (q.1.toInt, (q.2 : Int)))
  | _ => True
theorem am_sw_look {pc t : Nat} {d : Int} (hd : (pc : Int) + d = (t : Int)) (x : Int32) : ∀ (ps : List (Int × Int)) (sw : List (Int32 × Nat)), ps.map (fun q => (q.1, (pc : Int) + q.2)) = sw.map (fun q => (q.1.toInt, (q.2 : Int))) → (pc : Int) + Op.lookupswitch.offset ps d x.toInt = (am_sw t x sw : Int)
  | [], [], _ => by simpa [Op.lookupswitch.offset, am_sw] using hd
  | [], q :: r, h => by simp at h
  | p :: ps, [], h => by simp at h
  | p :: ps, q :: r, h => by
    simp only [List.map_cons, List.cons.injEq, Prod.mk.injEq] at h
    obtain ⟨a, o⟩ := p
    obtain ⟨⟨h1, h2⟩, h3⟩ := h
    rw [Op.lookupswitch.offset_cons]
    unfold am_sw
    by_cases hq : x = q.1
    · rw [if_pos hq, if_pos (by rw [hq]; exact h1)]
      exact h2
    · rw [if_neg hq, if_neg (fun z => hq (Int32.toInt_inj.mp (by rw [← h1]; exact z.symm)))]
      exact am_sw_look hd x ps r h3
theorem am_sw_tab (t : Nat) (x : Int32) : ∀ (sw : List (Int32 × Nat)) (lo : Int), sw.map (fun q => q.1.toInt) = (List.range sw.length).map (fun j : Nat => lo + (j : Int)) →
    ((x.toInt < lo ∨ lo + sw.length ≤ x.toInt) ∧ am_sw t x sw = t) ∨ (lo ≤ x.toInt ∧ x.toInt < lo + sw.length ∧ ∃ q, sw[(x.toInt - lo).toNat]? = some q ∧ am_sw t x sw = q.2)
  | [], lo, _ => by
    left
    refine ⟨?_, rfl⟩
    simp only [List.length_nil]
    omega
  | q :: r, lo, h => by
    rw [List.length_cons, List.range_succ_eq_map, List.map_cons, List.map_cons, List.map_map] at h
    simp only [List.cons.injEq] at h
    obtain ⟨h1, h2⟩ := h
    have h2' : r.map (fun q => q.1.toInt) = (List.range r.length).map (fun j : Nat => (lo + 1) + (j : Int)) := by
      rw [h2]
      apply List.map_congr_left
      intro j _
      simp only [Function.comp]
      omega
    have e0 : q.1.toInt = lo := by rw [h1]; simp
    unfold am_sw
    by_cases hq : x = q.1
    · right
      rw [if_pos hq]
      have ex : x.toInt = lo := by rw [hq]; exact e0
      refine ⟨by omega, by simp only [List.length_cons]; omega, q, ?_, rfl⟩
      rw [show (x.toInt - lo).toNat = 0 by omega]
      rfl
    · have hne : x.toInt ≠ lo := fun z => hq (Int32.toInt_inj.mp (by rw [e0]; exact z))
      rw [if_neg hq]
      rcases am_sw_tab t x r (lo + 1) h2' with ⟨h3, h4⟩ | ⟨h3, h4, q', h5, h6⟩
      · left
        refine ⟨?_, h4⟩
        simp only [List.length_cons]
        omega
      · right
        refine ⟨by omega, by simp only [List.length_cons]; omega, q', ?_, h6⟩
        rw [show (x.toInt - lo).toNat = (x.toInt - (lo + 1)).toNat + 1 by omega]
        exact h5
variable {t nx pc' : Nat} {sw : List (Int32 × Nat)}
set_option maxHeartbeats 4000000 in
theorem am_jump_W (hx : p.tables.exec = Jvm.exec) (hb : c.code = cc) (hd : decode cc pc = .ok (ins, len)) (hn : am_isSw ins = true ∨ len = am_len ins) (hok : am_ok2 ins pc t sw) (hp : am_jump ins t (pc + len) sw st = some (pc', st'))
    (k : W p l e R s m args below meth c H locs cells slots Q (F0 m pc' ls (st'.map (am_tv b sz)))) : W p l e R s m args below meth c H locs cells slots Q (F0 m pc ls (st.map (am_tv b sz))) := by
  unfold am_jump at hp
  split at hp
  · cases hp; (rcases hn with h | rfl; · simp [am_isSw] at h); exact lv_goto hx hb hd hok k
  · cases hp; (rcases hn with h | rfl; · simp [am_isSw] at h); exact lv_if_eq hx hb hd hok (fun q => by rw [if_pos q] at k; exact k) (fun q => by rw [if_neg q] at k; exact k)
  · cases hp; (rcases hn with h | rfl; · simp [am_isSw] at h); exact lv_if_ne hx hb hd hok (fun q => by rw [if_neg q] at k; exact k) (fun q => by rw [if_pos q] at k; exact k)
  · cases hp; (rcases hn with h | rfl; · simp [am_isSw] at h); exact lv_if_lt hx hb hd hok (fun q => by rw [if_pos q] at k; exact k) (fun q => by rw [if_neg q] at k; exact k)
  · cases hp; (rcases hn with h | rfl; · simp [am_isSw] at h); exact lv_if_ge hx hb hd hok (fun q => by rw [if_pos q] at k; exact k) (fun q => by rw [if_neg q] at k; exact k)
  · cases hp; (rcases hn with h | rfl; · simp [am_isSw] at h); exact lv_if_gt hx hb hd hok (fun q => by rw [if_pos q] at k; exact k) (fun q => by rw [if_neg q] at k; exact k)
  · cases hp; (rcases hn with h | rfl; · simp [am_isSw] at h); exact lv_if_le hx hb hd hok (fun q => by rw [if_pos q] at k; exact k) (fun q => by rw [if_neg q] at k; exact k)
  · cases hp; (rcases hn with h | rfl; · simp [am_isSw] at h); exact lv_icmp_eq hx hb hd hok (fun q => by rw [if_pos q] at k; exact k) (fun q => by rw [if_neg q] at k; exact k)
  · cases hp; (rcases hn with h | rfl; · simp [am_isSw] at h); exact lv_icmp_ne hx hb hd hok (fun q => by rw [if_neg q] at k; exact k) (fun q => by rw [if_pos q] at k; exact k)
  · cases hp; (rcases hn with h | rfl; · simp [am_isSw] at h); exact lv_icmp_lt hx hb hd hok (fun q => by rw [if_pos q] at k; exact k) (fun q => by rw [if_neg q] at k; exact k)
  · cases hp; (rcases hn with h | rfl; · simp [am_isSw] at h); exact lv_icmp_ge hx hb hd hok (fun q => by rw [if_pos q] at k; exact k) (fun q => by rw [if_neg q] at k; exact k)
  · cases hp; (rcases hn with h | rfl; · simp [am_isSw] at h); exact lv_icmp_gt hx hb hd hok (fun q => by rw [if_pos q] at k; exact k) (fun q => by rw [if_neg q] at k; exact k)
  · cases hp; (rcases hn with h | rfl; · simp [am_isSw] at h); exact lv_icmp_le hx hb hd hok (fun q => by rw [if_pos q] at k; exact k) (fun q => by rw [if_neg q] at k; exact k)
  · cases hp; (rcases hn with h | rfl; · simp [am_isSw] at h); exact lv_ifnullN hx hb hd hok k
  · cases hp; (rcases hn with h | rfl; · simp [am_isSw] at h); exact lv_ifnull hx hb hd k
  · cases hp; (rcases hn with h | rfl; · simp [am_isSw] at h); exact lv_ifnonnullN hx hb hd k
  · cases hp; (rcases hn with h | rfl; · simp [am_isSw] at h); exact lv_ifnonnull hx hb hd hok k
  · rename_i d lo hi offs x rest
    cases hp
    obtain ⟨h1, h2, h3, h4⟩ := hok
    rcases am_sw_tab t x sw lo h4 with ⟨g1, g2⟩ | ⟨g1, g2, q, g3, g4⟩
    · rw [g2] at k
      exact lv_tableOut hx hb hd (by omega) h1 k
    · rw [g4] at k
      have h5 : (offs.toList.map (fun o => (pc : Int) + o))[(x.toInt - lo).toNat]? = some (q.2 : Int) := by rw [h3, List.getElem?_map, g3]; rfl
      rw [List.getElem?_map] at h5
      cases ho : offs.toList[(x.toInt - lo).toNat]? with
      | none => rw [ho] at h5; cases h5
      | some o =>
        rw [ho] at h5
        exact lv_tableIn hx hb hd (by omega) (by omega) (by rw [← Array.getElem?_toList]; exact ho) (Option.some.inj h5) k
  · cases hp
    obtain ⟨h1, h2, h3⟩ := hok
    exact lv_lookup hx hb hd h2 rfl (am_sw_look h1 _ _ _ h3) k
  · cases hp
end AMS

/-! calls, and the whole run -/
theorem am_mono_set {h : am_H} {i : Nat} {c0 c1 : am_C} (hg : am_get h i = some c0) (hs : am_cs c1 = am_cs c0) : h.length ≤ (am_set h i c1).length ∧ am_sl h ≤ am_sl (am_set h i c1) := by
  obtain ⟨j, rfl, hj⟩ := am_get_eq hg
  show h.length ≤ (h.set j c1).length ∧ am_sl h ≤ am_sl (h.set j c1)
  rw [List.length_set, am_sl_set hs hj]
  exact ⟨Nat.le_refl _, Nat.le_refl _⟩
set_option maxHeartbeats 4000000 in
theorem am_heap_mono {P : am_P} {L : Nat} {xs : Nat → Int32} {ins : Jvm.ClassFile.Instr} {a1 a2 : Nat} {st st' : List Value} {h h' : am_H} (hp : am_heap P L xs ins a1 a2 st h = some (st', h')) : h.length ≤ h'.length ∧ am_sl h ≤ am_sl h' := by
  unfold am_heap at hp
  repeat' split at hp
  all_goals first
    | (cases hp; done)
    | (cases hp; exact ⟨Nat.le_refl _, Nat.le_refl _⟩)
    | (cases hp; rw [am_sl_app, List.length_append]; exact ⟨Nat.le_add_right _ _, Nat.le_add_right _ _⟩)
    | (cases hp; apply am_mono_set; · assumption
       · first | rfl | simp [am_cs])
theorem am_run_mono {P : am_P} {T : Nat → Nat → Option am_I} {mt : Nat → am_M} {L : Nat} {xs : Nat → Int32} : ∀ (n : Nat) {mi pc : Nat} {lv : am_L} {st : List Value} {h h' : am_H} {v : Option Value}, am_run P T mt L xs n mi pc lv st h = some (v, h') → h.length ≤ h'.length ∧ am_sl h ≤ am_sl h'
  | 0, mi, pc, lv, st, h, h', v, hr => by simp [am_run] at hr
  | n + 1, mi, pc, lv, st, h, h', v, hr => by
    unfold am_run at hr
    split at hr
    · cases hr
    · split at hr
      · split at hr
        · cases hr
        · exact am_run_mono n hr
      · split at hr
        · cases hr
        · exact am_run_mono n hr
      · split at hr
        · cases hr
        · exact am_run_mono n hr
      · split at hr
        · cases hr
        · rename_i hp
          have h1 := am_heap_mono hp
          have h2 := am_run_mono n hr
          omega
      · split at hr
        · cases hr
        · split at hr
          · cases hr
          · rename_i hp
            have h1 := am_run_mono n hp
            have h2 := am_run_mono n hr
            omega
      · split at hr
        · cases hr
        · cases hr
          exact ⟨Nat.le_refl _, Nat.le_refl _⟩
theorem am_ret_st {ins : Jvm.ClassFile.Instr} {rt : Option FieldType} {st : List Value} {v : Option Value} (h : am_ret ins rt st = some v) : st = v.toList := by
  unfold am_ret at h
  repeat' split at h
  all_goals first | (cases h; done) | (cases h; rfl)
/-- a method's own words -/
def am_okM (tbl : List Cond) (M : am_M) : Prop := Cond.code M.1 M.2.1 M.2.2.1 M.2.2.2.1 ∈ tbl ∧ Cond.initialized M.1.cls ∈ tbl ∧ plainName M.1.cls = true ∧ M.1.cls ≠ "java/lang/invoke/MethodHandle" ∧ M.1.cls ≠ "java/lang/invoke/VarHandle"
def am_lnkM (tbl nst : List Cond) (own : String) (i : Nat) (y : MethodName) : Prop := Cond.methodLink own i y ∈ tbl ∨ ∃ host, Cond.methodLinkNest own i y host ∈ nst
def am_ok4 (cl : List vw_C) (tbl nst : List Cond) (own : String) (rk : Nat × Nat) (ins : Jvm.ClassFile.Instr) (M : am_M) (a2 : Nat) : Prop := (M.2.2.2.2.1.1 < rk.1 ∧ 8 + (M.2.2.1 + 11) + M.2.2.2.2.1.2 ≤ rk.2) ∧ am_okM tbl M ∧ match ins with
  | .invokestatic i => (parseMethodDescriptor M.1.desc).map (fun d => d.parameters.length) = some a2 ∧ Cond.static M.1 ∈ tbl ∧ am_lnkM tbl nst own i M.1
  | .invokespecial i => (parseMethodDescriptor M.1.desc).map (fun d => d.parameters.length + 1) = some a2 ∧ M.1.name = "<init>" ∧ M.2.2.2.1 = none ∧ Cond.instanceMethod M.1 ∈ tbl ∧ am_lnkM tbl nst own i M.1
  | .invokevirtual i => (parseMethodDescriptor M.1.desc).map (fun d => d.parameters.length + 1) = some a2 ∧ (∃ q, cl[M.2.2.2.2.2]? = some q ∧ q.1 = M.1.cls) ∧ Cond.instanceMethod M.1 ∈ tbl ∧ Cond.selects M.1.cls M.1 M.1 ∈ tbl ∧ am_lnkM tbl nst own i M.1
  | _ => False
/-- the table is true to the code -/
def am_okK (cl : List vw_C) (tbl nst : List Cond) (aos : List String) (tl : List Nat) (P : am_P) (mt : Nat → am_M) (mi pc : Nat) (en : am_I) : Prop := match en with
  | (k, ins, len, a1, a2, v, sw, _) => decode (mt mi).2.1 pc = .ok (ins, len) ∧ (am_isSw ins = true ∨ len = am_len ins) ∧ match k with
    | 0 => am_isSw ins = false ∧ am_ok0 tbl (mt mi).1.cls ins v
    | 1 => am_isSw ins = false ∧ am_ok1 ins v
    | 2 => am_ok2 ins pc a1 sw
    | 3 => am_isSw ins = false ∧ am_ok3 cl tbl nst aos tl P.1 P.2 (mt mi).1 (mt mi).2.2.2.2.1 ins a1 a2
    | 4 => am_isSw ins = false ∧ am_ok4 cl tbl nst (mt mi).1.cls (mt mi).2.2.2.2.1 ins (mt a1) a2
    | _ => True
def am_good (w : Cond) : Prop := (w.onTables && w.keeps) = true ∨ ∃ ty, w = .arrayClass ty
/-- all that is fixed -/
def am_okA (cl : List vw_C) (tbl nst : List Cond) (aos : List String) (tl : List Nat) (P : am_P) (T : Nat → Nat → Option am_I) (mt : Nat → am_M) : Prop := (∀ (mi pc : Nat) (en : am_I), T mi pc = some en → am_okK cl tbl nst aos tl P mt mi pc en) ∧ am_okC cl tbl P.1 ∧ (∀ w ∈ tbl, am_good w) ∧ (∀ w ∈ nst, am_isN w = true)
/-- a contract's start and end -/
def am_Pc (b sz L : Nat) (xs : Nat → Int32) (dC : Nat → ClassId) (dI : Nat → Nat → Nat) (dA : Nat → ClassId) (cl : List vw_C) (tl : List Nat) (nst : List Cond) (aos : List String) (as : List Value) (h : am_H) : Array Value → State → Prop := fun a U => a = (as.map (am_tv b sz)).toArray ∧ U.heap.size = sz + h.length ∧ va_P (dC, dI) cl (am_ws b sz dA h) U.heap ∧ va_X b L xs U U.heap ∧ am_env dC dI dA cl tl nst aos U
def am_Qc (b sz : Nat) (dC : Nat → ClassId) (dI : Nat → Nat → Nat) (dA : Nat → ClassId) (cl : List vw_C) (v : Option Value) (h : am_H) : Array Value → State → Outcome → State → Prop := fun _ U o t => o = .returned (v.map (am_tv b sz)) ∧ va_P (dC, dI) cl (am_ws b sz dA h) t.heap ∧ va_F (fun q : Nat => sz ≤ q) U t
theorem am_blind {b sz L : Nat} {xs : Nat → Int32} {dC : Nat → ClassId} {dI : Nat → Nat → Nat} {dA : Nat → ClassId} {cl : List vw_C} {tl : List Nat} {nst : List Cond} {aos : List String} {as : List Value} {h : am_H} (hN : ∀ w ∈ nst, am_isN w = true) : FrameBlind (am_Pc b sz L xs dC dI dA cl tl nst aos as h) := by
  intro a U g mk q
  obtain ⟨q1, q2, q3, q4, q5⟩ := q
  exact ⟨q1, q2, q3, va_X.moved (u := U) (U := U.calling g mk a) (Vm.Alike.refl U.vm) q4, am_env.moved (U := U.calling g mk a) hN (State.WarmedH.refl U) q5⟩
/-- what is proved of a run of n steps -/
def am_Wst (l : Launch) (b sz L : Nat) (xs : Nat → Int32) (dC : Nat → ClassId) (dI : Nat → Nat → Nat) (dA : Nat → ClassId) (cl : List vw_C) (tbl nst : List Cond) (aos : List String) (tl : List Nat) (P : am_P) (T : Nat → Nat → Option am_I) (mt : Nat → am_M) (n : Nat) : Prop :=
  ∀ (mi pc : Nat) (lv : am_L) (st : List Value) (h : am_H) (v : Option Value) (h' : am_H), am_run P T mt L xs n mi pc lv st h = some (v, h') →
  ∀ (p : Program) (e : Env) (R : Room) (s : State) (m : MethodId) (args : Array Value) (below : List Frame) (meth : Method) (c : Code) (H : Heap) (locs : List Loc) (cells slots : Nat) (Q : State → Prop) (ls : Array Slot),
  p.tables.exec = Jvm.exec → c.code = (mt mi).2.1 → c.maxLocals = (mt mi).2.2.1 → s.vm.findClass (mt mi).1.cls = some m.cls → ((mt mi).1.name = "<init>" → meth.name = "<init>") → (∀ w ∈ tbl, w.before args s = true) → am_env dC dI dA cl tl nst aos s → va_X b L xs s s.heap → sz ≤ s.heap.size →
  va_P (dC, dI) cl (am_ws b sz dA h) H → va_S (fun q : Nat => sz ≤ q) s.heap H locs → s.heap.size + cells = sz + h.length → lv_has ls (mt mi).2.2.1 (am_lvT b sz lv) → (mt mi).2.2.2.2.1.1 ≤ R.frames → (mt mi).2.2.2.2.1.2 ≤ R.locals → cells + (h'.length - h.length) ≤ R.cells → slots + (am_sl h' - am_sl h) ≤ R.slots →
  (∀ (pc' : Nat) (ins : Jvm.ClassFile.Instr) (ls' : Array Slot) (H' : Heap) (locs' : List Loc), decode (mt mi).2.1 pc' = .ok (ins, 1) → am_ret ins (mt mi).2.2.2.1 v.toList = some v → va_P (dC, dI) cl (am_ws b sz dA h') H' → va_S (fun q : Nat => sz ≤ q) s.heap H' locs' → W p l e R s m args below meth c H' locs' (cells + (h'.length - h.length)) (slots + (am_sl h' - am_sl h)) Q (F0 m pc' ls' (v.toList.map (am_tv b sz)))) →
  W p l e R s m args below meth c H locs cells slots Q (F0 m pc ls (st.map (am_tv b sz)))
section AMR
variable {l : Launch} {b sz L : Nat} {xs : Nat → Int32} {dC : Nat → ClassId} {dI : Nat → Nat → Nat} {dA : Nat → ClassId} {cl : List vw_C} {tbl nst : List Cond} {aos : List String} {tl : List Nat} {P : am_P} {T : Nat → Nat → Option am_I} {mt : Nat → am_M}
/-- the return of a method that was called -/
theorem am_ret_W {p : Program} {e : Env} {R : Room} {s : State} {m : MethodId} {args : Array Value} {below : List Frame} {meth : Method} {c : Code} {H : Heap} {locs : List Loc} {cells slots : Nat} {cc : ByteArray} {rt : Option FieldType} {pc : Nat} {ins : Jvm.ClassFile.Instr} {ls : Array Slot} {v : Option Value} {h : am_H} (hx : p.tables.exec = Jvm.exec) (hb : c.code = cc) (hr : meth.sig.returnType = rt) (hlocks : meth.locks = false) (hd : decode cc pc = .ok (ins, 1)) (hret : am_ret ins rt v.toList = some v) (hP : va_P (dC, dI) cl (am_ws b sz dA h) H) (hS : va_S (fun q : Nat => sz ≤ q) s.heap H locs) :
    W p l e R s m args below meth c H locs cells slots (MQ below (am_Qc b sz dC dI dA cl v h) args s cells slots (fun q : Nat => sz ≤ q)) (F0 m pc ls (v.toList.map (am_tv b sz))) := by
  have hq : ∀ t : State, t.heap = H → s.WarmedH t.vm → am_Qc b sz dC dI dA cl v h args s (.returned (v.map (am_tv b sz))) t := fun t ht _ => ⟨rfl, by rw [ht]; exact hP, hS.F ht⟩
  generalize hst : v.toList = st at hret
  unfold am_ret at hret
  split at hret
  · split at hret
    · rename_i hn
      cases hret
      exact W.zret hx hb hr hn hq hS.2.2 hd hlocks
    · cases hret
  · cases hret
    exact W.lret hx hb hr hq hS.2.2 hd hlocks
  · cases hret
    exact W.aret hx hb hr (Or.inl ⟨_, rfl⟩) (Or.inr ⟨_, rfl⟩) hq hS.2.2 hd hlocks
  · cases hret
    exact W.aret hx hb hr (Or.inl ⟨_, rfl⟩) (Or.inl rfl) hq hS.2.2 hd hlocks
  · cases hret
    exact W.aret hx hb hr (Or.inr ⟨_, rfl⟩) (Or.inr ⟨_, rfl⟩) hq hS.2.2 hd hlocks
  · cases hret
    exact W.aret hx hb hr (Or.inr ⟨_, rfl⟩) (Or.inl rfl) hq hS.2.2 hd hlocks
  · cases hret
    exact W.vret hx hb hr hq hS.2.2 hd hlocks
  · cases hret
abbrev am_rm (M : am_M) (mc ms : Nat) : Room := { frames := M.2.2.2.2.1.1, cells := mc, slots := ms, locals := M.2.2.2.2.1.2 }
abbrev am_wd (tbl : List Cond) (M : am_M) : List Cond := Cond.code M.1 M.2.1 M.2.2.1 M.2.2.2.1 :: tbl
/-- a callee's contract out of its run -/
theorem am_met {n mj : Nat} {as : List Value} {h h' : am_H} {v : Option Value} (hbs : b < sz) (ih : am_Wst l b sz L xs dC dI dA cl tbl nst aos tl P T mt n) (hM : am_okM tbl (mt mj)) (hw : (as.map fun v => v.category).sum ≤ (mt mj).2.2.1) (hr : am_run P T mt L xs n mj 0 (lv_args 0 as) [] h = some (v, h')) :
    Met l (mt mj).1 (am_wd tbl (mt mj)) (am_rm (mt mj) (h'.length - h.length) (am_sl h' - am_sl h)) (am_Pc b sz L xs dC dI dA cl tl nst aos as h) (am_Qc b sz dC dI dA cl v h') (h'.length - h.length) (am_sl h' - am_sl h) (fun q : Nat => sz ≤ q) := by
  refine Met.ofW (cc := (mt mj).2.1) (maxL := (mt mj).2.2.1) (ret := (mt mj).2.2.2.1) hM.2.2.1 rfl ?_
  intro p e s m args below meth c s₁ B hml hv
  obtain ⟨rfl, hsz, hP, hX, hE⟩ := hv
  have hts := atoms_spec (ws := am_wd tbl (mt mj)) B.pre
  have hl := lv_entry (as.map (am_tv b sz)) (n := (mt mj).2.2.1) (by rw [am_sl_len, am_sum_tv]; exact hw)
  rw [lg_entry_eq]
  generalize (lg_sl (as.map (am_tv b sz)) ++ List.replicate ((mt mj).2.2.1 - (lg_sl (as.map (am_tv b sz))).length) Slot.unset).toArray = ls at hl ⊢
  rw [am_args_tv] at hl
  have key := ih mj 0 (lv_args 0 as) [] h v h' hr p e (am_rm (mt mj) (h'.length - h.length) (am_sl h' - am_sl h)) s m (as.map (am_tv b sz)).toArray below meth c s.heap [] 0 0 (MQ below (am_Qc b sz dC dI dA cl v h') (as.map (am_tv b sz)).toArray s (h'.length - h.length) (am_sl h' - am_sl h) (fun q : Nat => sz ≤ q)) ls B.exec B.bytes hml (findClass_of_methodNamed B.named) (fun z => (name_of_methodNamed B.named B.method).1.trans z) (fun w h1 => hts w (List.mem_cons_of_mem _ h1)) hE hX (by omega) hP va_S.rf (by omega) hl (Nat.le_refl _) (Nat.le_refl _) (Nat.le_of_eq (Nat.zero_add _)) (Nat.le_of_eq (Nat.zero_add _)) (fun pc' ins ls' H' locs' g1 g2 g3 g4 => by
      rw [Nat.zero_add, Nat.zero_add]
      exact am_ret_W B.exec B.bytes B.returns B.notSynchronized g1 g2 g3 g4)
  exact key
/-- the heap is as large as it should be -/
theorem am_size {p : Program} {e : Env} {R : Room} {s : State} {m : MethodId} {args : Array Value} {below : List Frame} {meth : Method} {c : Code} {H : Heap} {locs : List Loc} {cells slots : Nat} {Q : State → Prop} {g : JFrame} {h : am_H} (hP : va_P (dC, dI) cl (am_ws b sz dA h) H) (hS : va_S (fun q : Nat => sz ≤ q) s.heap H locs) (hss : sz ≤ s.heap.size) (hcnt : s.heap.size + cells = sz + h.length)
    (kk : H.size = sz + h.length → W p l e R s m args below meth c H locs cells slots Q g) : W p l e R s m args below meth c H locs cells slots Q g := by
  intro T hT X
  have h1 : H.size ≤ s.heap.size + cells := by rw [← hT]; exact X.heapSize
  have h2 : sz + h.length ≤ H.size := by
    cases hz : h.length with
    | zero => exact Nat.le_trans hss hS.1
    | succ k =>
      have hi : k < h.length := by omega
      have h3 := (hP k _ (am_ws_get (List.getElem?_eq_getElem hi))).lt
      have h3 : sz + k < H.size := h3
      omega
  exact kk (by omega) T hT X
/-- behind a call -/
theorem am_goes {p : Program} {e : Env} {R : Room} {s : State} {m : MethodId} {args : Array Value} {below : List Frame} {meth : Method} {c : Code} {H : Heap} {locs : List Loc} {cells slots mc ms : Nat} {Q : State → Prop} {pc : Nat} {ls : Array Slot} {st0 rest : List Value} {a : Array Value} {v : Option Value} {h : am_H}
    (hr : va_Run p l e R s m args below meth c H locs cells slots mc ms (F0 m pc ls st0) rest (am_Qc b sz dC dI dA cl v h a) (fun q : Nat => sz ≤ q)) (hS : va_S (fun q : Nat => sz ≤ q) s.heap H locs)
    (k : ∀ (H1 : Heap) (locs1 : List Loc), va_P (dC, dI) cl (am_ws b sz dA h) H1 → va_S (fun q : Nat => sz ≤ q) s.heap H1 locs1 → W p l e R s m args below meth c H1 locs1 (cells + mc) (slots + ms) Q (F0 m (pc + 3) ls ((v.map (am_tv b sz)).toList ++ rest))) : W p l e R s m args below meth c H locs cells slots Q (F0 m pc ls st0) := by
  intro T hT X
  obtain ⟨v', st₀, t, T', L, h0, X', hL, e1, e2, ⟨hv, hPt, hz, hk⟩, st⟩ := hr T hT X
  cases hv
  rw [h0] at hz hk
  obtain ⟨t2, a1, b1⟩ := k T'.heap (locs ++ L) (by rw [e1]; exact hPt) ⟨Nat.le_trans hS.1 (by rw [e1]; exact hz), fun q g1 g2 => by
      rw [e1, hk q (Nat.lt_of_lt_of_le g1 hS.1) g2]
      exact hS.2.1 q g1 g2, fun q hq => by
      rcases List.mem_append.mp hq with g | g
      · exact hS.2.2 q g
      · exact hL q g⟩ T' rfl X'
  exact ⟨t2, st t2 a1, b1⟩
theorem am_call_inv {ins : Jvm.ClassFile.Instr} {ci mL a2 : Nat} {st as rest : List Value} {h : am_H} (hc : am_call ins ci mL a2 st h = some (as, rest)) : st = as.reverse ++ rest ∧ as.length = a2 ∧ (rest.map fun v => v.category).sum ≤ 8 ∧ (as.map fun v => v.category).sum ≤ mL ∧ ((∃ i, ins = .invokestatic i) ∨ ((∃ i, ins = .invokespecial i) ∧ ∃ a as', as = .ref a :: as') ∨ ((∃ i, ins = .invokevirtual i) ∧ ∃ a as' fs, as = .ref a :: as' ∧ am_get h a = some (.inr (ci, fs)))) := by
  unfold am_call at hc
  split at hc
  · rename_i hcd
    obtain ⟨c1, c2, c3⟩ := hcd
    have base : st = ((st.take a2).reverse).reverse ++ st.drop a2 := by rw [List.reverse_reverse, List.take_append_drop]
    have blen : ((st.take a2).reverse).length = a2 := by rw [List.length_reverse, List.length_take]; omega
    generalize hg : (st.take a2).reverse = q at hc c3 base blen
    split at hc
    · cases hc
      exact ⟨base, blen, c2, c3, Or.inl ⟨_, rfl⟩⟩
    · cases hc
      exact ⟨base, blen, c2, c3, Or.inr (Or.inl ⟨⟨_, rfl⟩, _, _, rfl⟩)⟩
    · split at hc
      · split at hc
        · rename_i hgg hci
          cases hc
          subst hci
          exact ⟨base, blen, c2, c3, Or.inr (Or.inr ⟨⟨_, rfl⟩, _, _, _, rfl, hgg⟩)⟩
        · cases hc
      · cases hc
    · cases hc
  · cases hc
set_option maxHeartbeats 4000000 in
/-- THE RUN IS SOUND -/
theorem am_W_all (hbs : b < sz) (hA : am_okA cl tbl nst aos tl P T mt) : ∀ n : Nat, am_Wst l b sz L xs dC dI dA cl tbl nst aos tl P T mt n := by
  obtain ⟨hI, hC, hG, hN⟩ := hA
  intro n
  induction n with
  | zero => intro mi pc lv st h v h' hr; simp [am_run] at hr
  | succ n ih =>
    intro mi pc lv st h v h' hr p e R s m args below meth c H locs cells slots Q ls hx hb hml hown hnm hts hE hX hss hP hS hcnt hl hf1 hf2 hc1 hc2 kk
    unfold am_run at hr
    split at hr
    · cases hr
    · rename_i k ins len a1 a2 va sw lm hT
      obtain ⟨hd, hsw, hok⟩ := hI _ _ _ hT
      split at hr
      · split at hr
        · cases hr
        · rename_i st1 hp
          obtain ⟨hs0, hok⟩ := (show am_isSw ins = false ∧ am_ok0 tbl (mt mi).1.cls ins va from hok)
          have hn : len = am_len ins := by rcases hsw with z | z; · rw [hs0] at z; cases z
                                           · exact z
          exact am_pure_W hx hb hown hts hd hn hok hp (ih mi _ _ _ h v h' hr p e R s m args below meth c H locs cells slots Q ls hx hb hml hown hnm hts hE hX hss hP hS hcnt (am_has_live hl) hf1 hf2 hc1 hc2 kk)
      · split at hr
        · cases hr
        · rename_i lv1 st1 hp
          obtain ⟨hs0, hok⟩ := (show am_isSw ins = false ∧ am_ok1 ins va from hok)
          have hn : len = am_len ins := by rcases hsw with z | z; · rw [hs0] at z; cases z
                                           · exact z
          exact am_loc_W hx hb hd hn hok (am_has_live (lm := lm) hl) hp (fun ls' hl' => ih mi _ _ _ h v h' hr p e R s m args below meth c H locs cells slots Q ls' hx hb hml hown hnm hts hE hX hss hP hS hcnt hl' hf1 hf2 hc1 hc2 kk)
      · split at hr
        · cases hr
        · rename_i pc1 st1 hp
          exact am_jump_W hx hb hd hsw (show am_ok2 ins pc a1 sw from hok) hp (ih mi _ _ _ h v h' hr p e R s m args below meth c H locs cells slots Q ls hx hb hml hown hnm hts hE hX hss hP hS hcnt (am_has_live hl) hf1 hf2 hc1 hc2 kk)
      · split at hr
        · cases hr
        · rename_i st1 h1 hp
          obtain ⟨hs0, hok⟩ := (show am_isSw ins = false ∧ am_ok3 cl tbl nst aos tl P.1 P.2 (mt mi).1 (mt mi).2.2.2.2.1 ins a1 a2 from hok)
          have hn : len = am_len ins := by rcases hsw with z | z; · rw [hs0] at z; cases z
                                           · exact z
          have m1 := am_heap_mono hp
          have m2 := am_run_mono n hr
          refine am_heap_W (fty := P.1) (dfl := P.2) (rk := (mt mi).2.2.2.2.1) hx hb (hml.trans hl.1.symm) hown hnm hts hE hC hd hn hok hX hbs hss hP hS hcnt ⟨hf1, hf2⟩ hp (by omega) (by omega) (fun H' locs' g1 g2 => ?_)
          refine ih mi _ _ _ h1 v h' hr p e R s m args below meth c H' locs' _ _ Q ls hx hb hml hown hnm hts hE hX hss g1 g2 (by omega) (am_has_live hl) hf1 hf2 (by omega) (by omega) ?_
          rw [show cells + (h1.length - h.length) + (h'.length - h1.length) = cells + (h'.length - h.length) by omega, show slots + (am_sl h1 - am_sl h) + (am_sl h' - am_sl h1) = slots + (am_sl h' - am_sl h) by omega]
          exact kk
      · split at hr
        · cases hr
        · rename_i as st1 hp
          split at hr
          · cases hr
          · rename_i rv h1 hcal
            obtain ⟨hs0, hrk, hM, hok⟩ := (show am_isSw ins = false ∧ am_ok4 cl tbl nst (mt mi).1.cls (mt mi).2.2.2.2.1 ins (mt a1) a2 from hok)
            have hn : len = am_len ins := by rcases hsw with z | z; · rw [hs0] at z; cases z
                                             · exact z
            obtain ⟨e1, e2, e3, e4, e5⟩ := am_call_inv hp
            have m1 := am_run_mono n hcal
            have m2 := am_run_mono n hr
            have met := am_met hbs ih hM e4 hcal
            have hgood : GoodIn tbl (am_wd tbl (mt a1)) := fun w hw => by
              rcases List.mem_cons.mp hw with z | z
              · rw [z]; exact ⟨hM.1, Or.inl rfl⟩
              · exact ⟨z, hG w z⟩
            have hpay := pay_in hts hgood
            have hini := hts _ hM.2.1
            have hroom : (am_rm (mt a1) (h1.length - h.length) (am_sl h1 - am_sl h)).frames + 1 ≤ R.frames ∧ 8 + ((mt a1).2.2.1 + 11) + (am_rm (mt a1) (h1.length - h.length) (am_sl h1 - am_sl h)).locals ≤ R.locals := by
              show (mt a1).2.2.2.2.1.1 + 1 ≤ _ ∧ _ + (mt a1).2.2.2.2.1.2 ≤ _
              omega
            refine am_size hP hS hss hcnt fun hz => ?_
            have hpre : ∀ U : State, U.heap = H → s.WarmedH U.vm → am_Pc b sz L xs dC dI dA cl tl nst aos as h (as.map (am_tv b sz)).toArray U := fun U hU hW => by
              exact ⟨rfl, by rw [hU]; exact hz, by rw [hU]; exact hP, va_X.moved hW.alike (by rw [hU]; exact hX.kept (hS.2.1 b (by omega) (by omega))), am_env.moved hN hW hE⟩
            have hcw : ((st1.map (am_tv b sz)).map fun v => v.category).sum ≤ 8 := by rw [am_sum_tv]; exact e3
            have hmon : ∀ st0 : List Value, 2 * (F0 m pc ls st0).monitorRoom + ((st1.map (am_tv b sz)).map fun v => v.category).sum ≤ 8 := fun st0 => by show 2 * 0 + _ ≤ 8; omega
            have hstk : st.map (am_tv b sz) = (as.map (am_tv b sz)).reverse ++ st1.map (am_tv b sz) := by rw [e1, List.map_append, List.map_reverse]
            have fin : ∀ {a : Array Value}, va_Run p l e R s m args below meth c H locs cells slots (h1.length - h.length) (am_sl h1 - am_sl h) (F0 m pc ls (st.map (am_tv b sz))) (st1.map (am_tv b sz)) (am_Qc b sz dC dI dA cl rv h1 a) (fun q : Nat => sz ≤ q) → len = 3 → W p l e R s m args below meth c H locs cells slots Q (F0 m pc ls (st.map (am_tv b sz))) := by
              intro a hrun hl3
              subst hl3
              refine am_goes hrun hS fun H' locs' g1 g2 => ?_
              have e6 : (rv.map (am_tv b sz)).toList ++ st1.map (am_tv b sz) = (rv.toList ++ st1).map (am_tv b sz) := by cases rv <;> simp
              rw [e6]
              refine ih mi _ _ _ h1 v h' hr p e R s m args below meth c H' locs' _ _ Q ls hx hb hml hown hnm hts hE hX hss g1 g2 (by omega) (am_has_live hl) hf1 hf2 (by omega) (by omega) ?_
              rw [show cells + (h1.length - h.length) + (h'.length - h1.length) = cells + (h'.length - h.length) by omega, show slots + (am_sl h1 - am_sl h) + (am_sl h' - am_sl h1) = slots + (am_sl h' - am_sl h) by omega]
              exact kk
            have hcs : cells + (h1.length - h.length) ≤ R.cells ∧ slots + (am_sl h1 - am_sl h) ≤ R.slots := by omega
            have fixS : CallFix p m c (mt mi).2.1 (mt mi).2.2.1 s args tbl (mt mi).1.cls := ⟨hx, hb, hml, hown, hts⟩
            rcases e5 with ⟨i, rfl⟩ | ⟨⟨i, rfl⟩, a, as', rfl⟩ | ⟨⟨i, rfl⟩, a, as', fs, rfl, hrec⟩
            · obtain ⟨k1, k2, k3⟩ := hok
              rcases k3 with k3 | ⟨host, k3⟩
              · exact fin (va_runS fixS met ⟨callB_of a2 hts hgood rfl rfl rfl hini (hts _ k3) ⟨hM.2.2.2.1, hM.2.2.2.2, k1⟩ hroom, hts _ k2⟩ ⟨am_blind hN, hpre⟩ rfl (by rw [List.length_map]; exact e2) hl.1 hstk (hmon _) (by rw [hn] at hd; exact hd) hcs) hn
              · exact fin (va_runSN fixS met ⟨va_cnB a2 hts hgood rfl rfl rfl (hE.2.1 _ k3) hini ⟨hM.2.2.2.1, hM.2.2.2.2, k1⟩ hroom, hts _ k2, trivial⟩ ⟨am_blind hN, hpre⟩ rfl (by rw [List.length_map]; exact e2) hl.1 hstk (hmon _) (by rw [hn] at hd; exact hd) hcs) hn
            · obtain ⟨k1, k2, k2b, k3, k4⟩ := hok
              have k1' : (parseMethodDescriptor (mt a1).1.desc).map (fun d => d.parameters.length) = some as'.length := by
                cases hz : parseMethodDescriptor (mt a1).1.desc with
                | none => rw [hz] at k1; cases k1
                | some d =>
                  rw [hz] at k1
                  have k1 : d.parameters.length + 1 = _ := Option.some.inj k1
                  simp only [List.length_cons] at e2
                  show some d.parameters.length = _
                  congr 1
                  omega
              have hstk2 : st.map (am_tv b sz) = (as'.map (am_tv b sz)).reverse ++ .ref (am_ad b sz a) :: st1.map (am_tv b sz) := by rw [hstk]; simp [am_tv]
              have met' := met
              rw [show am_wd tbl (mt a1) = Cond.code (mt a1).1 (mt a1).2.1 (mt a1).2.2.1 none :: tbl by rw [am_wd, k2b]] at met'
              have hgood' : GoodIn tbl (Cond.code (mt a1).1 (mt a1).2.1 (mt a1).2.2.1 none :: tbl) := by rw [← k2b]; exact hgood
              rcases k4 with k4 | ⟨host, k4⟩
              · exact fin (va_runI (As := as'.map (am_tv b sz)) fixS met' ⟨callB_of as'.length hts hgood' rfl rfl rfl hini (hts _ k4) ⟨hM.2.2.2.1, hM.2.2.2.2, k1'⟩ hroom, k2, hts _ k3⟩ ⟨am_blind hN, hpre⟩ rfl (by rw [List.length_map]) hl.1 hstk2 (hmon _) (by rw [hn] at hd; exact hd) hcs) hn
              · exact fin (va_runIN (As := as'.map (am_tv b sz)) fixS met' ⟨va_cnB as'.length hts hgood' rfl rfl rfl (hE.2.1 _ k4) hini ⟨hM.2.2.2.1, hM.2.2.2.2, k1'⟩ hroom, k2, hts _ k3⟩ ⟨am_blind hN, hpre⟩ rfl (by rw [List.length_map]) hl.1 hstk2 (hmon _) (by rw [hn] at hd; exact hd) hcs) hn
            · obtain ⟨k1, ⟨⟨C, Tf, N⟩, k2, k2b⟩, k3, k4, k5⟩ := hok
              have k2b : C = (mt a1).1.cls := k2b
              subst k2b
              have k1' : (parseMethodDescriptor (mt a1).1.desc).map (fun d => d.parameters.length) = some as'.length := by
                cases hz : parseMethodDescriptor (mt a1).1.desc with
                | none => rw [hz] at k1; cases k1
                | some d =>
                  rw [hz] at k1
                  have k1 : d.parameters.length + 1 = _ := Option.some.inj k1
                  simp only [List.length_cons] at e2
                  show some d.parameters.length = _
                  congr 1
                  omega
              have hstk2 : st.map (am_tv b sz) = (as'.map (am_tv b sz)).reverse ++ .ref (am_ad b sz a) :: st1.map (am_tv b sz) := by rw [hstk]; simp [am_tv]
              obtain ⟨j, rfl, hj⟩ := am_get_eq hrec
              have he := am_ws_get (b := b) (sz := sz) (dA := dA) hj
              have hrv := va_recv hE.1 hP k2 he
              rcases k5 with k5 | ⟨host, k5⟩
              · exact fin (va_runV (As := as'.map (am_tv b sz)) (C := (mt a1).1.cls) fixS met ⟨callB_of as'.length hts hgood rfl rfl rfl hini (hts _ k5) ⟨hM.2.2.2.1, hM.2.2.2.2, k1'⟩ hroom, hts _ k3, hts _ k4⟩ ⟨am_blind hN, hrv, hpre⟩ rfl (by rw [List.length_map]) hl.1 hstk2 (hmon _) (by rw [hn] at hd; exact hd) hcs) hn
              · exact fin (va_runVN (As := as'.map (am_tv b sz)) (C := (mt a1).1.cls) fixS met ⟨va_cnB as'.length hts hgood rfl rfl rfl (hE.2.1 _ k5) hini ⟨hM.2.2.2.1, hM.2.2.2.2, k1'⟩ hroom, hts _ k3, hts _ k4⟩ ⟨am_blind hN, hrv, hpre⟩ rfl (by rw [List.length_map]) hl.1 hstk2 (hmon _) (by rw [hn] at hd; exact hd) hcs) hn
      · split at hr
        · cases hr
        · rename_i rv hp
          cases hr
          have h0 := am_ret_st hp
          rw [h0] at hp ⊢
          have hn : len = 1 := by
            rcases hsw with z | z
            · cases ins <;> first | (simp [am_isSw] at z; done) | (simp [am_ret] at hp)
            · cases ins <;> first | exact z | (simp [am_ret] at hp)
          rw [hn] at hd
          have := kk pc ins ls H locs hd hp hP hS
          rw [Nat.sub_self, Nat.sub_self] at this
          exact this
end AMR

/-! THE CLAIM OUT OF ONE WALK OF THE LAW'S BODY. Your part is whole_start (and what it stands on); all else here is the same for every law, but numbers. -/
def R_law : String := "FlagMachineLaw"
def lw_P (b : Addr) (xs : List Int32) (args : Array Value) (s : State) : Prop := args = #[.ref b] ∧ s.IntsAt b xs ∧ xs.length ≤ 3584 ∧ (Jvm.Cond.and given_1 narrow_1).before args s = true
def lw_Q (_ : Array Value) (s : State) (o : Outcome) (t : State) : Prop := o = .returned (some (.int 1)) ∧ Framed s o t [] 600000 7302250
def lw_Z (below : List Frame) (a : Array Value) (s : State) : State → Prop := fun t => ∃ o, t.status = .running ∧ Ended t below o ∧ lw_Q a s o t
/-- the law's own end, with 1 on the stack, nothing written that was there before, its room as the claim has it -/
theorem lw_ret {p : Program} {l : Launch} {e : Env} {s : State} {m : MethodId} {below : List Frame} {meth : Method} {c : Code} {b : Nat} (hx : p.tables.exec = Jvm.exec) (hb : c.code = code) (hr : meth.sig.returnType = ret) (hlocks : meth.locks = false) {pc : Nat} {H : Heap} {ls : Array Slot} (hdg : decode code pc = .ok (.ireturn, 1)) : W p l e room_1 s m #[Value.ref b] below meth c H [] 600000 7302250 (lw_Z below #[Value.ref b] s) (F0 m pc ls [.int 1]) := by
  intro T hT X
  obtain ⟨fs, hret, hrun, hended, hW, hframe⟩ := X.leave (v := some (.int 1)) (hlocks := hlocks) (fun h => by rw [hr] at h; cases h)
  have hmeth' : T.vm.method? m = some meth := X.method'
  refine ⟨T.setFrames fs, ?_, .returned (some (.int 1)), hrun, hended, rfl, ⟨_, rfl⟩, hW, hframe⟩
  jvm_step X.here [X.here.top, hx, hb, hdg, hmeth', hr, ret, narrow_b1]
  (try refine ⟨rfl, ?_⟩); (try refine ⟨rfl, ?_⟩)
  first | (intro acts; rw [hret _ acts rfl rfl rfl]) | rw [hret _ _ rfl rfl rfl]
  exact Steps.refl _
/-- what holds at the law's entry: the machine, the code, the tables' words (any of lw_tbl by 'hts w (by decide +kernel)'), the script of L ints xs at the cell b, what the Statement gives of the start (any of its parts by flat_of_before) -/
def lw_At (p : Program) (s : State) (m : MethodId) (meth : Method) (c : Code) (b L : Nat) (xs : Nat → Int32) : Prop :=
  p.tables.exec = Jvm.exec ∧ c.code = code ∧ meth.sig.returnType = ret ∧ c.maxLocals = 4 ∧ s.vm.findClass R_law = some m.cls ∧ (∀ w ∈ lw_tbl, w.before #[Value.ref b] s = true) ∧ va_X b L xs s s.heap ∧ b < s.heap.size ∧ meth.locks = false ∧ (Jvm.Cond.and given_1 narrow_1).before #[Value.ref b] s = true
abbrev tb_cells : Nat := 600000
abbrev tb_slots : Nat := 7302250
abbrev tb_wp := am_wp tb_P tb_T tb_mt
abbrev tb_ev := am_ev tb_P tb_T tb_mt
theorem tb_ao : ∀ C ∈ tb_aos, Cond.arrayOver (.object C) ∈ lw_tbl := (am_fa1 (tb_t1_in (i := 98) rfl) am_fa0)
theorem tb_tlw : ∀ t ∈ tb_tl, (t < 4 ∧ Cond.arrayClass (am_aty tb_cl t) ∈ tb_tbl) ∨ (∃ C, am_aty tb_cl t = .object C ∧ C ∈ tb_aos) := (am_fa1 (Or.inl ⟨by decide, (tb_i1 (i := 86) rfl rfl)⟩) (am_fa1 (Or.inl ⟨by decide, (tb_i2 (i := 136) rfl rfl)⟩) (am_fa1 (Or.inl ⟨by decide, (tb_i1 (i := 138) rfl rfl)⟩) (am_fa1 (Or.inr ⟨_, rfl, by decide⟩) am_fa0))))
theorem tb_lt : ∀ (ci : Nat) (q : vw_C), tb_cl[ci]? = some q → ci ∈ tb_oks := by
  intro ci q h
  have h1 := (List.getElem?_eq_some_iff.mp h).1
  simp [tb_cl] at h1
  simp [tb_oks]
  omega
abbrev tb_law (L : Nat) (xs : Nat → Int32) : Prop := ∃ h' : am_H, tb_ev L xs 0 [.ref 0] [] (some (.int 1)) h' ∧ h'.length ≤ tb_cells ∧ am_sl h' ≤ tb_slots

/-! the heap's instructions are sound -/
def am_cs (c : am_C) : Nat := match c with
  | .inl (_, n, _) => n
  | .inr (_, fs) => fs.length
def am_sl : am_H → Nat
  | [] => 0
  | c :: r => am_cs c + am_sl r
theorem am_sl_app (h : am_H) (c : am_C) : am_sl (h ++ [c]) = am_sl h + am_cs c := by
  induction h with
  | nil => simp [am_sl]
  | cons d r ih => simp only [List.cons_append, am_sl, ih]; omega
theorem am_sl_set {c c' : am_C} (hs : am_cs c' = am_cs c) : ∀ {h : am_H} {i : Nat}, h[i]? = some c → am_sl (h.set i c') = am_sl h
  | [], i, hc => by simp at hc
  | d :: r, 0, hc => by
    rw [List.getElem?_cons_zero] at hc
    cases hc
    simp only [List.set_cons_zero, am_sl, hs]
  | d :: r, i + 1, hc => by
    rw [List.getElem?_cons_succ] at hc
    simp only [List.set_cons_succ, am_sl, am_sl_set hs hc]
def am_aty (cl : List vw_C) (t : Nat) : FieldType := match t with
  | 0 => .int
  | 1 => .byte
  | 2 => .boolean
  | 3 => .long
  | c + 4 => match cl[c]? with
    | some r => .object r.1
    | none => .int
def am_tys (cl : List vw_C) (dA : Nat → ClassId) (tl : List Nat) : List (ClassId × FieldType) := tl.map (fun t => (dA t, am_aty cl t))
theorem am_tys_at {cl : List vw_C} {dA : Nat → ClassId} {tl : List Nat} {t : Nat} (h : t ∈ tl) : ∃ t0 : Nat, (am_tys cl dA tl)[t0]? = some (dA t, am_aty cl t) := by
  obtain ⟨i, hi⟩ := List.getElem?_of_mem h
  exact ⟨i, by rw [am_tys, List.getElem?_map, hi]; rfl⟩
def am_okC (cl : List vw_C) (tbl : List Cond) (fty : Nat → Nat → FieldType) : Prop := ∀ (ci : Nat) (q : vw_C), cl[ci]? = some q → (∀ w ∈ u_ws q.1 q.2.1 q.2.2, w ∈ tbl) ∧ (∀ k, k < q.2.2 → parseFieldDescriptor (q.2.1 k).2.2.1 = some (fty ci k)) ∧ (∀ a, a < q.2.2 → ∀ b, b < q.2.2 → a ≠ b → (q.2.1 a).2.1 ≠ (q.2.1 b).2.1)
/-- a field's link: plain, or of a nest mate -/
def am_lnk (tbl nst : List Cond) (own : String) (i : Nat) (q : String × String × String × Bool) : Prop := Cond.fieldLink own i q.1 q.2.1 q.2.2.1 ∈ tbl ∨ ∃ host, Cond.fieldLinkNest own i q.1 q.2.1 q.2.2.1 host ∈ nst
def am_ok3 (cl : List vw_C) (tbl nst : List Cond) (aos : List String) (tl : List Nat) (fty : Nat → Nat → FieldType) (dfl : Nat → List Value) (y : MethodName) (rk : Nat × Nat) (ins : Jvm.ClassFile.Instr) (a1 a2 : Nat) : Prop := match ins with
  | .getfield i => ∃ q, cl[a1]? = some q ∧ a2 < q.2.2 ∧ am_lnk tbl nst y.cls i (q.2.1 a2)
  | .putfield i => ∃ q, cl[a1]? = some q ∧ a2 < q.2.2 ∧ (((q.2.1 a2).2.2.2 = false ∧ am_lnk tbl nst y.cls i (q.2.1 a2)) ∨ ((q.2.1 a2).2.2.2 = true ∧ y.name = "<init>" ∧ (q.2.1 a2).1 = y.cls ∧ Cond.fieldLink y.cls i (q.2.1 a2).1 (q.2.1 a2).2.1 (q.2.1 a2).2.2.1 ∈ tbl))
  | .new i => ∃ q, cl[a1]? = some q ∧ Cond.classLink y.cls i q.1 ∈ tbl ∧ Cond.instantiable q.1 q.2.2 ∈ tbl ∧ Cond.initialized q.1 ∈ tbl ∧ (dfl a1).length = q.2.2 ∧ (∀ j, j < q.2.2 → defaultValue (fty a1 j) = vp_V (dfl a1) j) ∧ (∀ v ∈ dfl a1, v.asRef? = none ∨ v = .null)
  | .newarray t => Cond.arrayClass (newarray.typeOf t) ∈ tbl ∧ ((t = .int ∧ 0 ∈ tl) ∨ (t = .byte ∧ 1 ∈ tl) ∨ (t = .boolean ∧ 2 ∈ tl) ∨ (t = .long ∧ 3 ∈ tl))
  | .anewarray i => ∃ q, cl[a1]? = some q ∧ Cond.classLink y.cls i q.1 ∈ tbl ∧ q.1 ∈ aos ∧ a1 + 4 ∈ tl
  | .arraylength => a1 ∈ tl
  | .iaload => 0 ∈ tl
  | .iastore => 0 ∈ tl
  | .baload => (a1 = 1 ∨ a1 = 2) ∧ a1 ∈ tl
  | .bastore => (a1 = 1 ∨ a1 = 2) ∧ a1 ∈ tl
  | .laload => 3 ∈ tl
  | .lastore => 3 ∈ tl
  | .aaload => (∃ q, cl[a1]? = some q) ∧ a1 + 4 ∈ tl
  | .aastore => (∃ q, cl[a1]? = some q) ∧ a1 + 4 ∈ tl
  | .invokespecial i => (1 ≤ rk.1 ∧ 20 ≤ rk.2) ∧ Cond.methodLink y.cls i objectInit ∈ tbl ∧ Cond.instanceMethod objectInit ∈ tbl ∧ Cond.code objectInit ⟨#[0xb1]⟩ 1 none ∈ tbl
  | .invokestatic i => (1 ≤ rk.1 ∧ 26 ≤ rk.2) ∧ match a1 with
    | 1 => Cond.methodLink y.cls i Lib.Math.max.name ∈ tbl ∧ Cond.static Lib.Math.max.name ∈ tbl ∧ Cond.initialized "java/lang/Math" ∈ tbl ∧ Cond.code Lib.Math.max.name Lib.Math.max.code 2 (some .int) ∈ tbl
    | 2 => Cond.methodLink y.cls i Lib.Math.min.name ∈ tbl ∧ Cond.static Lib.Math.min.name ∈ tbl ∧ Cond.initialized "java/lang/Math" ∈ tbl ∧ Cond.code Lib.Math.min.name Lib.Math.min.code 2 (some .int) ∈ tbl
    | _ => Cond.methodLink y.cls i arraycopyName ∈ tbl ∧ Cond.native arraycopyName ∈ tbl ∧ Cond.static arraycopyName ∈ tbl ∧ Cond.initialized "java/lang/System" ∈ tbl ∧ 1 ∈ tl
  | _ => True
/-- what the tables say, beyond the words that keep by themselves -/
def am_env (dC : Nat → ClassId) (dI : Nat → Nat → Nat) (dA : Nat → ClassId) (cl : List vw_C) (tl : List Nat) (nst : List Cond) (aos : List String) (s : State) : Prop := va_K (dC, dI) cl (am_tys cl dA tl) s ∧ (∀ w ∈ nst, va_Nw w s) ∧ ∀ C ∈ aos, va_AO C s
def am_isN : Cond → Bool
  | .fieldLinkNest .. => true
  | .methodLinkNest .. => true
  | _ => false
theorem am_env.moved {dC : Nat → ClassId} {dI : Nat → Nat → Nat} {dA : Nat → ClassId} {cl : List vw_C} {tl : List Nat} {nst : List Cond} {aos : List String} {s U : State} (hN : ∀ w ∈ nst, am_isN w = true) (hW : s.WarmedH U.vm) (h : am_env dC dI dA cl tl nst aos s) : am_env dC dI dA cl tl nst aos U := by
  refine ⟨va_K.moved hW.alike h.1, fun w hw => ?_, fun C hC => va_AO.moved hW.alike (h.2.2 C hC)⟩
  have h1 := h.2.1 w hw
  have h2 := hN w hw
  cases w <;> first | exact va_Nw.warmF hW h1 | exact va_Nw.warmM hW h1 | (simp [am_isN] at h2)
section AMH
variable {p : Program} {l : Launch} {e : Env} {R : Room} {s : State} {m : MethodId} {args : Array Value} {below : List Frame} {meth : Method} {c : Code} {H : Heap} {locs : List Loc} {cells slots : Nat} {Q : State → Prop}
variable {cc : ByteArray} {pc len : Nat} {ls : Array Slot} {b sz : Nat} {dC : Nat → ClassId} {dI : Nat → Nat → Nat} {dA : Nat → ClassId} {cl : List vw_C} {tl : List Nat} {tbl nst : List Cond} {aos : List String} {fty : Nat → Nat → FieldType} {dfl : Nat → List Value} {y : MethodName} {ins : Jvm.ClassFile.Instr} {st st' : List Value} {h h' : am_H} {a1 a2 L : Nat} {rk : Nat × Nat} {xs : Nat → Int32}
/-- the address of what was made last -/
theorem am_fresh {q : Nat} {en : va_E} {H1 : Heap} {g : JFrame} {slots1 : Nat} (hP1 : va_P (dC, dI) cl (am_ws b sz dA h ++ [(q, en)]) H1) (hD1 : va_D (fun q : Nat => sz ≤ q) (am_ws b sz dA h ++ [(q, en)])) (hcnt : s.heap.size + cells = sz + h.length)
    (kk : q = sz + h.length → W p l e R s m args below meth c H1 locs (cells + 1) slots1 Q g) : W p l e R s m args below meth c H1 locs (cells + 1) slots1 Q g := by
  intro T hT X
  have h1 : H1.size ≤ s.heap.size + (cells + 1) := by rw [← hT]; exact X.heapSize
  have hlast : (am_ws b sz dA h ++ [(q, en)])[h.length]? = some (q, en) := by
    rw [List.getElem?_append_right (by rw [am_ws_len]; exact Nat.le_refl _), am_ws_len, Nat.sub_self]; rfl
  have h2 : q < H1.size := (hP1 h.length _ hlast).lt
  have h3 : sz ≤ q := hD1.2 h.length _ hlast
  have h4 : ¬ q < sz + h.length := by
    intro hq
    have hi : q - sz < h.length := by omega
    obtain ⟨d, hd⟩ : ∃ d, h[q - sz]? = some d := ⟨h[q - sz], List.getElem?_eq_getElem hi⟩
    have h5 : (am_ws b sz dA h ++ [(q, en)])[q - sz]? = some (sz + (q - sz), am_enc b sz dA d) := by
      rw [List.getElem?_append_left (by rw [am_ws_len]; exact hi)]
      exact am_ws_get hd
    have h6 := hD1.1 (q - sz) h.length _ _ h5 hlast (by show sz + (q - sz) = q; omega)
    omega
  exact kk (by omega) T hT X
theorem am_dfl_tv {d : List Value} (hd : ∀ v ∈ d, v.asRef? = none ∨ v = .null) : d.map (am_tv b sz) = d := by
  have : ∀ v ∈ d, am_tv b sz v = v := by
    intro v hv
    cases v with
    | ref i => rcases hd _ hv with h | h <;> simp [Value.asRef?] at h
    | _ => rfl
  rw [List.map_congr_left this, List.map_id']
set_option maxHeartbeats 8000000 in
theorem am_heap_W (hx : p.tables.exec = Jvm.exec) (hb : c.code = cc) (hml : c.maxLocals = ls.size) (hown : s.vm.findClass y.cls = some m.cls) (hnm : y.name = "<init>" → meth.name = "<init>") (hts : ∀ w ∈ tbl, w.before args s = true) (hE : am_env dC dI dA cl tl nst aos s) (hC : am_okC cl tbl fty)
    (hd : decode cc pc = .ok (ins, len)) (hn : len = am_len ins) (hok : am_ok3 cl tbl nst aos tl fty dfl y rk ins a1 a2) (hX : va_X b L xs s s.heap) (hbs : b < sz) (hss : sz ≤ s.heap.size) (hP : va_P (dC, dI) cl (am_ws b sz dA h) H) (hS : va_S (fun q : Nat => sz ≤ q) s.heap H locs) (hcnt : s.heap.size + cells = sz + h.length)
    (hfr : rk.1 ≤ R.frames ∧ rk.2 ≤ R.locals) (hp : am_heap (fty, dfl) L xs ins a1 a2 st h = some (st', h')) (hc1 : cells + (h'.length - h.length) ≤ R.cells) (hc2 : slots + (am_sl h' - am_sl h) ≤ R.slots)
    (k : ∀ (H' : Heap) (locs' : List Loc), va_P (dC, dI) cl (am_ws b sz dA h') H' → va_S (fun q : Nat => sz ≤ q) s.heap H' locs' → W p l e R s m args below meth c H' locs' (cells + (h'.length - h.length)) (slots + (am_sl h' - am_sl h)) Q (F0 m (pc + len) ls (st'.map (am_tv b sz)))) : W p l e R s m args below meth c H locs cells slots Q (F0 m pc ls (st.map (am_tv b sz))) := by
  subst hn
  have hA : ∀ q : Nat, s.heap.size ≤ q → sz ≤ q := fun q h => Nat.le_trans hss h
  have hbA : ¬ sz ≤ b := by omega
  have hbl : b < s.heap.size := by omega
  have hD := am_ws_D (b := b) (sz := sz) (dA := dA) h
  have hK := hE.1
  have same : ∀ {H' : Heap} {locs' : List Loc} {g : JFrame}, W p l e R s m args below meth c H' locs' (cells + (h.length - h.length)) (slots + (am_sl h - am_sl h)) Q g → W p l e R s m args below meth c H' locs' cells slots Q g := by
    intro H' locs' g w
    rw [Nat.sub_self, Nat.sub_self] at w
    exact w
  have put : ∀ {i : Nat} {c0 c1 : am_C} {H' : Heap} {locs' : List Loc} {g : JFrame}, h[i]? = some c0 → am_cs c1 = am_cs c0 → W p l e R s m args below meth c H' locs' (cells + ((h.set i c1).length - h.length)) (slots + (am_sl (h.set i c1) - am_sl h)) Q g → W p l e R s m args below meth c H' locs' cells slots Q g := by
    intro i c0 c1 H' locs' g h1 h2 w
    rw [am_sl_set h2 h1, List.length_set, Nat.sub_self, Nat.sub_self] at w
    exact w
  unfold am_heap at hp
  split at hp
  · -- getfield
    rename_i i0 i rest
    split at hp
    · rename_i ci fs hg
      split at hp
      · rename_i hci
        split at hp
        · rename_i v hv
          cases hp
          subst hci
          obtain ⟨j, rfl, hj⟩ := am_get_eq hg
          obtain ⟨⟨C, Tf, N⟩, q1, q2, q3⟩ := hok
          have he := am_ws_get (b := b) (sz := sz) (dA := dA) hj
          have hv' : (fs.map (am_tv b sz))[a2]? = some (am_tv b sz v) := by rw [List.getElem?_map, hv]; rfl
          rcases q3 with q3 | ⟨host, q3⟩
          · exact va_get hx hb hts (hC ci _ q1).1 hown hK hP j he q1 a2 q2 (hts _ q3) (fun _ h9 => h9) hv' hd (same (k H locs hP hS))
          · exact va_getN hx hb hts (hC ci _ q1).1 hown hK hP j he q1 a2 q2 (va_Nw.use rfl (hE.2.1 _ q3)) (fun _ h9 => h9) hv' hd (same (k H locs hP hS))
        · cases hp
      · cases hp
    · cases hp
  · -- putfield
    rename_i i0 v i rest
    split at hp
    · rename_i ci fs hg
      split at hp
      · rename_i hcd
        obtain ⟨hci, hl2, hna, hfi⟩ := hcd
        have hp := Option.some.inj hp
        obtain ⟨rfl, rfl⟩ := Prod.mk.inj hp
        subst hci
        obtain ⟨j, rfl, hj⟩ := am_get_eq hg
        obtain ⟨⟨C, Tf, N⟩, q1, q2, q3⟩ := hok
        have he := am_ws_get (b := b) (sz := sz) (dA := dA) hj
        have hty := (hC ci _ q1).2.1
        have hlen : a2 < (fs.map (am_tv b sz)).length := by rw [List.length_map]; exact hl2
        have kk : ∀ (H1 : Heap) (locs1 : List Loc), va_P (dC, dI) cl ((am_ws b sz dA h).set j (sz + j, .inr (ci, (fs.map (am_tv b sz)).set a2 (am_tv b sz v)))) H1 → va_D (fun q : Nat => sz ≤ q) ((am_ws b sz dA h).set j (sz + j, .inr (ci, (fs.map (am_tv b sz)).set a2 (am_tv b sz v)))) → va_S (fun q : Nat => sz ≤ q) s.heap H1 locs1 → W p l e R s m args below meth c H1 locs1 cells slots Q (F0 m (pc + 3) ls (rest.map (am_tv b sz))) := by
          intro H1 locs1 g1 g2 g3
          refine put hj ?_ (k H1 locs1 ?_ g3)
          · simp [am_cs]
          · show va_P _ _ (am_wsF b sz dA sz (h.set j (.inr (ci, fs.set a2 v)))) H1
            rw [am_wsF_set]
            simpa only [am_enc, List.map_set] using g1
        rcases q3 with ⟨f1, q3 | ⟨host, q3⟩⟩ | ⟨f1, f2, f3, q3⟩
        · exact va_put hx hb hts (hC ci _ q1).1 (fty ci) hty (hC ci _ q1).2.2 hown hK hP hD hS j he q1 a2 q2 (hts _ q3) (fun _ h9 => h9) f1 (hty a2 q2) (am_tv_nar hna) (am_tv_fits hfi) hlen hd kk
        · exact va_putN hx hb hts (hC ci _ q1).1 (fty ci) hty (hC ci _ q1).2.2 hown hK hP hD hS j he q1 a2 q2 (va_Nw.use rfl (hE.2.1 _ q3)) (fun _ h9 => h9) f1 (hty a2 q2) (am_tv_nar hna) (am_tv_fits hfi) hlen hd kk
        · exact va_putF hx hb hts (hC ci _ q1).1 (fty ci) hty (hC ci _ q1).2.2 hown hK hP hD hS j he q1 a2 q2 (hts _ q3) (fun _ h9 => h9) f1 (hnm f2) f3 (hty a2 q2) (am_tv_nar hna) (am_tv_fits hfi) hlen hd kk
      · cases hp
    · cases hp
  · -- new
    cases hp
    obtain ⟨⟨C, Tf, N⟩, q1, q2, q3, q4, q5, q6, q7⟩ := hok
    have e1 : (h ++ [(.inr (a1, dfl a1) : am_C)]).length - h.length = 1 := by simp
    have e2 : am_sl (h ++ [(.inr (a1, dfl a1) : am_C)]) - am_sl h = N := by rw [am_sl_app, show am_cs (.inr (a1, dfl a1)) = N from q5]; omega
    rw [e1, e2] at k
    rw [e1] at hc1
    rw [e2] at hc2
    refine va_new (ci := a1) (fs := dfl a1) hx hb hts (hC a1 _ q1).1 (fty a1) (hC a1 _ q1).2.1 hown (hts _ q2) (hts _ q3) (hts _ q4) hK hP hD hS hA q1 q6 hc1 hc2 hd (fun q H1 g1 g2 g3 => ?_)
    refine am_fresh g1 g2 hcnt fun hq => ?_
    subst hq
    refine k H1 locs ?_ g3
    show va_P _ _ (am_wsF b sz dA sz (h ++ [.inr (a1, dfl a1)])) H1
    rw [am_wsF_app]
    simpa only [am_enc, am_dfl_tv q7] using g1
  · -- newarray int
    rename_i n rest
    split at hp
    · cases hp
    · rename_i hng
      cases hp
      obtain ⟨q1, q2⟩ := hok
      have q2 : 0 ∈ tl := by rcases q2 with ⟨-, q⟩ | ⟨h, -⟩ | ⟨h, -⟩ | ⟨h, -⟩ <;> first | exact q | cases h
      have e1 : (h ++ [(.inl (0, n.toNatClampNeg, .inl (fun _ => 0)) : am_C)]).length - h.length = 1 := by simp
      have e2 : am_sl (h ++ [(.inl (0, n.toNatClampNeg, .inl (fun _ => 0)) : am_C)]) - am_sl h = n.toNatClampNeg := by rw [am_sl_app]; simp [am_cs]
      rw [e1, e2] at k
      rw [e1] at hc1
      rw [e2] at hc2
      refine va_newa (ty := .int) (a0 := (n.toNatClampNeg, .inl (fun _ => 0))) hx hb (hts _ q1) rfl hK hP hD hS hA (fun _ => rfl) (fun z => hng (Or.inl z)) rfl (by show _ * 4 ≤ _; omega) hc1 hc2 hd (fun q cA H1 g0 g1 g2 g3 => ?_)
      refine am_fresh g1 g2 hcnt fun hq => ?_
      subst hq
      refine k H1 locs ?_ g3
      obtain ⟨t0, ht0⟩ := am_tys_at (cl := cl) (dA := dA) q2
      have r1 : s.vm.findClass _ = some cA := (g0.2 (am_tys cl dA tl).length (cA, .int) (by rw [List.getElem?_append_right (Nat.le_refl _), Nat.sub_self]; rfl)).2
      have r2 : s.vm.findClass _ = some (dA 0) := (hK.2 t0 _ ht0).2
      have r3 : cA = dA 0 := Option.some.inj (r1.symm.trans r2)
      subst r3
      show va_P _ _ (am_wsF b sz dA sz (h ++ [.inl (0, n.toNatClampNeg, .inl (fun _ => 0))])) H1
      rw [am_wsF_app]
      exact g1
  · -- newarray byte
    rename_i n rest
    split at hp
    · cases hp
    · rename_i hng
      cases hp
      obtain ⟨q1, q2⟩ := hok
      have q2 : 1 ∈ tl := by rcases q2 with ⟨h, -⟩ | ⟨-, q⟩ | ⟨h, -⟩ | ⟨h, -⟩ <;> first | exact q | cases h
      have e1 : (h ++ [(.inl (1, n.toNatClampNeg, .inl (fun _ => 0)) : am_C)]).length - h.length = 1 := by simp
      have e2 : am_sl (h ++ [(.inl (1, n.toNatClampNeg, .inl (fun _ => 0)) : am_C)]) - am_sl h = n.toNatClampNeg := by rw [am_sl_app]; simp [am_cs]
      rw [e1, e2] at k
      rw [e1] at hc1
      rw [e2] at hc2
      refine va_newa (ty := .byte) (a0 := (n.toNatClampNeg, .inl (fun _ => 0))) hx hb (hts _ q1) rfl hK hP hD hS hA (fun _ => rfl) (fun z => hng (Or.inl z)) rfl (by show _ * 1 ≤ _; omega) hc1 hc2 hd (fun q cA H1 g0 g1 g2 g3 => ?_)
      refine am_fresh g1 g2 hcnt fun hq => ?_
      subst hq
      refine k H1 locs ?_ g3
      obtain ⟨t0, ht0⟩ := am_tys_at (cl := cl) (dA := dA) q2
      have r1 : s.vm.findClass _ = some cA := (g0.2 (am_tys cl dA tl).length (cA, .byte) (by rw [List.getElem?_append_right (Nat.le_refl _), Nat.sub_self]; rfl)).2
      have r2 : s.vm.findClass _ = some (dA 1) := (hK.2 t0 _ ht0).2
      have r3 : cA = dA 1 := Option.some.inj (r1.symm.trans r2)
      subst r3
      show va_P _ _ (am_wsF b sz dA sz (h ++ [.inl (1, n.toNatClampNeg, .inl (fun _ => 0))])) H1
      rw [am_wsF_app]
      exact g1
  · -- newarray boolean
    rename_i n rest
    split at hp
    · cases hp
    · rename_i hng
      cases hp
      obtain ⟨q1, q2⟩ := hok
      have q2 : 2 ∈ tl := by rcases q2 with ⟨h, -⟩ | ⟨h, -⟩ | ⟨-, q⟩ | ⟨h, -⟩ <;> first | exact q | cases h
      have e1 : (h ++ [(.inl (2, n.toNatClampNeg, .inl (fun _ => 0)) : am_C)]).length - h.length = 1 := by simp
      have e2 : am_sl (h ++ [(.inl (2, n.toNatClampNeg, .inl (fun _ => 0)) : am_C)]) - am_sl h = n.toNatClampNeg := by rw [am_sl_app]; simp [am_cs]
      rw [e1, e2] at k
      rw [e1] at hc1
      rw [e2] at hc2
      refine va_newa (ty := .boolean) (a0 := (n.toNatClampNeg, .inl (fun _ => 0))) hx hb (hts _ q1) rfl hK hP hD hS hA (fun _ => rfl) (fun z => hng (Or.inl z)) rfl (by show _ * 1 ≤ _; omega) hc1 hc2 hd (fun q cA H1 g0 g1 g2 g3 => ?_)
      refine am_fresh g1 g2 hcnt fun hq => ?_
      subst hq
      refine k H1 locs ?_ g3
      obtain ⟨t0, ht0⟩ := am_tys_at (cl := cl) (dA := dA) q2
      have r1 : s.vm.findClass _ = some cA := (g0.2 (am_tys cl dA tl).length (cA, .boolean) (by rw [List.getElem?_append_right (Nat.le_refl _), Nat.sub_self]; rfl)).2
      have r2 : s.vm.findClass _ = some (dA 2) := (hK.2 t0 _ ht0).2
      have r3 : cA = dA 2 := Option.some.inj (r1.symm.trans r2)
      subst r3
      show va_P _ _ (am_wsF b sz dA sz (h ++ [.inl (2, n.toNatClampNeg, .inl (fun _ => 0))])) H1
      rw [am_wsF_app]
      exact g1
  · -- newarray long
    rename_i n rest
    split at hp
    · cases hp
    · rename_i hng
      cases hp
      obtain ⟨q1, q2⟩ := hok
      have q2 : 3 ∈ tl := by rcases q2 with ⟨h, -⟩ | ⟨h, -⟩ | ⟨h, -⟩ | ⟨-, q⟩ <;> first | exact q | cases h
      have e1 : (h ++ [(.inl (3, n.toNatClampNeg, .inr (.inl (fun _ => 0))) : am_C)]).length - h.length = 1 := by simp
      have e2 : am_sl (h ++ [(.inl (3, n.toNatClampNeg, .inr (.inl (fun _ => 0))) : am_C)]) - am_sl h = n.toNatClampNeg := by rw [am_sl_app]; simp [am_cs]
      rw [e1, e2] at k
      rw [e1] at hc1
      rw [e2] at hc2
      refine va_newa (ty := .long) (a0 := (n.toNatClampNeg, .inr (.inl (fun _ => 0)))) hx hb (hts _ q1) rfl hK hP hD hS hA (fun _ => rfl) (fun z => hng (Or.inl z)) rfl (by show _ * 8 ≤ _; omega) hc1 hc2 hd (fun q cA H1 g0 g1 g2 g3 => ?_)
      refine am_fresh g1 g2 hcnt fun hq => ?_
      subst hq
      refine k H1 locs ?_ g3
      obtain ⟨t0, ht0⟩ := am_tys_at (cl := cl) (dA := dA) q2
      have r1 : s.vm.findClass _ = some cA := (g0.2 (am_tys cl dA tl).length (cA, .long) (by rw [List.getElem?_append_right (Nat.le_refl _), Nat.sub_self]; rfl)).2
      have r2 : s.vm.findClass _ = some (dA 3) := (hK.2 t0 _ ht0).2
      have r3 : cA = dA 3 := Option.some.inj (r1.symm.trans r2)
      subst r3
      show va_P _ _ (am_wsF b sz dA sz (h ++ [.inl (3, n.toNatClampNeg, .inr (.inl (fun _ => 0)))])) H1
      rw [am_wsF_app]
      exact g1
  · -- anewarray
    rename_i i0 n rest
    split at hp
    · cases hp
    · rename_i hng
      cases hp
      obtain ⟨⟨C, Tf, N⟩, q1, q2, q3, q4⟩ := hok
      have e1 : (h ++ [(.inl (a1 + 4, n.toNatClampNeg, .inr (.inr (fun _ => none))) : am_C)]).length - h.length = 1 := by simp
      have e2 : am_sl (h ++ [(.inl (a1 + 4, n.toNatClampNeg, .inr (.inr (fun _ => none))) : am_C)]) - am_sl h = n.toNatClampNeg := by rw [am_sl_app]; simp [am_cs]
      rw [e1, e2] at k
      rw [e1] at hc1
      rw [e2] at hc2
      refine va_newq hx hb hown (hts _ q2) (hE.2.2 _ q3) hK hP hD hS hA (fun z => hng (Or.inl z)) rfl (by omega) hc1 hc2 hd (fun q cA H1 g0 g1 g2 g3 => ?_)
      refine am_fresh g1 g2 hcnt fun hq => ?_
      subst hq
      refine k H1 locs ?_ g3
      obtain ⟨t0, ht0⟩ := am_tys_at (cl := cl) (dA := dA) q4
      have e4 : am_aty cl (a1 + 4) = .object C := by simp [am_aty, q1]
      rw [e4] at ht0
      have r1 : va_RA s cA (.object C) := (g0.2 (am_tys cl dA tl).length (cA, .object C) (by rw [List.getElem?_append_right (Nat.le_refl _), Nat.sub_self]; rfl)).2
      have r2 : va_RA s (dA (a1 + 4)) (.object C) := (hK.2 t0 _ ht0).2
      obtain ⟨_, _, -, -, -, r1⟩ := r1
      obtain ⟨_, _, -, -, -, r2⟩ := r2
      have r3 : cA = dA (a1 + 4) := Option.some.inj (r1.symm.trans r2)
      subst r3
      show va_P _ _ (am_wsF b sz dA sz (h ++ [.inl (a1 + 4, n.toNatClampNeg, .inr (.inr (fun _ => none)))])) H1
      rw [am_wsF_app]
      exact g1
  · -- arraylength
    rename_i i rest
    split at hp
    · rename_i hi
      cases hp
      subst hi
      exact va_slen hx hb hX hbl hbA hS hd (same (k H locs hP hS))
    · split at hp
      · rename_i t n f hg
        split at hp
        · rename_i ht
          cases hp
          subst ht
          obtain ⟨j, rfl, hj⟩ := am_get_eq hg
          have he := am_ws_get (b := b) (sz := sz) (dA := dA) hj
          obtain ⟨t0, ht0⟩ := am_tys_at (cl := cl) (dA := dA) (show t ∈ tl from hok)
          obtain f | f | f := f
          · exact va_alen hx hb hK hP j t0 he ht0 rfl hd (same (k H locs hP hS))
          · exact va_alen hx hb hK hP j t0 he ht0 rfl hd (same (k H locs hP hS))
          · exact va_alen hx hb hK hP j t0 he ht0 rfl hd (same (k H locs hP hS))
        · cases hp
      · cases hp
  · -- iaload
    rename_i jx i rest
    split at hp
    · rename_i hi
      split at hp
      · rename_i hin
        cases hp
        subst hi
        exact va_sld hx hb hX hbl hbA hS (am_in_vp hin) hd (same (k H locs hP hS))
      · cases hp
    · split at hp
      · rename_i t n f hg
        split at hp
        · rename_i ht
          obtain ⟨ht, hin⟩ := ht
          cases hp
          subst ht
          obtain ⟨j, rfl, hj⟩ := am_get_eq hg
          have he := am_ws_get (b := b) (sz := sz) (dA := dA) hj
          obtain ⟨t0, ht0⟩ := am_tys_at (cl := cl) (dA := dA) (show 0 ∈ tl from hok)
          exact va_iald hx hb hK hP j t0 he ht0 (am_in_vp hin) hd (same (k H locs hP hS))
        · cases hp
      · cases hp
  · -- baload
    rename_i jx i rest
    split at hp
    · rename_i t n f hg
      split at hp
      · rename_i ht
        obtain ⟨ht, hin⟩ := ht
        cases hp
        subst ht
        obtain ⟨j, rfl, hj⟩ := am_get_eq hg
        have he := am_ws_get (b := b) (sz := sz) (dA := dA) hj
        obtain ⟨q1, q2⟩ := (show (t = 1 ∨ t = 2) ∧ t ∈ tl from hok)
        obtain ⟨t0, ht0⟩ := am_tys_at (cl := cl) (dA := dA) q2
        rcases q1 with rfl | rfl
        · exact va_bald hx hb hK hP j t0 he ht0 (am_in_vp hin) hd (same (k H locs hP hS))
        · exact va_zald hx hb hK hP j t0 he ht0 (am_in_vp hin) hd (same (k H locs hP hS))
      · cases hp
    · cases hp
  · -- laload
    rename_i jx i rest
    split at hp
    · rename_i t n f hg
      split at hp
      · rename_i ht
        obtain ⟨ht, hin⟩ := ht
        cases hp
        subst ht
        obtain ⟨j, rfl, hj⟩ := am_get_eq hg
        have he := am_ws_get (b := b) (sz := sz) (dA := dA) hj
        obtain ⟨t0, ht0⟩ := am_tys_at (cl := cl) (dA := dA) (show 3 ∈ tl from hok)
        exact va_lald hx hb hK hP j t0 he ht0 (am_in_vp hin) hd (same (k H locs hP hS))
      · cases hp
    · cases hp
  · -- aaload
    rename_i jx i rest
    split at hp
    · rename_i t n f hg
      split at hp
      · rename_i ht
        obtain ⟨ht, hin⟩ := ht
        cases hp
        subst ht
        obtain ⟨j, rfl, hj⟩ := am_get_eq hg
        have he := am_ws_get (b := b) (sz := sz) (dA := dA) hj
        obtain ⟨⟨⟨C, Tf, N⟩, q1⟩, q2⟩ := (show (∃ q, cl[a1]? = some q) ∧ a1 + 4 ∈ tl from hok)
        obtain ⟨t0, ht0⟩ := am_tys_at (cl := cl) (dA := dA) q2
        have e4 : am_aty cl (a1 + 4) = .object C := by simp [am_aty, q1]
        rw [e4] at ht0
        refine va_aldq hx hb hK hP j t0 he ht0 (am_in_vp hin) hd ?_
        have := same (k H locs hP hS)
        rw [List.map_cons, am_tv_rf] at this
        exact this
      · cases hp
    · cases hp
  · -- iastore
    rename_i x jx i rest
    split at hp
    · rename_i t n f hg
      split at hp
      · rename_i ht
        obtain ⟨ht, hin⟩ := ht
        cases hp
        subst ht
        obtain ⟨j, rfl, hj⟩ := am_get_eq hg
        have he := am_ws_get (b := b) (sz := sz) (dA := dA) hj
        obtain ⟨t0, ht0⟩ := am_tys_at (cl := cl) (dA := dA) (show 0 ∈ tl from hok)
        refine va_iast hx hb hK hP hD hS j t0 he ht0 (am_in_vp hin) hd (fun H1 locs1 g1 g2 g3 => put hj ?_ (k H1 locs1 ?_ g3))
        · rfl
        · show va_P _ _ (am_wsF b sz dA sz (h.set j _)) H1
          rw [am_wsF_set]
          exact g1
      · cases hp
    · cases hp
  · -- bastore
    rename_i x jx i rest
    split at hp
    · rename_i t n f hg
      split at hp
      · rename_i ht
        obtain ⟨ht, hin⟩ := ht
        cases hp
        subst ht
        obtain ⟨j, rfl, hj⟩ := am_get_eq hg
        have he := am_ws_get (b := b) (sz := sz) (dA := dA) hj
        obtain ⟨q1, q2⟩ := (show (t = 1 ∨ t = 2) ∧ t ∈ tl from hok)
        obtain ⟨t0, ht0⟩ := am_tys_at (cl := cl) (dA := dA) q2
        rcases q1 with rfl | rfl
        · refine va_bast hx hb hK hP hD hS j t0 he ht0 (am_in_vp hin) hd (fun H1 locs1 g1 g2 g3 => put hj ?_ (k H1 locs1 ?_ g3))
          · rfl
          · show va_P _ _ (am_wsF b sz dA sz (h.set j _)) H1
            rw [am_wsF_set]
            exact g1
        · refine va_zast hx hb hK hP hD hS j t0 he ht0 (am_in_vp hin) hd (fun H1 locs1 g1 g2 g3 => put hj ?_ (k H1 locs1 ?_ g3))
          · rfl
          · show va_P _ _ (am_wsF b sz dA sz (h.set j _)) H1
            rw [am_wsF_set]
            exact g1
      · cases hp
    · cases hp
  · -- lastore
    rename_i x jx i rest
    split at hp
    · rename_i t n f hg
      split at hp
      · rename_i ht
        obtain ⟨ht, hin⟩ := ht
        cases hp
        subst ht
        obtain ⟨j, rfl, hj⟩ := am_get_eq hg
        have he := am_ws_get (b := b) (sz := sz) (dA := dA) hj
        obtain ⟨t0, ht0⟩ := am_tys_at (cl := cl) (dA := dA) (show 3 ∈ tl from hok)
        refine va_last hx hb hK hP hD hS j t0 he ht0 (am_in_vp hin) hd (fun H1 locs1 g1 g2 g3 => put hj ?_ (k H1 locs1 ?_ g3))
        · rfl
        · show va_P _ _ (am_wsF b sz dA sz (h.set j _)) H1
          rw [am_wsF_set]
          exact g1
      · cases hp
    · cases hp
  · -- aastore
    rename_i w jx i rest
    split at hp
    · rename_i t n f ci fs hg hw
      split at hp
      · rename_i ht
        obtain ⟨ht, hci, hin⟩ := ht
        cases hp
        subst hci
        subst ht
        obtain ⟨j, rfl, hj⟩ := am_get_eq hg
        obtain ⟨jw, rfl, hjw⟩ := am_get_eq hw
        have he := am_ws_get (b := b) (sz := sz) (dA := dA) hj
        have hew := am_ws_get (b := b) (sz := sz) (dA := dA) hjw
        obtain ⟨⟨⟨C, Tf, N⟩, q1⟩, q2⟩ := (show (∃ q, cl[ci]? = some q) ∧ ci + 4 ∈ tl from hok)
        obtain ⟨t0, ht0⟩ := am_tys_at (cl := cl) (dA := dA) q2
        have e4 : am_aty cl (ci + 4) = .object C := by simp [am_aty, q1]
        rw [e4] at ht0
        refine va_astq (r := (C, Tf, N)) hx hb hK hP hD hS j t0 jw ci he ht0 hew q1 (am_in_vp hin) hd (fun H1 locs1 g1 g2 g3 => put hj ?_ (k H1 locs1 ?_ g3))
        · rfl
        · show va_P _ _ (am_wsF b sz dA sz (h.set j _)) H1
          rw [am_wsF_set]
          have ef : (fun k => (va_up f jx.toNatClampNeg (some (jw + 1)) k).map (am_ad b sz)) = va_up (fun k => (f k).map (am_ad b sz)) jx.toNatClampNeg (some (sz + jw)) := by
            funext z
            unfold va_up
            split <;> rfl
          show va_P _ _ ((am_wsF b sz dA sz h).set j (sz + j, .inl (dA (ci + 4), n, .inr (.inr (.inr (.inr (fun k => (va_up f jx.toNatClampNeg (some (jw + 1)) k).map (am_ad b sz)))))))) H1
          rw [ef]
          exact g1
      · cases hp
    · cases hp
  · -- Object.<init>
    split at hp
    · rename_i hsum
      cases hp
      obtain ⟨q0, q1, q2, q3⟩ := hok
      refine W.objInit hx hb hown (hts _ q1) (hts _ q2) (hts _ q3) rfl (by rw [hml]) rfl hd (by omega) ?_ ?_
      · show 2 * 0 + _ + 12 ≤ _
        rw [am_sum_tv]
        omega
      · exact same (k H locs hP hS)
    · cases hp
  · -- Math.max, Math.min, System.arraycopy
    rename_i i0 n dp rest
    split at hp
    · rename_i ha
      subst ha
      split at hp
      · rename_i hsum
        cases hp
        obtain ⟨q0, q1, q2, q3, q4⟩ := hok
        exact va_mmax hx hb hml hown (hts _ q1) (hts _ q2) (hts _ q3) (hts _ q4) (by omega) (by rw [am_sum_tv]; omega) (by omega) (by omega) hd (same (k H locs hP hS))
      · cases hp
    · split at hp
      · rename_i ha
        subst ha
        split at hp
        · rename_i hsum
          cases hp
          obtain ⟨q0, q1, q2, q3, q4⟩ := hok
          exact va_mmin hx hb hml hown (hts _ q1) (hts _ q2) (hts _ q3) (hts _ q4) (by omega) (by rw [am_sum_tv]; omega) (by omega) (by omega) hd (same (k H locs hP hS))
        · cases hp
      · rename_i ha1 ha2
        split at hp
        · rename_i d sp sr rest
          split at hp
          · rename_i t0 n0 f t1 n1 g hg hg2
            split at hp
            · rename_i hcd
              obtain ⟨rfl, rfl, c1, c2, c3, c4, c5, c6, c7⟩ := hcd
              cases hp
              obtain ⟨j, rfl, hj⟩ := am_get_eq hg
              obtain ⟨j2, rfl, hj2⟩ := am_get_eq hg2
              have he := am_ws_get (b := b) (sz := sz) (dA := dA) hj
              have he2 := am_ws_get (b := b) (sz := sz) (dA := dA) hj2
              obtain ⟨q0, hok⟩ := hok
              split at hok
              · exact absurd rfl ha1
              · exact absurd rfl ha2
              · obtain ⟨q1, q2, q3, q4, q5⟩ := hok
                obtain ⟨t0, ht0⟩ := am_tys_at (cl := cl) (dA := dA) q5
                refine va_copyi hx hb hml hown (hts _ q1) (hts _ q2) (hts _ q3) (hts _ q4) hK hP hD hS j j2 t0 t0 he he2 ht0 ht0 rfl c1 c2 c3 c4 c5 c7 (by omega) ?_ hd (fun H1 locs1 g1 g2 g3 => put hj2 ?_ (k H1 locs1 ?_ g3))
                · rw [am_sum_tv, show nativeFrameWords "java/lang/System" "arraycopy" 5 = 7 from rfl]
                  omega
                · rfl
                · show va_P _ _ (am_wsF b sz dA sz (h.set j2 _)) H1
                  rw [am_wsF_set]
                  exact g1
            · cases hp
          · cases hp
        · cases hp
  · cases hp
end AMH

/-! FROM THE FUNCTION TO THE CLAIM: if the abstract run of the law answers 1 within the room, the law's walk does -/
theorem tb_okA : am_okA tb_cl tb_tbl tb_nst tb_aos tb_tl tb_P tb_T tb_mt := by
  refine ⟨fun mi pc en h => ?_, tb_okC, fun w hw => good_of_word (List.mem_filter.mp hw).2, fun w hw => (List.mem_filter.mp hw).2⟩
  unfold tb_T at h
  cases hb : Nat.blt mi tb_nM with
  | false => rw [hb] at h; cases h
  | true =>
    rw [hb] at h
    have hlt : mi < tb_nM := Nat.le_of_ble_eq_true hb
    obtain ⟨K, hK, hA⟩ := tb_okL mi hlt
    have hm := am_find_mem (show am_find pc ((tb_code mi).getD (pc / 32) []) = some en from h)
    have hbk : (tb_code mi).getD (pc / 32) [] ∈ tb_code mi := by
      rw [List.getD_eq_getElem?_getD] at hm ⊢
      cases hz : (tb_code mi)[pc / 32]? with
      | none => rw [hz] at hm; exact absurd hm List.not_mem_nil
      | some bk => exact List.mem_of_getElem? hz
    have h1 := List.all_eq_true.mp (List.all_eq_true.mp hA _ hbk) _ hm
    refine am_ckE_ok hK (fun hk => ?_) tb_okq tb_x tb_okj h1
    rcases Nat.eq_zero_or_pos mi with z | z
    · subst z
      exact absurd hk (by decide)
    · have h2 := (tb_okj mi z hlt).2
      rw [hk] at h2
      exact h2.2.1
set_option maxHeartbeats 4000000 in
theorem tb_start {p : Program} {e : Env} {s : State} {m : MethodId} {below : List Frame} {meth : Method} {c : Code} (l : Launch) {b L : Nat} {xs : Nat → Int32} (C0 : lw_At p s m meth c b L xs) (hrun : tb_law L xs) : W p l e room_1 s m #[Value.ref b] below meth c s.heap [] 0 0 (lw_Z below #[Value.ref b] s) (entryFrame m ([Value.ref b] : List Value).toArray 4) := by
  obtain ⟨hx, hb, hr, hml, hown, hts0, hX, hbl, hlocks, hgv⟩ := C0
  have hts : ∀ w ∈ tb_tbl, w.before #[Value.ref b] s = true := fun w hw => hts0 w (List.mem_filter.mp hw).1
  -- the kinds
  have hk : ∀ ci : Nat, ∃ (cC : ClassId), ∃ (iS : Nat → Nat), ∀ q : vw_C, tb_cl[ci]? = some q → u_Kn s q.1 q.2.1 q.2.2 cC iS := by
    intro ci
    cases hq : tb_cl[ci]? with
    | none => exact ⟨0, fun _ => 0, fun q h => by cases h⟩
    | some q =>
      obtain ⟨q', g1, g2, -⟩ := tb_okq ci (tb_lt ci q hq)
      have e1 : q' = q := Option.some.inj (g1.symm.trans hq)
      subst e1
      obtain ⟨cC, iS, hu⟩ := u_known (n := q'.2.2) hts (tb_okC ci q' hq).1 (hts _ g2)
      exact ⟨cC, iS, fun z hz => by cases hz; exact hu⟩
  obtain ⟨dC, hdC⟩ := Classical.axiomOfChoice hk
  obtain ⟨dI, hdI⟩ := Classical.axiomOfChoice hdC
  -- the arrays
  have ha : ∀ t : Nat, ∃ cA : ClassId, t ∈ tb_tl → ArrOfT s cA (am_aty tb_cl t) ∧ va_RA s cA (am_aty tb_cl t) := by
    intro t
    by_cases ht : t ∈ tb_tl
    · rcases tb_tlw t ht with ⟨h4, hw⟩ | ⟨C, hC, hao⟩
      · obtain ⟨cA, k, comp, g1, g2, g3⟩ := Cond.arrayClass_spec (hts _ hw)
        refine ⟨cA, fun _ => ⟨fun n z => ⟨fun k h => (by cases h), k, g2, comp, g3⟩, ?_⟩⟩
        match t, h4, g1 with
        | 0, _, g1 => exact g1
        | 1, _, g1 => exact g1
        | 2, _, g1 => exact g1
        | 3, _, g1 => exact g1
      · obtain ⟨comp, cA, k, g1, g2, g3, g4, g5⟩ := Cond.arrayOver_spec (hts0 _ (tb_ao C hao))
        exact ⟨cA, fun _ => by rw [hC]; exact ⟨fun n z => ⟨fun k h => (by cases h), k, g3, comp, g4⟩, k, comp, g3, g4, g1, g5⟩⟩
    · exact ⟨0, fun h => absurd h ht⟩
  obtain ⟨dA, hdA⟩ := Classical.axiomOfChoice ha
  have hE : am_env dC dI dA tb_cl tb_tl tb_nst tb_aos s := by
    refine ⟨⟨fun ci q hq => hdI ci q hq, fun k q hq => ?_⟩, fun w hw => ?_, fun C hC => va_AO.of (hts0 _ (tb_ao C hC))⟩
    · rw [am_tys, List.getElem?_map] at hq
      cases ht : tb_tl[k]? with
      | none => rw [ht] at hq; cases hq
      | some t =>
        rw [ht] at hq
        cases hq
        exact hdA t (List.mem_of_getElem? ht)
    · have h1 := hts0 w (List.mem_filter.mp hw).1
      have h2 := (List.mem_filter.mp hw).2
      cases w <;> first | exact va_Nw.of rfl h1 | (simp [am_isN] at h2)
  obtain ⟨h', ⟨N, hN⟩, hc, hsl⟩ := hrun
  have hl := lv_entry ([.ref b]) (n := 4) (Nat.le_of_ble_eq_true rfl)
  rw [lg_entry_eq]
  generalize (lg_sl ([.ref b]) ++ List.replicate (4 - (lg_sl ([.ref b])).length) Slot.unset).toArray = ls at hl ⊢
  have hl : lv_has ls 4 (am_lvT b s.heap.size (lv_args 0 [.ref 0])) := hl
  have hP : va_P (dC, dI) tb_cl (am_ws b s.heap.size dA []) s.heap := fun k q h => by simp [am_wsF] at h
  refine am_W_all (L := L) (xs := xs) hbl tb_okA N 0 0 (lv_args 0 [.ref 0]) [] [] (some (.int 1)) h' (hN N (Nat.le_refl N)) p e room_1 s m #[Value.ref b] below meth c s.heap [] 0 0 _ ls hx hb hml hown (fun z => absurd z (by decide)) hts hE hX (Nat.le_refl _) hP va_S.rf rfl hl (Nat.le_of_ble_eq_true rfl) (Nat.le_of_ble_eq_true rfl) ?_ ?_ ?_
  · show 0 + (h'.length - 0) ≤ tb_cells
    omega
  · show 0 + (am_sl h' - 0) ≤ tb_slots
    omega
  · intro pc' ins ls' H' locs' hd hret hP' hS'
    refine va_forget (fun q hq => hS'.2.2 q hq) ?_
    refine W.widen (k := tb_cells) (n := tb_slots) ?_ ?_ ?_
    · show 0 + (h'.length - 0) ≤ tb_cells
      omega
    · show 0 + (am_sl h' - 0) ≤ tb_slots
      omega
    · have hins : ins = .ireturn := by
        cases ins <;> first | rfl | (simp [am_ret] at hret)
      subst hins
      exact lw_ret hx hb hr hlocks hd

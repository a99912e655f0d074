/-! pageFor, and the reads and writes of bytes -/
section PAGES4
variable {s : cs} {mc : am_H} {D : List pgT} {i : Nat} {L : Nat} {xs : Nat → Int32}
theorem div_nI {x : Int32} (h : ¬ x < 0) : ∃ k : Nat, k < 2 ^ 31 ∧ x / 256 = nI k := by
  obtain ⟨j, hj, rfl⟩ := nI_of h
  exact ⟨j / 256, by omega, by rw [show (256 : Int32) = nI 256 from rfl, pk_div hj (by decide) (by decide)]⟩
theorem D_at {len : Nat} (hl : len = D.length) {j : Nat} (h : j < len) : ∃ p : pgT, D[j]? = some p := ⟨D[j]'(by omega), List.getElem?_eq_getElem (by omega)⟩
set_option maxRecDepth 20000 in
set_option maxHeartbeats 4000000 in
theorem pg_for (hi : i < 4) (hJ : J s mc D) (x : Int32) : tb_wp L xs 115 0 (lv_args 0 [.ref (sR i), .int x]) [] (HH s mc D) (SP mc D.length) := by
  refine wp1 rfl rfl ?_
  refine wp0 rfl rfl ?_
  refine wp0 rfl rfl ?_
  refine wpTi (fun k ek => ?_)
  refine wp1 rfl rfl ?_
  refine wpV (lv' := [(0, .ref (sR i)), (1, .int x), (2, .int k)]) rfl ?_
  refine wp1 rfl rfl ?_
  have nul : ∀ lv : am_L, tb_wp L xs 115 19 lv [] (HH s mc D) (SP mc D.length) := fun lv => by
    refine wp0 rfl rfl ?_
    exact wp5r (o := none) rfl rfl ⟨s, D, hJ, rfl, Nat.le_refl _, none, rfl, okp_none⟩
  refine wp2b rfl rfl (fun c1 => ?_) (fun c1 => ?_)
  · exact nul _
  · refine wp1 rfl rfl ?_
    refine wp1 rfl rfl ?_
    refine wp3 rfl (am_getf (st_obj hi) rfl) ?_
    refine wp3 rfl (am_alen (st_arr hi)) ?_
    refine wp2b rfl rfl (fun c2 => ?_) (fun c2 => ?_)
    · have hin : am_in k (sN i) = true := in_tab (by rw [← ek]; exact i32_div x c1) c2
      have hlt := am_in_lt hin
      obtain ⟨kn, hkn, ekn⟩ := div_nI c1
      have hk2 : k = nI kn := by rw [← ek]; exact ekn
      have hcl : k.toNatClampNeg = kn := by rw [hk2]; exact nI_clamp hkn
      refine wp1 rfl rfl ?_
      refine wp3 rfl (am_getf (st_obj hi) rfl) ?_
      refine wp1 rfl rfl ?_
      refine wp3 rfl (am_aald (st_arr hi) hin) ?_
      -- the end: at 56 with a page there
      have fin : ∀ (s' : cs) (D' : List pgT) (q : Nat), J s' mc D' → D.length ≤ D'.length → sT s' i k.toNatClampNeg = some q → tb_wp L xs 115 56 [(0, .ref (sR i)), (2, .int k)] [] (HH s' mc D') (SP mc D.length) := by
        intro s' D' q hJ' hle hq
        refine wp1 rfl rfl ?_
        refine wp3 rfl (am_getf (st_obj hi) rfl) ?_
        refine wp1 rfl rfl ?_
        refine wp3 rfl (am_aald (st_arr hi) hin) ?_
        exact wp5r rfl rfl ⟨s', D', hJ', rfl, hle, _, rfl, hJ'.2.2.2.2.2.2.2.1 i _ hi hlt⟩
      cases hT : sT s i k.toNatClampNeg with
      | some q =>
        refine wp2 rfl rfl ?_
        exact wpL rfl rfl (fin s D q hJ (Nat.le_refl _) hT)
      | none =>
        refine wp2 rfl rfl ?_
        refine wp1 rfl rfl ?_
        refine wp3 rfl rfl ?_
        refine wpS (st' := [.ref ((HH s mc D).length + 1), .ref (sR i)]) rfl ?_
        refine wp0 rfl rfl ?_
        refine wp1 rfl rfl ?_
        refine wp1 rfl rfl ?_
        have hg : am_get (HH s mc D ++ [(.inr (11, [.int 0, .null, .null]) : am_C)]) (sR i) = some (.inr (2, [.ref (sR i + 1), am_rf (sW s i)])) := by
          have h1 := st_obj (s := s) (mc := mc) (D := D) hi
          have hp : 1 ≤ sR i := by unfold sR; split <;> decide
          obtain ⟨r, hr⟩ : ∃ r, sR i = r + 1 := ⟨sR i - 1, by omega⟩
          rw [hr] at h1 ⊢
          have h2 : (HH s mc D)[r]? = _ := h1
          show (HH s mc D ++ _)[r]? = _
          rw [List.getElem?_append_left (List.getElem?_eq_some_iff.mp h2).1, h2]
        refine wp3 rfl (am_getf hg rfl) ?_
        refine am_ev_at (as := [.ref ((HH s mc D).length + 1), .int k, am_rf (sW s i)]) (rest := [.ref ((HH s mc D).length + 1), .ref (sR i)]) rfl (by cases sW s i <;> rfl) (pg_init (HH s mc D) k (sW s i)) ?_
        have hq : (HH s mc D).length + 1 = 24 + mc.length + 2 * D.length := by rw [hh_len]; omega
        refine wpH (h' := HH s mc (D ++ [(nI kn, sW s i, fun _ => 0)])) (by rw [← hh_app, hk2, show (HH s mc D).length + 2 = 25 + mc.length + 2 * D.length by omega]) ?_
        refine wpS (st' := [.ref (24 + mc.length + 2 * D.length), .ref (sR i)]) (by show [Value.ref _, _] = _; rw [hq]) ?_
        refine wp3 rfl (am_putf (st_obj hi) (Nat.le_of_ble_eq_true rfl) rfl rfl) ?_
        refine wpH (h' := HH (sW' s i (some (24 + mc.length + 2 * D.length))) mc (D ++ [(nI kn, sW s i, fun _ => 0)])) (st_new hi (some (24 + mc.length + 2 * D.length))) ?_
        refine wp1 rfl rfl ?_
        refine wp3 rfl (am_getf (st_obj hi) rfl) ?_
        refine wp1 rfl rfl ?_
        refine wp1 rfl rfl ?_
        refine wp3 rfl (am_getf (st_obj hi) rfl) ?_
        refine wpS (st' := [.ref (24 + mc.length + 2 * D.length), .int k, .ref (sR i + 1)]) (by rw [sW_W hi _ hi, if_pos rfl]; rfl) ?_
        have hpg : am_get (HH (sW' s i (some (24 + mc.length + 2 * D.length))) mc (D ++ [(nI kn, sW s i, fun _ => 0)])) (24 + mc.length + 2 * D.length) = some (.inr (11, [.int (nI kn), am_rf (sW s i), .ref (25 + mc.length + 2 * D.length)])) := hh_pg (p := (nI kn, sW s i, fun _ => 0)) (by simp)
        refine wp3 rfl (am_aast (st_arr hi) hpg hin) ?_
        refine wpH (st_tab hi _) ?_
        have hJ2 := J_page (k := kn) hi (by rw [← hcl]; exact hlt) (by rw [← hcl]; exact hT) hJ
        rw [hcl, sT_W hi]
        refine wpL rfl rfl (fin _ _ (24 + mc.length + 2 * D.length) hJ2 (by simp) ?_)
        rw [sT_T hi _ hi, if_pos rfl, hcl]
        exact if_pos rfl
    · exact nul _
end PAGES4

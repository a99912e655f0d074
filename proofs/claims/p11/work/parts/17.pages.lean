/-! PAGES: the stretches' methods, by hand -/
theorem pg_get0 (b : Nat) : ∀ (D : List pgT) (j0 j : Nat), (pgF b j0 D)[2 * j]? = D[j]?.map (fun p => (.inr (11, [.int p.1, am_rf p.2.1, .ref (25 + b + 2 * (j0 + j))]) : am_C))
  | [], j0, j => by simp [pgF]
  | p :: r, j0, 0 => by simp [pgF]
  | p :: r, j0, j + 1 => by
    rw [show 2 * (j + 1) = 2 * j + 1 + 1 by omega]
    simp only [pgF, List.getElem?_cons_succ]
    rw [pg_get0 b r (j0 + 1) j, show j0 + 1 + j = j0 + (j + 1) by omega]
theorem pg_get1 (b : Nat) : ∀ (D : List pgT) (j0 j : Nat), (pgF b j0 D)[2 * j + 1]? = D[j]?.map (fun p => (.inl (1, 256, .inl p.2.2) : am_C))
  | [], j0, j => by simp [pgF]
  | p :: r, j0, 0 => by simp [pgF]
  | p :: r, j0, j + 1 => by
    rw [show 2 * (j + 1) + 1 = 2 * j + 1 + 1 + 1 by omega]
    simp only [pgF, List.getElem?_cons_succ]
    exact pg_get1 b r (j0 + 1) j
theorem pg_set (b : Nat) (f : Nat → Int32) : ∀ (D : List pgT) (j0 j : Nat) (p : pgT), D[j]? = some p → (pgF b j0 D).set (2 * j + 1) (.inl (1, 256, .inl f)) = pgF b j0 (D.set j (p.1, p.2.1, f))
  | [], j0, j, p, h => by simp at h
  | q :: r, j0, 0, p, h => by
    rw [List.getElem?_cons_zero] at h
    cases h
    simp [pgF]
  | q :: r, j0, j + 1, p, h => by
    rw [List.getElem?_cons_succ] at h
    rw [show 2 * (j + 1) + 1 = 2 * j + 1 + 1 + 1 by omega]
    simp only [pgF, List.set_cons_succ]
    rw [pg_set b f r (j0 + 1) j p h]
theorem pg_app (b : Nat) (p : pgT) : ∀ (D : List pgT) (j0 : Nat), pgF b j0 (D ++ [p]) = pgF b j0 D ++ [.inr (11, [.int p.1, am_rf p.2.1, .ref (25 + b + 2 * (j0 + D.length))]), .inl (1, 256, .inl p.2.2)]
  | [], j0 => by simp [pgF]
  | q :: r, j0 => by
    simp only [List.cons_append, pgF, List.length_cons]
    rw [pg_app b p r (j0 + 1), show j0 + 1 + r.length = j0 + (r.length + 1) by omega]
theorem pg_len (b : Nat) : ∀ (D : List pgT) (j0 : Nat), (pgF b j0 D).length = 2 * D.length
  | [], j0 => rfl
  | q :: r, j0 => by
    simp only [pgF, List.length_cons, pg_len b r (j0 + 1)]
    omega
section PAGES
variable {s : cs} {mc : am_H} {D : List pgT}
theorem hh_at (m : Nat) : am_get (HH s mc D) (m + 24) = (mc ++ pgF mc.length 0 D)[m]? := rfl
theorem hh_len : (HH s mc D).length = 23 + mc.length + 2 * D.length := by
  have e : (HH s mc D).length = (mc ++ pgF mc.length 0 D).length + 23 := rfl
  rw [e, List.length_append, pg_len]
  omega
theorem hh_pg {j : Nat} {p : pgT} (h : D[j]? = some p) : am_get (HH s mc D) (24 + mc.length + 2 * j) = some (.inr (11, [.int p.1, am_rf p.2.1, .ref (25 + mc.length + 2 * j)])) := by
  rw [show 24 + mc.length + 2 * j = (mc.length + 2 * j) + 24 by omega, hh_at, List.getElem?_append_right (by omega), show mc.length + 2 * j - mc.length = 2 * j by omega, pg_get0, h]
  simp
theorem hh_pc {j : Nat} {p : pgT} (h : D[j]? = some p) : am_get (HH s mc D) (25 + mc.length + 2 * j) = some (.inl (1, 256, .inl p.2.2)) := by
  rw [show 25 + mc.length + 2 * j = (mc.length + (2 * j + 1)) + 24 by omega, hh_at, List.getElem?_append_right (by omega), show mc.length + (2 * j + 1) - mc.length = 2 * j + 1 by omega, pg_get1, h]
  rfl
theorem hh_ps {j : Nat} {p : pgT} {f : Nat → Int32} (h : D[j]? = some p) : am_set (HH s mc D) (25 + mc.length + 2 * j) (.inl (1, 256, .inl f)) = HH s mc (D.set j (p.1, p.2.1, f)) := by
  rw [show 25 + mc.length + 2 * j = (mc.length + (2 * j + 1)) + 24 by omega]
  have e : am_set (HH s mc D) ((mc.length + (2 * j + 1)) + 24) (.inl (1, 256, .inl f)) = CH s ((mc ++ pgF mc.length 0 D).set (mc.length + (2 * j + 1)) (.inl (1, 256, .inl f))) := rfl
  rw [e, List.set_append_right _ _ (by omega), show mc.length + (2 * j + 1) - mc.length = 2 * j + 1 by omega, pg_set _ _ _ _ _ _ h]
  rfl
theorem hh_app {p : pgT} : HH s mc D ++ [.inr (11, [.int p.1, am_rf p.2.1, .ref (25 + mc.length + 2 * D.length)]), .inl (1, 256, .inl p.2.2)] = HH s mc (D ++ [p]) := by
  have e : HH s mc D ++ [.inr (11, [.int p.1, am_rf p.2.1, .ref (25 + mc.length + 2 * D.length)]), .inl (1, 256, .inl p.2.2)] = CH s ((mc ++ pgF mc.length 0 D) ++ [.inr (11, [.int p.1, am_rf p.2.1, .ref (25 + mc.length + 2 * D.length)]), .inl (1, 256, .inl p.2.2)]) := rfl
  rw [e, List.append_assoc]
  show _ = CH s (mc ++ pgF mc.length 0 (D ++ [p]))
  rw [pg_app]
  simp
variable {i : Nat}
theorem st_obj (hi : i < 4) : am_get (HH s mc D) (sR i) = some (.inr (2, [.ref (sR i + 1), am_rf (sW s i)])) := by
  match i, hi with
  | 0, _ => rfl
  | 1, _ => rfl
  | 2, _ => rfl
  | 3, _ => rfl
theorem st_arr (hi : i < 4) : am_get (HH s mc D) (sR i + 1) = some (.inl (15, sN i, .inr (.inr (sT s i)))) := by
  match i, hi with
  | 0, _ => rfl
  | 1, _ => rfl
  | 2, _ => rfl
  | 3, _ => rfl
theorem st_new (hi : i < 4) (o : Option Nat) : am_set (HH s mc D) (sR i) (.inr (2, [.ref (sR i + 1), am_rf o])) = HH (sW' s i o) mc D := by
  match i, hi with
  | 0, _ => rfl
  | 1, _ => rfl
  | 2, _ => rfl
  | 3, _ => rfl
theorem st_tab (hi : i < 4) (T : Nat → Option Nat) : am_set (HH s mc D) (sR i + 1) (.inl (15, sN i, .inr (.inr T))) = HH (sT' s i T) mc D := by
  match i, hi with
  | 0, _ => rfl
  | 1, _ => rfl
  | 2, _ => rfl
  | 3, _ => rfl
theorem okp_mono {b n m : Nat} {o : Option Nat} (h : okp b n o) (hm : n ≤ m) : okp b m o := fun q hq => by
  obtain ⟨j, h1, h2⟩ := h q hq
  exact ⟨j, by omega, h2⟩
theorem okp_none {b n : Nat} : okp b n none := fun q h => by cases h
theorem sN_lt (i : Nat) : sN i < 2000 := by
  unfold sN
  split <;> decide
theorem i32_div (x : Int32) (h : ¬ x < 0) : 0 ≤ (x / 256).toInt := by
  obtain ⟨j, hj, rfl⟩ := nI_of h
  rw [show (256 : Int32) = nI 256 from rfl, pk_div hj (by decide) (by decide), nI_toInt (by omega)]
  omega
theorem in_tab {k : Int32} (h0 : 0 ≤ k.toInt) (h1 : k < Int32.ofNat (sN i)) : am_in k (sN i) = true := by
  have h2 := Int32.lt_iff_toInt_lt.mp h1
  have h3 : (Int32.ofNat (sN i)).toInt = (sN i : Int) := nI_toInt (by have := sN_lt i; omega)
  exact am_in_of h0 (by omega)
def SP (mc : am_H) (n : Nat) (v : Option Value) (h : am_H) : Prop := ∃ (s : cs) (D : List pgT), J s mc D ∧ h = HH s mc D ∧ n ≤ D.length ∧ ∃ o : Option Nat, v = some (am_rf o) ∧ okp mc.length D.length o
variable {L : Nat} {xs : Nat → Int32}
theorem wp5r {mi pc : Nat} {lv : am_L} {h : am_H} {Q : Option Value → am_H → Prop} {len a1 a2 : Nat} {v : Value} {sw : List (Int32 × Nat)} {lm : Option (List Nat)} {c : String} {o : Option Nat} (hT : tb_T mi pc = some (5, .areturn, len, a1, a2, v, sw, lm)) (hr : (tb_mt mi).2.2.2.1 = some (.object c)) (q : Q (some (am_rf o)) h) : tb_wp L xs mi pc lv [am_rf o] h Q := by
  cases o with
  | none => exact wp5 hT (by rw [hr]; rfl) q
  | some r => exact wp5 hT (by rw [hr]; rfl) q
set_option maxRecDepth 20000 in
theorem pg_at (hi : i < 4) (hJ : J s mc D) (x : Int32) : tb_wp L xs 114 0 (lv_args 0 [.ref (sR i), .int x]) [] (HH s mc D) (fun v h => h = HH s mc D ∧ ∃ o, v = some (am_rf o) ∧ okp mc.length D.length o) := by
  have fin : ∀ (o : Option Nat) (lv : am_L), okp mc.length D.length o → tb_wp L xs 114 29 lv [am_rf o] (HH s mc D) (fun v h => h = HH s mc D ∧ ∃ o, v = some (am_rf o) ∧ okp mc.length D.length o) := fun o lv ho => wp5r rfl rfl ⟨rfl, o, rfl, ho⟩
  refine wp1 rfl rfl ?_
  refine wp0 rfl rfl ?_
  refine wp0 rfl rfl ?_
  refine wpTi (fun k ek => ?_)
  refine wp1 rfl rfl ?_
  refine wpV (lv' := [(0, .ref (sR i)), (1, .int x), (2, .int k)]) rfl ?_
  refine wp1 rfl rfl ?_
  refine wp2b rfl rfl (fun c1 => ?_) (fun c1 => ?_)
  · refine wp0 rfl rfl ?_
    refine wp2 rfl rfl ?_
    exact fin none _ okp_none
  · refine wp1 rfl rfl ?_
    refine wp1 rfl rfl ?_
    refine wp3 rfl (am_getf (st_obj hi) rfl) ?_
    refine wp3 rfl (am_alen (st_arr hi)) ?_
    refine wp2b rfl rfl (fun c2 => ?_) (fun c2 => ?_)
    · refine wp1 rfl rfl ?_
      refine wp3 rfl (am_getf (st_obj hi) rfl) ?_
      refine wp1 rfl rfl ?_
      have hin : am_in k (sN i) = true := in_tab (by rw [← ek]; exact i32_div x c1) c2
      refine wp3 rfl (am_aald (st_arr hi) hin) ?_
      exact fin _ _ (hJ.2.2.2.2.2.2.2.1 i _ hi (am_in_lt hin))
    · refine wp0 rfl rfl ?_
      refine wp2 rfl rfl ?_
      exact fin none _ okp_none
end PAGES

/-! pages are made -/
theorem ap_get {h0 r : am_H} {a : am_C} : am_get (h0 ++ a :: r) (h0.length + 1) = some a := by simp [am_get]
theorem ap_set {h0 r : am_H} {a c : am_C} : am_set (h0 ++ a :: r) (h0.length + 1) c = h0 ++ c :: r := by simp [am_set]
section PAGES2
variable {L : Nat} {xs : Nat → Int32}
set_option maxRecDepth 20000 in
theorem pg_init (h0 : am_H) (k : Int32) (o : Option Nat) : tb_ev L xs 87 [.ref (h0.length + 1), .int k, am_rf o] (h0 ++ [.inr (11, [.int 0, .null, .null])]) none (h0 ++ [.inr (11, [.int k, am_rf o, .ref (h0.length + 2)]), .inl (1, 256, .inl (fun _ => 0))]) := by
  refine am_wp_ev ?_
  refine wpV (lv' := [(0, .ref (h0.length + 1)), (1, .int k), (2, am_rf o)]) (by cases o <;> rfl) ?_
  refine wp1 rfl rfl ?_
  refine wp3 rfl rfl ?_
  refine wp1 rfl rfl ?_
  refine wp0 rfl rfl ?_
  refine wp3 rfl rfl ?_
  refine wpH (h' := h0 ++ [.inr (11, [.int 0, .null, .null]), .inl (1, 256, .inl (fun _ => 0))]) (by simp) ?_
  refine wpS (st' := [.ref (h0.length + 2), .ref (h0.length + 1)]) (by simp) ?_
  refine wp3 rfl (am_putf ap_get (Nat.le_of_ble_eq_true rfl) rfl rfl) ?_
  refine wpH (h' := h0 ++ [.inr (11, [.int 0, .null, .ref (h0.length + 2)]), .inl (1, 256, .inl (fun _ => 0))]) ap_set ?_
  refine wp1 rfl rfl ?_
  refine wp1 rfl rfl ?_
  refine wp3 rfl (am_putf ap_get (Nat.le_of_ble_eq_true rfl) rfl rfl) ?_
  refine wpH (h' := h0 ++ [.inr (11, [.int k, .null, .ref (h0.length + 2)]), .inl (1, 256, .inl (fun _ => 0))]) ap_set ?_
  refine wp1 rfl rfl ?_
  refine wp1 (lv' := [(0, .ref (h0.length + 1)), (1, .int k), (2, am_rf o)]) (st' := [am_rf o, .ref (h0.length + 1)]) rfl (by cases o <;> rfl) ?_
  refine wp3 rfl (am_putf ap_get (Nat.le_of_ble_eq_true rfl) (by cases o <;> rfl) (by cases o <;> rfl)) ?_
  refine wpH (h' := h0 ++ [.inr (11, [.int k, am_rf o, .ref (h0.length + 2)]), .inl (1, 256, .inl (fun _ => 0))]) ap_set ?_
  exact wp5 rfl rfl ⟨rfl, rfl⟩
end PAGES2
section PAGES3
variable {s : cs} {mc : am_H} {D : List pgT} {i : Nat}
theorem sT_W (hi : i < 4) (o : Option Nat) (j : Nat) : sT (sW' s i o) j = sT s j := by
  match i, hi with
  | 0, _ => rfl
  | 1, _ => rfl
  | 2, _ => rfl
  | 3, _ => rfl
theorem sW_T (hi : i < 4) (T : Nat → Option Nat) (j : Nat) : sW (sT' s i T) j = sW s j := by
  match i, hi with
  | 0, _ => rfl
  | 1, _ => rfl
  | 2, _ => rfl
  | 3, _ => rfl
theorem sT_T (hi : i < 4) (T : Nat → Option Nat) {j : Nat} (hj : j < 4) : sT (sT' s i T) j = if j = i then T else sT s j := by
  match i, hi, j, hj with
  | 0, _, 0, _ => rfl
  | 0, _, 1, _ => rfl
  | 0, _, 2, _ => rfl
  | 0, _, 3, _ => rfl
  | 1, _, 0, _ => rfl
  | 1, _, 1, _ => rfl
  | 1, _, 2, _ => rfl
  | 1, _, 3, _ => rfl
  | 2, _, 0, _ => rfl
  | 2, _, 1, _ => rfl
  | 2, _, 2, _ => rfl
  | 2, _, 3, _ => rfl
  | 3, _, 0, _ => rfl
  | 3, _, 1, _ => rfl
  | 3, _, 2, _ => rfl
  | 3, _, 3, _ => rfl
theorem sW_W (hi : i < 4) (o : Option Nat) {j : Nat} (hj : j < 4) : sW (sW' s i o) j = if j = i then o else sW s j := by
  match i, hi, j, hj with
  | 0, _, 0, _ => rfl
  | 0, _, 1, _ => rfl
  | 0, _, 2, _ => rfl
  | 0, _, 3, _ => rfl
  | 1, _, 0, _ => rfl
  | 1, _, 1, _ => rfl
  | 1, _, 2, _ => rfl
  | 1, _, 3, _ => rfl
  | 2, _, 0, _ => rfl
  | 2, _, 1, _ => rfl
  | 2, _, 2, _ => rfl
  | 2, _, 3, _ => rfl
  | 3, _, 0, _ => rfl
  | 3, _, 1, _ => rfl
  | 3, _, 2, _ => rfl
  | 3, _, 3, _ => rfl
theorem cnt_out {T : Nat → Option Nat} {k : Nat} {v : Option Nat} : ∀ n, n ≤ k → cnt (va_up T k v) n = cnt T n
  | 0, _ => rfl
  | n + 1, h => by
    simp only [cnt]
    rw [cnt_out n (by omega), show va_up T k v n = T n from if_neg (by omega)]
theorem cnt_up {T : Nat → Option Nat} {k q : Nat} (hk : T k = none) : ∀ n, k < n → cnt (va_up T k (some q)) n = cnt T n + 1
  | 0, h => by omega
  | n + 1, h => by
    simp only [cnt]
    by_cases e : k = n
    · subst e
      rw [cnt_out k (Nat.le_refl k), show va_up T k (some q) k = some q from if_pos rfl, hk]
      simp
    · rw [cnt_up hk n (by omega), show va_up T k (some q) n = T n from if_neg (by omega)]
      omega
theorem cnt_le (T : Nat → Option Nat) : ∀ n, cnt T n ≤ n
  | 0 => Nat.le_refl 0
  | n + 1 => by
    simp only [cnt]
    have := cnt_le T n
    split <;> omega
theorem J_W {o : Option Nat} (hi : i < 4) (hJ : J s mc D) (ho : okp mc.length D.length o) : J (sW' s i o) mc D := by
  have hp : JP (sW' s i o) mc D := by
    obtain ⟨h1, h2, h3, h4⟩ := hJ.2.2.2.2.2.2.2
    refine ⟨fun i' k' a b => by rw [sT_W hi]; exact h1 i' k' a b, fun i' a => ?_, h3, by rw [sT_W hi, sT_W hi, sT_W hi, sT_W hi]; exact h4⟩
    rw [sW_W hi o a]
    split
    · exact ho
    · exact h2 i' a
  match i, hi with
  | 0, _ => exact ⟨hJ.1, hJ.2.1, hJ.2.2.1, hJ.2.2.2.1, hJ.2.2.2.2.1, hJ.2.2.2.2.2.1, hJ.2.2.2.2.2.2.1, hp⟩
  | 1, _ => exact ⟨hJ.1, hJ.2.1, hJ.2.2.1, hJ.2.2.2.1, hJ.2.2.2.2.1, hJ.2.2.2.2.2.1, hJ.2.2.2.2.2.2.1, hp⟩
  | 2, _ => exact ⟨hJ.1, hJ.2.1, hJ.2.2.1, hJ.2.2.2.1, hJ.2.2.2.2.1, hJ.2.2.2.2.2.1, hJ.2.2.2.2.2.2.1, hp⟩
  | 3, _ => exact ⟨hJ.1, hJ.2.1, hJ.2.2.1, hJ.2.2.2.1, hJ.2.2.2.2.1, hJ.2.2.2.2.2.1, hJ.2.2.2.2.2.2.1, hp⟩
set_option maxHeartbeats 4000000 in
/-- a page more -/
theorem J_page {k : Nat} (hi : i < 4) (hk : k < sN i) (hz : sT s i k = none) (hJ : J s mc D) : J (sT' (sW' s i (some (24 + mc.length + 2 * D.length))) i (va_up (sT s i) k (some (24 + mc.length + 2 * D.length)))) mc (D ++ [(nI k, sW s i, fun _ => 0)]) := by
  have hq : okp mc.length (D.length + 1) (some (24 + mc.length + 2 * D.length)) := fun q h => by cases h; exact ⟨D.length, by omega, rfl⟩
  have hp : JP (sT' (sW' s i (some (24 + mc.length + 2 * D.length))) i (va_up (sT s i) k (some (24 + mc.length + 2 * D.length)))) mc (D ++ [(nI k, sW s i, fun _ => 0)]) := by
    obtain ⟨h1, h2, h3, h4⟩ := hJ.2.2.2.2.2.2.2
    have hl : (D ++ [((nI k, sW s i, fun _ => 0) : pgT)]).length = D.length + 1 := by simp
    refine ⟨fun i' k' a b => ?_, fun i' a => ?_, fun j p hj => ?_, ?_⟩
    · rw [hl, sT_T hi _ a]
      split
      · rename_i e
        subst e
        unfold va_up
        split
        · exact hq
        · exact okp_mono (h1 i' k' a b) (by omega)
      · rw [sT_W hi]
        exact okp_mono (h1 i' k' a b) (by omega)
    · rw [hl, sW_T hi, sW_W hi _ a]
      split
      · exact hq
      · exact okp_mono (h2 i' a) (by omega)
    · by_cases hlt : j < D.length
      · rw [List.getElem?_append_left hlt] at hj
        exact h3 j p hj
      · rw [List.getElem?_append_right (by omega)] at hj
        have hz : j - D.length < 1 := (List.getElem?_eq_some_iff.mp hj).1
        have e0 : j = D.length := by omega
        subst e0
        rw [Nat.sub_self] at hj
        cases hj
        refine ⟨h2 i hi, ⟨k, ?_, rfl⟩, fun _ => by show fits .byte (.int 0) = true; rfl⟩
        have : sN i ≤ 1537 := by unfold sN; split <;> decide
        omega
    · rw [hl]
      have up := cnt_up (q := 24 + mc.length + 2 * D.length) hz (sN i) hk
      rw [sT_T hi _ (j := 0) (by decide), sT_T hi _ (j := 1) (by decide), sT_T hi _ (j := 2) (by decide), sT_T hi _ (j := 3) (by decide), sT_W hi, sT_W hi, sT_W hi, sT_W hi]
      have h5 : i = 0 ∨ i = 1 ∨ i = 2 ∨ i = 3 := by omega
      have e0 : sN 0 = 1024 := rfl
      have e1 : sN 1 = 1537 := rfl
      have e2 : sN 2 = 256 := rfl
      have e3 : sN 3 = 256 := rfl
      rcases h5 with rfl | rfl | rfl | rfl
      · rw [e0] at up
        rw [if_pos rfl, if_neg (by decide), if_neg (by decide), if_neg (by decide), up]
        omega
      · rw [e1] at up
        rw [if_neg (by decide), if_pos rfl, if_neg (by decide), if_neg (by decide), up]
        omega
      · rw [e2] at up
        rw [if_neg (by decide), if_neg (by decide), if_pos rfl, if_neg (by decide), up]
        omega
      · rw [e3] at up
        rw [if_neg (by decide), if_neg (by decide), if_neg (by decide), if_pos rfl, up]
        omega
  match i, hi, hp with
  | 0, _, hp => exact ⟨hJ.1, hJ.2.1, hJ.2.2.1, hJ.2.2.2.1, hJ.2.2.2.2.1, hJ.2.2.2.2.2.1, hJ.2.2.2.2.2.2.1, hp⟩
  | 1, _, hp => exact ⟨hJ.1, hJ.2.1, hJ.2.2.1, hJ.2.2.2.1, hJ.2.2.2.2.1, hJ.2.2.2.2.2.1, hJ.2.2.2.2.2.2.1, hp⟩
  | 2, _, hp => exact ⟨hJ.1, hJ.2.1, hJ.2.2.1, hJ.2.2.2.1, hJ.2.2.2.2.1, hJ.2.2.2.2.2.1, hJ.2.2.2.2.2.2.1, hp⟩
  | 3, _, hp => exact ⟨hJ.1, hJ.2.1, hJ.2.2.1, hJ.2.2.2.1, hJ.2.2.2.2.1, hJ.2.2.2.2.2.1, hJ.2.2.2.2.2.2.1, hp⟩
/-- a page's bytes change -/
theorem J_byte {j : Nat} {p : pgT} {f : Nat → Int32} (hJ : J s mc D) (hj : D[j]? = some p) (hf : ∀ i, fits .byte (.int (f i)) = true) : J s mc (D.set j (p.1, p.2.1, f)) := by
  obtain ⟨h1, h2, h3, h4⟩ := hJ.2.2.2.2.2.2.2
  have hp : JP s mc (D.set j (p.1, p.2.1, f)) := by
    refine ⟨by rw [List.length_set]; exact h1, by rw [List.length_set]; exact h2, fun j' p' hj' => ?_, by rw [List.length_set]; exact h4⟩
    by_cases e : j' = j
    · subst e
      rw [List.getElem?_set_self (List.getElem?_eq_some_iff.mp hj).1] at hj'
      cases hj'
      exact ⟨(h3 j' p hj).1, (h3 j' p hj).2.1, hf⟩
    · rw [List.getElem?_set_ne (Ne.symm e)] at hj'
      exact h3 j' p' hj'
  exact ⟨hJ.1, hJ.2.1, hJ.2.2.1, hJ.2.2.2.1, hJ.2.2.2.2.1, hJ.2.2.2.2.2.1, hJ.2.2.2.2.2.2.1, hp⟩
end PAGES3

/-! bytes are cleared and copied -/
theorem call_s {k ci mL a2 : Nat} {h : am_H} {st as rest : List Value} (hs : st = as.reverse ++ rest) (hl : as.length = a2) (h8 : (rest.map fun v => v.category).sum ≤ 8) (hm : (as.map fun v => v.category).sum ≤ mL) : am_call (.invokestatic k) ci mL a2 st h = some (as, rest) := by
  subst hs
  subst hl
  have e1 : (as.reverse ++ rest).take as.length = as.reverse := List.take_left' (by simp)
  have e2 : (as.reverse ++ rest).drop as.length = rest := List.drop_left' (by simp)
  unfold am_call
  rw [e1, e2, List.reverse_reverse, if_pos ⟨by simp, h8, hm⟩]
theorem fit_upd2 {f : Nat → Int32} (hf : ∀ i, fits .byte (.int (f i)) = true) (k : Nat) (x : Int32) : ∀ i, fits .byte (.int (upd f k (vp_nar .byte x) i)) = true := fit_upd hf k x
theorem fit_cpy {f g : Nat → Int32} (hf : ∀ i, fits .byte (.int (f i)) = true) (hg : ∀ i, fits .byte (.int (g i)) = true) (a b n : Nat) : ∀ i, fits .byte (.int (va_cpy f g a b n i)) = true := fun i => by
  unfold va_cpy
  split
  · exact hf _
  · exact hg _
section PAGES6
variable {s : cs} {mc : am_H} {D : List pgT} {i : Nat} {L : Nat} {xs : Nat → Int32}
/-- the bytes of a page are written: what is left -/
def SB (s : cs) (mc : am_H) (n : Nat) (v : Option Value) (h : am_H) : Prop := v = none ∧ ∃ D' : List pgT, J s mc D' ∧ D'.length = n ∧ h = HH s mc D'
set_option maxRecDepth 20000 in
theorem ar_fill_loop (j m : Nat) (y : Int32) (n : Nat) : ∀ {D : List pgT} (hJ : J s mc D) (hl : D.length = m) (hj : j < m) (z : Int32) (hz : 0 ≤ z.toInt) (hm : ((256 : Int32).toInt - z.toInt).toNat < n), tb_wp L xs 193 5 [(0, .ref (25 + mc.length + 2 * j)), (1, .int y), (2, .int z), (3, .int 256)] [] (HH s mc D) (SB s mc m) := by
  induction n with
  | zero => intro D hJ hl hj z hz hm; exact absurd hm (Nat.not_lt_zero _)
  | succ n ih =>
    intro D hJ hl hj z hz hm
    obtain ⟨p, hp⟩ := D_at hl.symm hj
    refine wp1 rfl rfl ?_
    refine wp1 rfl rfl ?_
    refine wp2b rfl rfl (fun c1 => ?_) (fun c1 => ?_)
    · exact wp5 rfl rfl ⟨rfl, D, hJ, hl, rfl⟩
    · refine wp1 rfl rfl ?_
      refine wp1 rfl rfl ?_
      refine wp1 rfl rfl ?_
      have hin : am_in z 256 = true := by
        have h1 : ¬ (256 : Int32).toInt ≤ z.toInt := fun q => c1 (Int32.le_iff_toInt_le.mpr q)
        have e1 : (256 : Int32).toInt = 256 := rfl
        exact am_in_of hz (by omega)
      refine wp3 rfl (am_bast (hh_pc hp) hin) ?_
      refine wpH (hh_ps hp) ?_
      refine wp1 rfl rfl ?_
      refine wp2 rfl rfl ?_
      exact wpL rfl rfl (ih (J_byte hJ hp (fit_upd (J_pg hJ hp).2.2 _ _)) (by rw [List.length_set]; exact hl) hj (z + 1) (i32_upp c1 hz) (i32_up c1 hm))
set_option maxRecDepth 20000 in
theorem ar_fill {j : Nat} (hJ : J s mc D) (hj : j < D.length) (y : Int32) : tb_wp L xs 193 0 (lv_args 0 [.ref (25 + mc.length + 2 * j), .int y]) [] (HH s mc D) (SB s mc D.length) := by
  obtain ⟨p, hp⟩ := D_at rfl hj
  refine wp0 rfl rfl ?_
  refine wp1 rfl rfl ?_
  refine wp1 rfl rfl ?_
  refine wp3 rfl (am_alen (hh_pc hp)) ?_
  refine wp1 rfl rfl ?_
  exact wpL rfl rfl (ar_fill_loop j D.length y _ hJ rfl hj 0 (by decide) (Nat.lt_succ_self _))
set_option maxRecDepth 20000 in
theorem ar_range {a b c : Int32} (h1 : b ≤ c) (h2 : 0 ≤ b) (h3 : c ≤ a) {h : am_H} : tb_ev L xs 196 [.int a, .int b, .int c] h none h := by
  refine am_wp_ev ?_
  refine wp1 rfl rfl ?_
  refine wp1 rfl rfl ?_
  refine wp2b rfl rfl (fun c1 => ?_) (fun c1 => absurd h1 c1)
  refine wp1 rfl rfl ?_
  refine wp2b rfl rfl (fun c2 => ?_) (fun c2 => absurd h2 c2)
  refine wp1 rfl rfl ?_
  refine wp1 rfl rfl ?_
  refine wp2b rfl rfl (fun c3 => ?_) (fun c3 => absurd h3 c3)
  exact wp5 rfl rfl ⟨rfl, rfl⟩
set_option maxRecDepth 20000 in
theorem ar_fillr_loop (j m : Nat) (y b : Int32) (hb : b.toInt ≤ 256) (n : Nat) : ∀ {D : List pgT} (hJ : J s mc D) (hl : D.length = m) (hj : j < m) (z : Int32) (hz : 0 ≤ z.toInt) (hm : (b.toInt - z.toInt).toNat < n), tb_wp L xs 194 10 [(0, .ref (25 + mc.length + 2 * j)), (2, .int b), (3, .int y), (4, .int z)] [] (HH s mc D) (SB s mc m) := by
  induction n with
  | zero => intro D hJ hl hj z hz hm; exact absurd hm (Nat.not_lt_zero _)
  | succ n ih =>
    intro D hJ hl hj z hz hm
    obtain ⟨p, hp⟩ := D_at hl.symm hj
    refine wp1 rfl rfl ?_
    refine wp1 rfl rfl ?_
    refine wp2b rfl rfl (fun c1 => ?_) (fun c1 => ?_)
    · exact wp5 rfl rfl ⟨rfl, D, hJ, hl, rfl⟩
    · refine wp1 rfl rfl ?_
      refine wp1 rfl rfl ?_
      refine wp1 rfl rfl ?_
      have hin : am_in z 256 = true := by
        have h1 : ¬ b.toInt ≤ z.toInt := fun q => c1 (Int32.le_iff_toInt_le.mpr q)
        exact am_in_of hz (by omega)
      refine wp3 rfl (am_bast (hh_pc hp) hin) ?_
      refine wpH (hh_ps hp) ?_
      refine wp1 rfl rfl ?_
      refine wp2 rfl rfl ?_
      exact wpL rfl rfl (ih (J_byte hJ hp (fit_upd (J_pg hJ hp).2.2 _ _)) (by rw [List.length_set]; exact hl) hj (z + 1) (i32_upp c1 hz) (i32_up c1 hm))
set_option maxRecDepth 20000 in
theorem ar_fillr {j : Nat} (hJ : J s mc D) (hj : j < D.length) (a b y : Int32) (h0 : 0 ≤ a.toInt) (h1 : a.toInt ≤ b.toInt) (h2 : b.toInt ≤ 256) : tb_wp L xs 194 0 (lv_args 0 [.ref (25 + mc.length + 2 * j), .int a, .int b, .int y]) [] (HH s mc D) (SB s mc D.length) := by
  obtain ⟨p, hp⟩ := D_at rfl hj
  refine wp1 rfl rfl ?_
  refine wp3 rfl (am_alen (hh_pc hp)) ?_
  refine wp1 rfl rfl ?_
  refine wp1 rfl rfl ?_
  refine am_ev_at rfl (call_s (as := [.int 256, .int a, .int b]) (rest := []) rfl rfl (Nat.zero_le _) (Nat.le_of_ble_eq_true rfl)) (ar_range (Int32.le_iff_toInt_le.mpr h1) (Int32.le_iff_toInt_le.mpr (by exact h0)) (Int32.le_iff_toInt_le.mpr (by exact h2))) ?_
  refine wp1 rfl rfl ?_
  refine wp1 rfl rfl ?_
  exact wpL rfl rfl (ar_fillr_loop j D.length y b h2 _ hJ rfl hj a h0 (Nat.lt_succ_self _))
set_option maxRecDepth 20000 in
/-- clear(): the chain falls -/
theorem pg_clear_loop (m n : Nat) : ∀ {D : List pgT} (hJ : J s mc D) (hl : D.length = m) (b : Nat) (o : Option Nat) (ho : okp mc.length b o) (hb : b ≤ m) (hn : b < n), tb_wp L xs 109 5 [(1, am_rf o)] [] (HH s mc D) (SB s mc m) := by
  induction n with
  | zero => intro D hJ hl b o ho hb hn; omega
  | succ n ih =>
    intro D hJ hl b o ho hb hn
    cases o with
    | none =>
      refine wp1 rfl rfl ?_
      refine wp2 rfl rfl ?_
      exact wp5 rfl rfl ⟨rfl, D, hJ, hl, rfl⟩
    | some q =>
      obtain ⟨j, hj, rfl⟩ := ho q rfl
      obtain ⟨p, hp⟩ := D_at hl.symm (show j < m by omega)
      refine wp1 rfl rfl ?_
      refine wp2 rfl rfl ?_
      refine wp1 rfl rfl ?_
      refine wp3 rfl (am_getf (hh_pg hp) rfl) ?_
      refine wp0 rfl rfl ?_
      refine wp4 rfl (call_s (as := [.ref (25 + mc.length + 2 * j), .int 0]) (rest := []) rfl rfl (Nat.zero_le _) (Nat.le_of_ble_eq_true rfl)) (ar_fill hJ (by omega) 0) (fun rv h1 hq => ?_)
      obtain ⟨rfl, D', hJ', hl', rfl⟩ := hq
      obtain ⟨p', hp'⟩ := D_at (show m = D'.length by omega) (show j < m by omega)
      have ho' := (J_pg hJ' hp').1
      refine wp1 rfl rfl ?_
      refine wp3 rfl (am_getf (hh_pg hp') rfl) ?_
      generalize hoe : p'.2.1 = o' at ho'
      refine wp1 (lv' := [(1, am_rf o')]) (st' := []) rfl (by cases o' <;> rfl) ?_
      refine wp2 rfl rfl ?_
      exact wpL rfl rfl (ih hJ' (by omega) j o' ho' (by omega) (by omega))
set_option maxRecDepth 20000 in
theorem pg_clear (hi : i < 4) (hJ : J s mc D) : tb_wp L xs 109 0 (lv_args 0 [.ref (sR i)]) [] (HH s mc D) (SB s mc D.length) := by
  have ho := hJ.2.2.2.2.2.2.2.2.1 i hi
  refine wp1 rfl rfl ?_
  refine wp3 rfl (am_getf (st_obj hi) rfl) ?_
  generalize sW s i = o at ho
  refine wp1 (lv' := [(0, .ref (sR i)), (1, am_rf o)]) (st' := []) rfl (by cases o <;> rfl) ?_
  exact wpL rfl rfl (pg_clear_loop D.length _ hJ rfl D.length o ho (Nat.le_refl _) (Nat.lt_succ_self _))
theorem and255 (x : Int32) : ∃ a : Nat, a < 256 ∧ x &&& 255 = nI a := pk_andE x (m := 255) 8 rfl
set_option maxRecDepth 20000 in
theorem pg_clearPiece (hi : i < 4) (hJ : J s mc D) (x n : Int32) (h0 : 0 ≤ n.toInt) (h1 : (x &&& 255).toInt + n.toInt ≤ 256) : tb_wp L xs 111 0 (lv_args 0 [.ref (sR i), .int x, .int n]) [] (HH s mc D) (SB s mc D.length) := by
  refine wp1 rfl rfl ?_
  refine wp1 rfl rfl ?_
  refine wp4 rfl (call_v (as := [.int x]) (rest := []) rfl rfl (Nat.zero_le _) (Nat.le_of_ble_eq_true rfl) (st_obj hi)) (pg_at hi hJ x) (fun rv h1 hq => ?_)
  obtain ⟨rfl, o, rfl, ho⟩ := hq
  cases o with
  | none =>
    refine wp1 rfl rfl ?_
    refine wp1 rfl rfl ?_
    refine wp2 rfl rfl ?_
    exact wp5 rfl rfl ⟨rfl, D, hJ, rfl, rfl⟩
  | some q =>
    obtain ⟨j, hj, rfl⟩ := ho q rfl
    obtain ⟨p, hp⟩ := D_at rfl hj
    refine wp1 rfl rfl ?_
    refine wp1 rfl rfl ?_
    refine wp2 rfl rfl ?_
    refine wp1 rfl rfl ?_
    refine wp0 rfl rfl ?_
    refine wp0 rfl rfl ?_
    refine wpTi (fun a ea => ?_)
    refine wp1 rfl rfl ?_
    refine wpV (lv' := [(0, .ref (sR i)), (1, .int x), (2, .int n), (3, .ref (24 + mc.length + 2 * j)), (4, .int a)]) rfl ?_
    refine wp1 rfl rfl ?_
    refine wp3 rfl (am_getf (hh_pg hp) rfl) ?_
    refine wp1 rfl rfl ?_
    refine wp1 rfl rfl ?_
    refine wp1 rfl rfl ?_
    refine wp0 rfl rfl ?_
    refine wp0 rfl rfl ?_
    obtain ⟨an, han, ean⟩ := and255 x
    have e1 : a.toInt = (an : Int) := by rw [← ea, ean, nI_toInt (by omega)]
    have e2 : (x &&& 255).toInt = (an : Int) := by rw [ean, nI_toInt (by omega)]
    have e3 : (a + n).toInt = a.toInt + n.toInt := by
      rw [Int32.toInt_add]
      exact Int.bmod_eq_of_le (by omega) (by omega)
    refine wp4 rfl (call_s (as := [.ref (25 + mc.length + 2 * j), .int a, .int (a + n), .int 0]) (rest := []) rfl rfl (Nat.zero_le _) (Nat.le_of_ble_eq_true rfl)) (ar_fillr hJ hj a (a + n) 0 (by omega) (by omega) (by omega)) (fun rv h2 hq => ?_)
    obtain ⟨rfl, D', hJ', hl', rfl⟩ := hq
    exact wp5 rfl rfl ⟨rfl, D', hJ', hl', rfl⟩
end PAGES6

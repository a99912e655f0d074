/-! peek, poke, input of the model -/
section MHAND
variable {L : Nat} {xs : Nat → Int32} {s : cs} {D : List pgT}
set_option maxRecDepth 20000 in
theorem mf_163 {m : ms} (hJ : K m) (a : Int64) : tb_wp L xs 163 0 (lv_args 0 [.ref 24, .long a]) [] (HH s (MC m) D) (NI 0 m s D) := by
  refine wp1 rfl rfl ?_
  refine wp0 rfl rfl ?_
  refine wp3 rfl (am_putf rfl (Nat.le_of_ble_eq_true rfl) rfl rfl) ?_
  have hJ1 : K (t_thrown m 0) := hJ
  refine wpH (h' := HH s (MC (t_thrown m 0)) D) rfl ?_
  refine wp1 rfl rfl ?_
  refine wp1 rfl rfl ?_
  refine wp0 rfl rfl ?_
  refine am_ev_at rfl rfl (ev_find _ _) ?_
  have hok := fd_ok hJ1 a 0
  refine wpTi (fun p ep => ?_)
  rw [ep] at hok
  refine wp1 rfl rfl ?_
  refine wpV (lv' := [(0, .ref 24), (1, .long a), (3, .int p)]) rfl ?_
  refine wp1 rfl rfl ?_
  refine wp2b rfl rfl (fun c2 => ?_) (fun c2 => ?_)
  · refine wp1 rfl rfl ?_
    refine wp1 rfl rfl ?_
    refine wp4 rfl rfl (pl_byte p (Int32.le_iff_toInt_le.mp c2) hok) (fun rv h1 hq => ?_)
    obtain ⟨rfl, y, rfl⟩ := hq
    exact wp5i rfl rfl ⟨_, hJ1, RL0, rfl, _, rfl⟩
  · refine wp0 rfl rfl ?_
    refine wp2 rfl rfl ?_
    exact wp5i rfl rfl ⟨_, hJ1, RL0, rfl, _, rfl⟩
set_option maxRecDepth 20000 in
theorem pk_end {m m0 : ms} (hJ : K m) (p : Int32) : tb_wp L xs 165 25 [(4, .int p)] [] (HH s (MC m) D) (NZ 0 m0 s D) := by
  refine wp1 rfl rfl ?_
  refine wp2b rfl rfl (fun c2 => ?_) (fun c2 => ?_)
  · refine wp0 rfl rfl ?_
    exact wp5z rfl rfl b0 ⟨_, hJ, RL0, rfl, _, rfl, b0⟩
  · refine wp0 rfl rfl ?_
    refine wp2 rfl rfl ?_
    exact wp5z rfl rfl b1 ⟨_, hJ, RL0, rfl, _, rfl, b1⟩
set_option maxRecDepth 20000 in
theorem mf_165 {m : ms} (hJ : K m) (a : Int64) (y : Int32) : tb_wp L xs 165 0 (lv_args 0 [.ref 24, .long a, .int y]) [] (HH s (MC m) D) (NZ 0 m s D) := by
  refine wp1 rfl rfl ?_
  refine wp0 rfl rfl ?_
  refine wp3 rfl (am_putf rfl (Nat.le_of_ble_eq_true rfl) rfl rfl) ?_
  have hJ1 : K (t_thrown m 0) := hJ
  refine wpH (h' := HH s (MC (t_thrown m 0)) D) rfl ?_
  refine wp1 rfl rfl ?_
  refine wp1 rfl rfl ?_
  refine wp0 rfl rfl ?_
  refine am_ev_at rfl rfl (ev_find _ _) ?_
  have hok := fd_ok hJ1 a 1
  refine wpTi (fun p ep => ?_)
  rw [ep] at hok
  refine wp1 rfl rfl ?_
  refine wpV (lv' := [(0, .ref 24), (1, .long a), (3, .int y), (4, .int p)]) rfl ?_
  refine wp1 rfl rfl ?_
  refine wp2b rfl rfl (fun c2 => ?_) (fun c2 => ?_)
  · exact wpL rfl rfl (pk_end hJ1 p)
  · have h0 : 0 ≤ p.toInt := by
      have g1 : ¬ p.toInt < 0 := fun z => c2 (Int32.lt_iff_toInt_lt.mpr z)
      omega
    refine wp1 rfl rfl ?_
    refine wp1 rfl rfl ?_
    refine wp1 rfl rfl ?_
    refine wp4 rfl rfl (pl_set hJ1 p y h0 hok) (fun rv h1 hq => ?_)
    obtain ⟨m2, hJ2, hR2, rfl, rfl⟩ := hq
    exact wpL rfl rfl (pk_end hJ2 p)
set_option maxRecDepth 20000 in
theorem in_loop (n : Nat) : ∀ {m m0 : ms} (hJ : K m) (a : Int64) (k : Int32) (hk : k.toInt < 8) (hg : (q_givenSize m).toInt + k.toInt + 1 ≤ 65536) (hm : (k.toInt + 1).toNat < n), tb_wp L xs 145 34 [(0, .ref 24), (1, .long a), (4, .int k)] [] (HH s (MC m) D) (NZ 0 m0 s D) := by
  induction n with
  | zero => intro m m0 hJ a k hk hg hm; exact absurd hm (Nat.not_lt_zero _)
  | succ n ih =>
    intro m m0 hJ a k hk hg hm
    refine wp1 rfl rfl ?_
    refine wp2b rfl rfl (fun c1 => ?_) (fun c1 => ?_)
    · refine wp0 rfl rfl ?_
      exact wp5z rfl rfl b1 ⟨_, hJ, RL0, rfl, _, rfl, b1⟩
    · have hk0 : 0 ≤ k.toInt := by
        have g1 : ¬ k.toInt < 0 := fun z => c1 (Int32.lt_iff_toInt_lt.mpr z)
        omega
      have hb := hJ.2.2.2.2.2.2.2.2.1
      have hb1 : 0 ≤ (q_givenSize m).toInt := hb.1
      have e1 : (q_givenSize m + 1).toInt = (q_givenSize m).toInt + 1 := i32_addI (b := 1) (by show -2147483648 ≤ (q_givenSize m).toInt + 1; omega) (by show (q_givenSize m).toInt + 1 < 2147483648; omega)
      have e2 : (k + -1).toInt = k.toInt - 1 := i32_addI (b := -1) (by show -2147483648 ≤ k.toInt + -1; omega) (by show k.toInt + -1 < 2147483648; omega)
      refine wp1 rfl rfl ?_
      refine wp3 rfl (am_getf rfl rfl) ?_
      refine wp1 rfl rfl ?_
      refine wp3 rfl (am_getf rfl rfl) ?_
      refine wp1 rfl rfl ?_
      refine wp0 rfl rfl ?_
      refine wp1 rfl rfl ?_
      refine wp0 rfl rfl ?_
      refine wp0 rfl rfl ?_
      refine wp0 rfl rfl ?_
      refine wp0 rfl rfl ?_
      refine wpTi (fun y ey => ?_)
      refine wp3 rfl (am_bast rfl (am_in_of hb1 (by show (q_givenSize m).toInt < 65536; omega))) ?_
      refine wpH (h' := HH s (MC (t_given m (upd (q_given m) (q_givenSize m).toNatClampNeg (vp_nar .byte y)))) D) rfl ?_
      refine wp1 rfl rfl ?_
      refine wp0 rfl rfl ?_
      refine wp3 rfl (am_getf rfl rfl) ?_
      refine wp0 rfl rfl ?_
      refine wp0 rfl rfl ?_
      refine wp3 rfl (am_putf rfl (Nat.le_of_ble_eq_true rfl) rfl rfl) ?_
      refine wpH (h' := HH s (MC (t_givenSize (t_given m (upd (q_given m) (q_givenSize m).toNatClampNeg (vp_nar .byte y))) (q_givenSize m + 1))) D) rfl ?_
      have hJ2 : K (t_givenSize (t_given m (upd (q_given m) (q_givenSize m).toNatClampNeg (vp_nar .byte y))) (q_givenSize m + 1)) := ⟨hJ.1, hJ.2.1, hJ.2.2.1, hJ.2.2.2.1, hJ.2.2.2.2.1, hJ.2.2.2.2.2.1, hJ.2.2.2.2.2.2.1, hJ.2.2.2.2.2.2.2.1, ⟨by show 0 ≤ (q_givenSize m + 1).toInt; omega, by show (q_givenSize m + 1).toInt ≤ 65536; omega⟩, hJ.2.2.2.2.2.2.2.2.2⟩
      refine wp1 rfl rfl ?_
      refine wpV (lv' := [(0, .ref 24), (1, .long a), (4, .int (k + -1))]) rfl ?_
      refine wp2 rfl rfl ?_
      exact wpL rfl rfl (ih hJ2 a (k + -1) (by omega) (by show (q_givenSize m + 1).toInt + (k + -1).toInt + 1 ≤ 65536; omega) (i32_down c1 hm))
set_option maxRecDepth 20000 in
theorem in_no {m m0 : ms} (hJ : K m) : tb_wp L xs 145 27 [] [] (HH s (MC m) D) (NZ 0 m0 s D) := by
  refine wp0 rfl rfl ?_
  exact wp5z rfl rfl b0 ⟨_, hJ, RL0, rfl, _, rfl, b0⟩
set_option maxRecDepth 20000 in
theorem mf_145 {m : ms} (hJ : K m) (a : Int64) (n : Int32) : tb_wp L xs 145 0 (lv_args 0 [.ref 24, .long a, .int n]) [] (HH s (MC m) D) (NZ 0 m s D) := by
  refine wp1 rfl rfl ?_
  refine wp0 rfl rfl ?_
  refine wp3 rfl (am_putf rfl (Nat.le_of_ble_eq_true rfl) rfl rfl) ?_
  have hJ1 : K (t_thrown m 0) := hJ
  refine wpH (h' := HH s (MC (t_thrown m 0)) D) rfl ?_
  refine wp1 rfl rfl ?_
  refine wp0 rfl rfl ?_
  refine wp2b rfl rfl (fun c1 => ?_) (fun c1 => ?_)
  · exact wpL rfl rfl (in_no hJ1)
  · refine wp1 rfl rfl ?_
    refine wp0 rfl rfl ?_
    refine wp2b rfl rfl (fun c2 => ?_) (fun c2 => ?_)
    · exact wpL rfl rfl (in_no hJ1)
    · refine wp1 rfl rfl ?_
      refine wp3 rfl (am_getf rfl rfl) ?_
      refine wp1 rfl rfl ?_
      refine wp0 rfl rfl ?_
      refine wp0 rfl rfl ?_
      refine wp2b rfl rfl (fun c3 => ?_) (fun c3 => ?_)
      · have g1 : 1 ≤ n.toInt := by
          have : ¬ n.toInt < 1 := fun z => c1 (Int32.lt_iff_toInt_lt.mpr z)
          omega
        have g2 : n.toInt ≤ 8 := by
          have : ¬ 8 < n.toInt := fun z => c2 (Int32.lt_iff_toInt_lt.mpr z)
          omega
        have hb : 0 ≤ (q_givenSize m).toInt ∧ (q_givenSize m).toInt ≤ 65536 := hJ.2.2.2.2.2.2.2.2.1
        have e1 : (q_givenSize m + n).toInt = (q_givenSize m).toInt + n.toInt := i32_addI (by omega) (by omega)
        have g3 : (q_givenSize m + n).toInt ≤ 65536 := Int32.le_iff_toInt_le.mp c3
        have e2 : (n - 1).toInt = n.toInt - 1 := i32_subI (b := 1) (by show -2147483648 ≤ n.toInt - 1; omega) (by show n.toInt - 1 < 2147483648; omega)
        refine wp1 rfl rfl ?_
        refine wp0 rfl rfl ?_
        refine wp0 rfl rfl ?_
        refine wp1 rfl rfl ?_
        refine wpV (lv' := [(0, .ref 24), (1, .long a), (3, .int n), (4, .int (n - 1))]) rfl ?_
        exact wpL rfl rfl (in_loop _ hJ1 a (n - 1) (by omega) (by show (q_givenSize m).toInt + (n - 1).toInt + 1 ≤ 65536; omega) (Nat.lt_succ_self _))
      · exact wpL rfl rfl (in_no hJ1)
end MHAND

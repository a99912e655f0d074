/-! the model's service: output (234 to 375) -/
section SERVICE2
variable {L : Nat} {xs : Nat → Int32} {s : cs} {D : List pgT}
set_option maxRecDepth 20000 in
theorem sv_374 {m m0 : ms} (hJ : K m) (hR : RL 1 m0 m) (v : Int64) : tb_wp L xs 172 374 [] [.long v, .int 0, .ref 31] (HH s (MC m) D) (NV 1 m0 s D) := by
  refine wp3 rfl (am_last rfl (by decide)) ?_
  refine wpH (h' := HH s (MC (t_registers0 m (vp_updL (q_registers0 m) (Int32.toNatClampNeg 0) v))) D) rfl ?_
  refine wp2 rfl rfl ?_
  exact wp5 rfl rfl ⟨t_registers0 m (vp_updL (q_registers0 m) (Int32.toNatClampNeg 0) v), hJ, hR, rfl, rfl⟩
set_option maxRecDepth 20000 in
theorem sv_345 {m m0 : ms} (hJ : K m) (hR : RL 1 m0 m) (r : Int64) (q g : Int32) : tb_wp L xs 172 345 [(0, .ref 24), (7, .long r), (9, .int q), (10, .int g)] [] (HH s (MC m) D) (NV 1 m0 s D) := by
  refine wp1 rfl rfl ?_
  refine wp3 rfl (am_getf rfl rfl) ?_
  refine wp0 rfl rfl ?_
  refine wp1 rfl rfl ?_
  refine wp2b rfl rfl (fun c1 => ?_) (fun c1 => ?_)
  · refine wp1 rfl rfl ?_
    refine wp2b rfl rfl (fun c2 => ?_) (fun c2 => ?_)
    · refine wp0 rfl rfl ?_
      exact wpL rfl rfl (sv_374 hJ hR _)
    · refine wp0 rfl rfl ?_
      refine wp2 rfl rfl ?_
      exact wpL rfl rfl (sv_374 hJ hR _)
  · refine wp1 rfl rfl ?_
    refine wp2 rfl rfl ?_
    exact wpL rfl rfl (sv_374 hJ hR _)
set_option maxRecDepth 20000 in
theorem sv_290a {m m0 : ms} (hJ : K m) (hR : RL 1 m0 m) (a r : Int64) (q k : Int32) : tb_wp L xs 172 290 [(0, .ref 24), (5, .long a), (7, .long r), (9, .int q), (10, .int 0), (11, .int k)] [] (HH s (MC m) D) (NV 1 m0 s D) := by
  refine wp1 rfl rfl ?_
  refine wp0 rfl rfl ?_
  refine wp1 rfl rfl ?_
  refine wp0 rfl rfl ?_
  refine wp2b rfl rfl (fun c1 => ?_) (fun c1 => ?_)
  · exact wpL rfl rfl (sv_345 hJ hR r q 0)
  · refine wp1 rfl rfl ?_
    refine wp2 (pc' := 345) rfl rfl ?_
    exact wpL rfl rfl (sv_345 hJ hR r q 0)
set_option maxRecDepth 20000 in
theorem sv_290b (n : Nat) : ∀ {m m0 : ms} (hJ : K m) (hR : RL 1 m0 m) (a r : Int64) (q k : Int32) (hk : 0 ≤ k.toInt) (hr : r.toInt ≤ 1048576) (hall : allP m a r.toInt 0) (hs : (q_shownSize m).toInt + (r.toInt - k.toInt) ≤ 65536) (hm : (r.toInt - k.toInt).toNat < n), tb_wp L xs 172 290 [(0, .ref 24), (5, .long a), (7, .long r), (9, .int q), (10, .int 1), (11, .int k)] [] (HH s (MC m) D) (NV 1 m0 s D) := by
  induction n with
  | zero => intro m m0 hJ hR a r q k hk hr hall hs hm; exact absurd hm (Nat.not_lt_zero _)
  | succ n ih =>
    intro m m0 hJ hR a r q k hk hr hall hs hm
    refine wp1 rfl rfl ?_
    refine wp0 rfl rfl ?_
    refine wp1 rfl rfl ?_
    refine wp0 rfl rfl ?_
    refine wp2b rfl rfl (fun c1 => ?_) (fun c1 => ?_)
    · exact wpL rfl rfl (sv_345 hJ hR r q 1)
    · have g := nge c1
      have ek := i2lI k
      have hlt : k.toInt < r.toInt := by omega
      have hb : 0 ≤ (q_shownSize m).toInt := hJ.2.2.2.2.2.2.2.2.2.1
      have e1 : (k + 1).toInt = k.toInt + 1 := i32_addI (b := 1) (by show -2147483648 ≤ k.toInt + 1; omega) (by show k.toInt + 1 < 2147483648; omega)
      have e2 : (q_shownSize m + 1).toInt = (q_shownSize m).toInt + 1 := i32_addI (b := 1) (by show -2147483648 ≤ (q_shownSize m).toInt + 1; omega) (by show (q_shownSize m).toInt + 1 < 2147483648; omega)
      refine wp1 rfl rfl ?_
      refine wp2 (pc' := 304) rfl rfl ?_
      refine wp1 rfl rfl ?_
      refine wp3 rfl (am_getf rfl rfl) ?_
      refine wp1 rfl rfl ?_
      refine wp3 rfl (am_getf rfl rfl) ?_
      refine wp1 rfl rfl ?_
      refine wp1 rfl rfl ?_
      refine wp1 rfl rfl ?_
      refine wp1 rfl rfl ?_
      refine wp0 rfl rfl ?_
      refine wp0 rfl rfl ?_
      refine wp0 rfl rfl ?_
      refine am_ev_at rfl rfl (ev_find _ _) ?_
      refine wp4 rfl rfl (pl_byte _ (hall (Int32.toInt64 k) (by omega) (by omega)) (fd_ok hJ _ _)) (fun rv h1 hq => ?_)
      obtain ⟨rfl, y, rfl⟩ := hq
      refine wp0 rfl rfl ?_
      refine wpTi (fun y' ey => ?_)
      refine wp3 rfl (am_bast rfl (am_in_of hb (by show (q_shownSize m).toInt < 65536; omega))) ?_
      refine wpH (h' := HH s (MC (t_shown m (upd (q_shown m) (q_shownSize m).toNatClampNeg (vp_nar .byte y')))) D) rfl ?_
      refine wp1 rfl rfl ?_
      refine wp0 rfl rfl ?_
      refine wp3 rfl (am_getf rfl rfl) ?_
      refine wp0 rfl rfl ?_
      refine wp0 rfl rfl ?_
      refine wp3 rfl (am_putf rfl (Nat.le_of_ble_eq_true rfl) rfl rfl) ?_
      refine wpH (h' := HH s (MC (t_shownSize (t_shown m (upd (q_shown m) (q_shownSize m).toNatClampNeg (vp_nar .byte y'))) (q_shownSize m + 1))) D) rfl ?_
      have hJ2 : K (t_shownSize (t_shown m (upd (q_shown m) (q_shownSize m).toNatClampNeg (vp_nar .byte y'))) (q_shownSize m + 1)) := ⟨hJ.1, hJ.2.1, hJ.2.2.1, hJ.2.2.2.1, hJ.2.2.2.2.1, hJ.2.2.2.2.2.1, hJ.2.2.2.2.2.2.1, hJ.2.2.2.2.2.2.2.1, hJ.2.2.2.2.2.2.2.2.1, ⟨by show 0 ≤ (q_shownSize m + 1).toInt; omega, by show (q_shownSize m + 1).toInt ≤ 65536; omega⟩⟩
      refine wp1 rfl rfl ?_
      refine wpV (lv' := [(0, .ref 24), (5, .long a), (7, .long r), (9, .int q), (10, .int 1), (11, .int (k + 1))]) rfl ?_
      refine wp2 rfl rfl ?_
      exact wpL rfl rfl (ih hJ2 hR a r q (k + 1) (by omega) hr hall (by show (q_shownSize m + 1).toInt + (r.toInt - (k + 1).toInt) ≤ 65536; omega) (by omega))
set_option maxRecDepth 20000 in
theorem sv_284 {m m0 : ms} (hJ : K m) (hR : RL 1 m0 m) (a r : Int64) (q : Int32) : tb_wp L xs 172 284 [(0, .ref 24), (5, .long a), (7, .long r), (9, .int q)] [] (HH s (MC m) D) (NV 1 m0 s D) := by
  refine wp0 rfl rfl ?_
  refine wp1 rfl rfl ?_
  refine wpV (lv' := [(0, .ref 24), (5, .long a), (7, .long r), (9, .int q), (10, .int 0)]) rfl ?_
  refine wp0 rfl rfl ?_
  refine wp1 rfl rfl ?_
  refine wpV (lv' := [(0, .ref 24), (5, .long a), (7, .long r), (9, .int q), (10, .int 0), (11, .int 0)]) rfl ?_
  exact wpL rfl rfl (sv_290a hJ hR a r q 0)
set_option maxRecDepth 20000 in
theorem sv_260 {m m0 : ms} (hJ : K m) (hR : RL 1 m0 m) (a r : Int64) : tb_wp L xs 172 260 [(0, .ref 24), (5, .long a), (7, .long r)] [] (HH s (MC m) D) (NV 1 m0 s D) := by
  refine wp0 rfl rfl ?_
  refine wp1 rfl rfl ?_
  refine wpV (lv' := [(0, .ref 24), (5, .long a), (7, .long r), (9, .int 0)]) rfl ?_
  refine wp1 rfl rfl ?_
  refine wp2 (pc' := 284) rfl rfl ?_
  exact wpL rfl rfl (sv_284 hJ hR a r 0)
set_option maxRecDepth 20000 in
theorem sv_234 {m m0 : ms} (hJ : K m) (hR : RL 1 m0 m) (w d a r : Int64) : tb_wp L xs 172 234 [(0, .ref 24), (1, .long w), (3, .long d), (5, .long a), (7, .long r)] [] (HH s (MC m) D) (NV 1 m0 s D) := by
  refine wp1 rfl rfl ?_
  refine wp0 rfl rfl ?_
  refine wp0 rfl rfl ?_
  refine wp2b rfl rfl (fun c1 => ?_) (fun c1 => ?_)
  · exact wpL rfl rfl (sv_260 hJ hR a r)
  · refine wp1 rfl rfl ?_
    refine wp0 rfl rfl ?_
    refine wp1 rfl rfl ?_
    refine wp3 rfl (am_getf rfl rfl) ?_
    refine wp0 rfl rfl ?_
    refine wp0 rfl rfl ?_
    refine wp0 rfl rfl ?_
    refine wp2b rfl rfl (fun c2 => ?_) (fun c2 => ?_)
    · exact wpL rfl rfl (sv_260 hJ hR a r)
    · have g1 := nlt0 c1
      have hb : 0 ≤ (q_shownSize m).toInt ∧ (q_shownSize m).toInt ≤ 65536 := hJ.2.2.2.2.2.2.2.2.2
      have g2 : r.toInt ≤ 65536 - (q_shownSize m).toInt := by
        rw [lg_cmp_gt, Int64.lt_iff_toInt_lt] at c2
        have e0 : (65536 : Int64).toInt = 65536 := rfl
        have e1 := i2lI (q_shownSize m)
        have e : ((65536 : Int64) - Int32.toInt64 (q_shownSize m)).toInt = 65536 - (q_shownSize m).toInt := by
          rw [Int64.toInt_sub, e0, e1]
          exact Int.bmod_eq_of_le (by omega) (by omega)
        omega
      refine wp0 rfl rfl ?_
      refine wp2 rfl rfl ?_
      refine wp1 rfl rfl ?_
      refine wpV (lv' := [(0, .ref 24), (5, .long a), (7, .long r), (9, .int 1)]) rfl ?_
      refine wp1 rfl rfl ?_
      refine wp2 (pc' := 268) rfl rfl ?_
      refine wp1 rfl rfl ?_
      refine wp1 rfl rfl ?_
      refine wp1 rfl rfl ?_
      refine wp0 rfl rfl ?_
      refine wp4 rfl rfl (may_at a r 0) (fun rv h1 hq => ?_)
      obtain ⟨rfl, hq⟩ := hq
      rcases hq with rfl | ⟨rfl, h2, h3, h4⟩
      · refine wp2 (pc' := 284) rfl rfl ?_
        exact wpL rfl rfl (sv_284 hJ hR a r 1)
      · refine wp2 (pc' := 280) rfl rfl ?_
        refine wp0 rfl rfl ?_
        refine wp2 rfl rfl ?_
        refine wp1 rfl rfl ?_
        refine wpV (lv' := [(0, .ref 24), (5, .long a), (7, .long r), (9, .int 1), (10, .int 1)]) rfl ?_
        refine wp0 rfl rfl ?_
        refine wp1 rfl rfl ?_
        refine wpV (lv' := [(0, .ref 24), (5, .long a), (7, .long r), (9, .int 1), (10, .int 1), (11, .int 0)]) rfl ?_
        exact wpL rfl rfl (sv_290b _ hJ hR a r 1 0 (by decide) h3 h4 (by show (q_shownSize m).toInt + (r.toInt - 0) ≤ 65536; omega) (Nat.lt_succ_self _))
end SERVICE2

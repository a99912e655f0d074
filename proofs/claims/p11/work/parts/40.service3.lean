/-! the model's service: input (59 to 225), and all of it -/
def NS (m : ms) (s : cs) (D : List pgT) (v : Option Value) (h : am_H) : Prop := ∃ m', K m' ∧ RL 2 m m' ∧ m'.2.2.2.2.1 = m.2.2.2.2.1 ∧ h = HH s (MC m') D ∧ v = none
section SERVICE3
variable {L : Nat} {xs : Nat → Int32} {s : cs} {D : List pgT}
set_option maxRecDepth 20000 in
theorem pl_set2 {m : ms} (hJ : K m) (p y : Int32) (h0 : 0 ≤ p.toInt) (h1 : okP p) : tb_wp L xs 175 0 (lv_args 0 [.ref 24, .int p, .int y]) [] (HH s (MC m) D) (NS m s D) := by
  refine wp1 rfl rfl ?_
  refine wp0 rfl rfl ?_
  refine wp2b rfl rfl (fun c1 => ?_) (fun c1 => ?_)
  · refine wp1 rfl rfl ?_
    refine wp0 rfl rfl ?_
    refine wp2b rfl rfl (fun c2 => ?_) (fun c2 => ?_)
    · refine wp1 rfl rfl ?_
      refine wp3 rfl (am_getf rfl rfl) ?_
      refine wp1 rfl rfl ?_
      refine wp0 rfl rfl ?_
      refine wp0 rfl rfl ?_
      refine wp1 rfl rfl ?_
      refine wp0 rfl rfl ?_
      refine wp3 rfl (am_bast rfl (and16_in p)) ?_
      refine wpH (h' := HH s (MC (t_stack m (upd (q_stack m) (p &&& 65535).toNatClampNeg (vp_nar .byte y.toInt8.toInt32)))) D) rfl ?_
      exact wp5 rfl rfl ⟨(t_stack m (upd (q_stack m) (p &&& 65535).toNatClampNeg (vp_nar .byte y.toInt8.toInt32))), hJ, RLr (m := m), rfl, rfl, rfl⟩
    · refine wp1 rfl rfl ?_
      refine wp3 rfl (am_getf rfl rfl) ?_
      refine wp1 rfl rfl ?_
      refine wp0 rfl rfl ?_
      refine wp0 rfl rfl ?_
      refine wp1 rfl rfl ?_
      refine wp0 rfl rfl ?_
      refine wp3 rfl (am_bast rfl (and16_in p)) ?_
      refine wpH (h' := HH s (MC (t_heap m (upd (q_heap m) (p &&& 65535).toNatClampNeg (vp_nar .byte y.toInt8.toInt32)))) D) rfl ?_
      refine wp2 rfl rfl ?_
      exact wp5 rfl rfl ⟨(t_heap m (upd (q_heap m) (p &&& 65535).toNatClampNeg (vp_nar .byte y.toInt8.toInt32))), hJ, RLr (m := m), rfl, rfl, rfl⟩
  · refine wp1 rfl rfl ?_
    refine wp3 rfl (am_getf rfl rfl) ?_
    refine wp1 rfl rfl ?_
    refine wp1 rfl rfl ?_
    refine wp0 rfl rfl ?_
    refine wp3 rfl (am_bast rfl (okP_in h0 h1 c1)) ?_
    refine wpH (h' := HH s (MC (t_memory m (upd (q_memory m) p.toNatClampNeg (vp_nar .byte y.toInt8.toInt32)))) D) rfl ?_
    refine wp2 rfl rfl ?_
    exact wp5 rfl rfl ⟨(t_memory m (upd (q_memory m) p.toNatClampNeg (vp_nar .byte y.toInt8.toInt32))), hJ, RLr (m := m), rfl, rfl, rfl⟩
theorem K_gs {m : ms} {z : Int32} (hJ : K m) (h0 : 0 ≤ z.toInt) (h1 : z.toInt ≤ 65536) : K (t_givenSize m z) := ⟨hJ.1, hJ.2.1, hJ.2.2.1, hJ.2.2.2.1, hJ.2.2.2.2.1, hJ.2.2.2.2.2.1, hJ.2.2.2.2.2.2.1, hJ.2.2.2.2.2.2.2.1, ⟨h0, h1⟩, hJ.2.2.2.2.2.2.2.2.2⟩
set_option maxRecDepth 20000 in
theorem sv_185a {m m0 : ms} (hJ : K m) (hR : RL 1 m0 m) (n : Int32) : tb_wp L xs 172 185 [(0, .ref 24), (9, .int n), (10, .int 0)] [] (HH s (MC m) D) (NV 1 m0 s D) := by
  have hb : 0 ≤ (q_givenSize m).toInt ∧ (q_givenSize m).toInt ≤ 65536 := hJ.2.2.2.2.2.2.2.2.1
  have e : (q_givenSize m - 0).toInt = (q_givenSize m).toInt - 0 := i32_subI (b := 0) (by show -2147483648 ≤ (q_givenSize m).toInt - 0; omega) (by show (q_givenSize m).toInt - 0 < 2147483648; omega)
  refine wp1 rfl rfl ?_
  refine wp0 rfl rfl ?_
  refine wp3 rfl (am_getf rfl rfl) ?_
  refine wp1 rfl rfl ?_
  refine wp2 (pc' := 200) rfl rfl ?_
  refine wp0 rfl rfl ?_
  refine wp0 rfl rfl ?_
  refine wpTi (fun z ez => ?_)
  rw [ez] at e
  refine wp3 rfl (am_putf rfl (Nat.le_of_ble_eq_true rfl) rfl rfl) ?_
  refine wpH (h' := HH s (MC (t_givenSize m z)) D) rfl ?_
  have hJ2 : K (t_givenSize m z) := K_gs hJ (by omega) (by omega)
  refine wp1 rfl rfl ?_
  refine wp3 rfl (am_getf rfl rfl) ?_
  refine wp0 rfl rfl ?_
  refine wp1 rfl rfl ?_
  refine wp2 (pc' := 221) rfl rfl ?_
  refine wp0 rfl rfl ?_
  refine wp3 rfl (am_last rfl (by decide)) ?_
  refine wpH (h' := HH s (MC (t_registers0 (t_givenSize m z) (vp_updL (q_registers0 m) (Int32.toNatClampNeg 0) (-14)))) D) rfl ?_
  refine wp2 rfl rfl ?_
  exact wp5 rfl rfl ⟨t_registers0 (t_givenSize m z) (vp_updL (q_registers0 m) (Int32.toNatClampNeg 0) (-14)), hJ2, hR, rfl, rfl⟩
set_option maxRecDepth 20000 in
theorem sv_185b {m m0 : ms} (hJ : K m) (hR : RL 1 m0 m) (n : Int32) (h0 : 0 ≤ n.toInt) (h1 : n.toInt ≤ (q_givenSize m).toInt) : tb_wp L xs 172 185 [(0, .ref 24), (9, .int n), (10, .int 1)] [] (HH s (MC m) D) (NV 1 m0 s D) := by
  have hb : 0 ≤ (q_givenSize m).toInt ∧ (q_givenSize m).toInt ≤ 65536 := hJ.2.2.2.2.2.2.2.2.1
  have e : (q_givenSize m - n).toInt = (q_givenSize m).toInt - n.toInt := i32_subI (by omega) (by omega)
  refine wp1 rfl rfl ?_
  refine wp0 rfl rfl ?_
  refine wp3 rfl (am_getf rfl rfl) ?_
  refine wp1 rfl rfl ?_
  refine wp2 (pc' := 195) rfl rfl ?_
  refine wp1 rfl rfl ?_
  refine wp2 rfl rfl ?_
  refine wp0 rfl rfl ?_
  refine wpTi (fun z ez => ?_)
  rw [ez] at e
  refine wp3 rfl (am_putf rfl (Nat.le_of_ble_eq_true rfl) rfl rfl) ?_
  refine wpH (h' := HH s (MC (t_givenSize m z)) D) rfl ?_
  have hJ2 : K (t_givenSize m z) := K_gs hJ (by omega) (by omega)
  refine wp1 rfl rfl ?_
  refine wp3 rfl (am_getf rfl rfl) ?_
  refine wp0 rfl rfl ?_
  refine wp1 rfl rfl ?_
  refine wp2 (pc' := 215) rfl rfl ?_
  refine wp1 rfl rfl ?_
  refine wp0 rfl rfl ?_
  refine wp2 rfl rfl ?_
  refine wp3 rfl (am_last rfl (by decide)) ?_
  refine wpH (h' := HH s (MC (t_registers0 (t_givenSize m z) (vp_updL (q_registers0 m) (Int32.toNatClampNeg 0) (Int32.toInt64 n)))) D) rfl ?_
  refine wp2 rfl rfl ?_
  exact wp5 rfl rfl ⟨t_registers0 (t_givenSize m z) (vp_updL (q_registers0 m) (Int32.toNatClampNeg 0) (Int32.toInt64 n)), hJ2, hR, rfl, rfl⟩
set_option maxRecDepth 20000 in
theorem sv_148a {m m0 : ms} (hJ : K m) (hR : RL 1 m0 m) (n k : Int32) : tb_wp L xs 172 148 [(0, .ref 24), (9, .int n), (10, .int 0), (11, .int k)] [] (HH s (MC m) D) (NV 1 m0 s D) := by
  refine wp1 rfl rfl ?_
  refine wp1 rfl rfl ?_
  refine wp3 rfl (am_getf rfl rfl) ?_
  refine wp2b rfl rfl (fun c1 => ?_) (fun c1 => ?_)
  · exact wpL rfl rfl (sv_185a hJ hR n)
  · refine wp1 rfl rfl ?_
    refine wp2 (pc' := 185) rfl rfl ?_
    exact wpL rfl rfl (sv_185a hJ hR n)
set_option maxRecDepth 20000 in
theorem sv_148b (f : Nat) : ∀ {m m0 : ms} (hJ : K m) (hR : RL 1 m0 m) (n k : Int32) (h0 : 0 ≤ n.toInt) (h1 : n.toInt ≤ (q_givenSize m).toInt) (hk : n.toInt ≤ k.toInt) (hm : ((q_givenSize m).toInt - k.toInt).toNat < f), tb_wp L xs 172 148 [(0, .ref 24), (9, .int n), (10, .int 1), (11, .int k)] [] (HH s (MC m) D) (NV 1 m0 s D) := by
  induction f with
  | zero => intro m m0 hJ hR n k h0 h1 hk hm; exact absurd hm (Nat.not_lt_zero _)
  | succ f ih =>
    intro m m0 hJ hR n k h0 h1 hk hm
    refine wp1 rfl rfl ?_
    refine wp1 rfl rfl ?_
    refine wp3 rfl (am_getf rfl rfl) ?_
    refine wp2b rfl rfl (fun c1 => ?_) (fun c1 => ?_)
    · exact wpL rfl rfl (sv_185b hJ hR n h0 h1)
    · have g := i32_nle c1
      have hb : 0 ≤ (q_givenSize m).toInt ∧ (q_givenSize m).toInt ≤ 65536 := hJ.2.2.2.2.2.2.2.2.1
      have e : (k - n).toInt = k.toInt - n.toInt := i32_subI (by omega) (by omega)
      have e1 : (k + 1).toInt = k.toInt + 1 := i32_addI (b := 1) (by show -2147483648 ≤ k.toInt + 1; omega) (by show k.toInt + 1 < 2147483648; omega)
      refine wp1 rfl rfl ?_
      refine wp2 (pc' := 162) rfl rfl ?_
      refine wp1 rfl rfl ?_
      refine wp3 rfl (am_getf rfl rfl) ?_
      refine wp1 rfl rfl ?_
      refine wp1 rfl rfl ?_
      refine wp0 rfl rfl ?_
      refine wp1 rfl rfl ?_
      refine wp3 rfl (am_getf rfl rfl) ?_
      refine wp1 rfl rfl ?_
      refine wp3 rfl (am_bald rfl (am_in_of (j := k) (n := 65536) (by omega) (by show k.toInt < 65536; omega))) ?_
      refine wp3 rfl (am_bast rfl (am_in_of (j := k - n) (n := 65536) (by omega) (by show (k - n).toInt < 65536; omega))) ?_
      refine wpH (h' := HH s (MC (t_given m (upd (q_given m) (k - n).toNatClampNeg (vp_nar .byte (q_given m k.toNatClampNeg))))) D) rfl ?_
      refine wp1 rfl rfl ?_
      refine wpV (lv' := [(0, .ref 24), (9, .int n), (10, .int 1), (11, .int (k + 1))]) rfl ?_
      refine wp2 rfl rfl ?_
      exact wpL rfl rfl (ih (m := t_given m (upd (q_given m) (k - n).toNatClampNeg (vp_nar .byte (q_given m k.toNatClampNeg)))) hJ hR n (k + 1) h0 h1 (by omega) (i32_up c1 hm))
set_option maxRecDepth 20000 in
theorem sv_144a {m m0 : ms} (hJ : K m) (hR : RL 1 m0 m) (n : Int32) : tb_wp L xs 172 144 [(0, .ref 24), (9, .int n), (10, .int 0)] [] (HH s (MC m) D) (NV 1 m0 s D) := by
  refine wp1 rfl rfl ?_
  refine wp1 rfl rfl ?_
  refine wpV (lv' := [(0, .ref 24), (9, .int n), (10, .int 0), (11, .int n)]) rfl ?_
  exact wpL rfl rfl (sv_148a hJ hR n n)
set_option maxRecDepth 20000 in
theorem sv_144b {m m0 : ms} (hJ : K m) (hR : RL 1 m0 m) (n : Int32) (h0 : 0 ≤ n.toInt) (h1 : n.toInt ≤ (q_givenSize m).toInt) : tb_wp L xs 172 144 [(0, .ref 24), (9, .int n), (10, .int 1)] [] (HH s (MC m) D) (NV 1 m0 s D) := by
  refine wp1 rfl rfl ?_
  refine wp1 rfl rfl ?_
  refine wpV (lv' := [(0, .ref 24), (9, .int n), (10, .int 1), (11, .int n)]) rfl ?_
  exact wpL rfl rfl (sv_148b _ hJ hR n n h0 h1 (Int.le_refl _) (Nat.lt_succ_self _))
set_option maxRecDepth 20000 in
theorem sv_104a {m m0 : ms} (hJ : K m) (hR : RL 1 m0 m) (a : Int64) (n k : Int32) : tb_wp L xs 172 104 [(0, .ref 24), (5, .long a), (9, .int n), (10, .int 0), (11, .int k)] [] (HH s (MC m) D) (NV 1 m0 s D) := by
  refine wp1 rfl rfl ?_
  refine wp1 rfl rfl ?_
  refine wp2b rfl rfl (fun c1 => ?_) (fun c1 => ?_)
  · exact wpL rfl rfl (sv_144a hJ hR n)
  · refine wp1 rfl rfl ?_
    refine wp2 (pc' := 144) rfl rfl ?_
    exact wpL rfl rfl (sv_144a hJ hR n)
set_option maxRecDepth 20000 in
theorem sv_104b (f : Nat) : ∀ {m m0 : ms} (hJ : K m) (hR : RL 1 m0 m) (a : Int64) (n k : Int32) (h0 : 0 ≤ n.toInt) (h1 : n.toInt ≤ (q_givenSize m).toInt) (hall : allP m a n.toInt 1) (hk : 0 ≤ k.toInt) (hm : (n.toInt - k.toInt).toNat < f), tb_wp L xs 172 104 [(0, .ref 24), (5, .long a), (9, .int n), (10, .int 1), (11, .int k)] [] (HH s (MC m) D) (NV 1 m0 s D) := by
  induction f with
  | zero => intro m m0 hJ hR a n k h0 h1 hall hk hm; exact absurd hm (Nat.not_lt_zero _)
  | succ f ih =>
    intro m m0 hJ hR a n k h0 h1 hall hk hm
    refine wp1 rfl rfl ?_
    refine wp1 rfl rfl ?_
    refine wp2b rfl rfl (fun c1 => ?_) (fun c1 => ?_)
    · exact wpL rfl rfl (sv_144b hJ hR n h0 h1)
    · have g := i32_nle c1
      have ek := i2lI k
      have hb : 0 ≤ (q_givenSize m).toInt ∧ (q_givenSize m).toInt ≤ 65536 := hJ.2.2.2.2.2.2.2.2.1
      refine wp1 rfl rfl ?_
      refine wp2 (pc' := 116) rfl rfl ?_
      refine wp1 rfl rfl ?_
      refine wp1 rfl rfl ?_
      refine wp1 rfl rfl ?_
      refine wp1 rfl rfl ?_
      refine wp0 rfl rfl ?_
      refine wp0 rfl rfl ?_
      refine wp0 rfl rfl ?_
      refine am_ev_at rfl rfl (ev_find _ _) ?_
      refine wp1 rfl rfl ?_
      refine wp3 rfl (am_getf rfl rfl) ?_
      refine wp1 rfl rfl ?_
      refine wp3 rfl (am_bald rfl (am_in_of (j := k) (n := 65536) hk (by show k.toInt < 65536; omega))) ?_
      refine wp4 rfl rfl (pl_set2 hJ _ _ (hall (Int32.toInt64 k) (by omega) (by omega)) (fd_ok hJ _ _)) (fun rv h2 hq => ?_)
      obtain ⟨m2, hJ2, hR2, hi, rfl, rfl⟩ := hq
      have eg : q_givenSize m2 = q_givenSize m := congrArg (fun i : ms_io => i.2.1) hi
      refine wp1 rfl rfl ?_
      refine wpV (lv' := [(0, .ref 24), (5, .long a), (9, .int n), (10, .int 1), (11, .int (k + 1))]) rfl ?_
      refine wp2 rfl rfl ?_
      exact wpL rfl rfl (ih hJ2 (RLt hR (RL21 hR2)) a n (k + 1) h0 (by rw [eg]; exact h1) (by unfold allP; rw [hR2.2 (by decide)]; exact hall) (i32_upp c1 hk) (i32_up c1 hm))
set_option maxRecDepth 20000 in
theorem sv_87 {m m0 : ms} (hJ : K m) (hR : RL 1 m0 m) (a : Int64) (n : Int32) (h0 : 0 ≤ n.toInt) (h1 : n.toInt ≤ (q_givenSize m).toInt) : tb_wp L xs 172 87 [(0, .ref 24), (5, .long a)] [.int n] (HH s (MC m) D) (NV 1 m0 s D) := by
  have en := i2lI n
  refine wp1 rfl rfl ?_
  refine wpV (lv' := [(0, .ref 24), (5, .long a), (9, .int n)]) rfl ?_
  refine wp1 rfl rfl ?_
  refine wp1 rfl rfl ?_
  refine wp1 rfl rfl ?_
  refine wp0 rfl rfl ?_
  refine wp0 rfl rfl ?_
  refine wp4 rfl rfl (may_at a (Int32.toInt64 n) 1) (fun rv h2 hq => ?_)
  obtain ⟨rfl, hq⟩ := hq
  rcases hq with rfl | ⟨rfl, h2, h3, h4⟩
  · refine wp1 rfl rfl ?_
    refine wpV (lv' := [(0, .ref 24), (5, .long a), (9, .int n), (10, .int 0)]) rfl ?_
    refine wp0 rfl rfl ?_
    refine wp1 rfl rfl ?_
    refine wpV (lv' := [(0, .ref 24), (5, .long a), (9, .int n), (10, .int 0), (11, .int 0)]) rfl ?_
    exact wpL rfl rfl (sv_104a hJ hR a n 0)
  · refine wp1 rfl rfl ?_
    refine wpV (lv' := [(0, .ref 24), (5, .long a), (9, .int n), (10, .int 1)]) rfl ?_
    refine wp0 rfl rfl ?_
    refine wp1 rfl rfl ?_
    refine wpV (lv' := [(0, .ref 24), (5, .long a), (9, .int n), (10, .int 1), (11, .int 0)]) rfl ?_
    exact wpL rfl rfl (sv_104b _ hJ hR a n 0 h0 h1 (by rw [en] at h4; exact h4) (by decide) (Nat.lt_succ_self _))
set_option maxRecDepth 20000 in
theorem sv_77 {m m0 : ms} (hJ : K m) (hR : RL 1 m0 m) (a : Int64) : tb_wp L xs 172 77 [(0, .ref 24), (5, .long a)] [] (HH s (MC m) D) (NV 1 m0 s D) := by
  have hb : 0 ≤ (q_givenSize m).toInt ∧ (q_givenSize m).toInt ≤ 65536 := hJ.2.2.2.2.2.2.2.2.1
  refine wp1 rfl rfl ?_
  refine wp3 rfl (am_getf rfl rfl) ?_
  refine wp2 rfl rfl ?_
  exact wpL rfl rfl (sv_87 hJ hR a (q_givenSize m) hb.1 (Int.le_refl _))
set_option maxRecDepth 20000 in
theorem sv_59 {m m0 : ms} (hJ : K m) (hR : RL 1 m0 m) (w d a r : Int64) : tb_wp L xs 172 59 [(0, .ref 24), (1, .long w), (3, .long d), (5, .long a), (7, .long r)] [] (HH s (MC m) D) (NV 1 m0 s D) := by
  have hb : 0 ≤ (q_givenSize m).toInt ∧ (q_givenSize m).toInt ≤ 65536 := hJ.2.2.2.2.2.2.2.2.1
  refine wp1 rfl rfl ?_
  refine wp0 rfl rfl ?_
  refine wp0 rfl rfl ?_
  refine wp2b rfl rfl (fun c1 => ?_) (fun c1 => ?_)
  · exact wpL rfl rfl (sv_77 hJ hR a)
  · refine wp1 rfl rfl ?_
    refine wp1 rfl rfl ?_
    refine wp3 rfl (am_getf rfl rfl) ?_
    refine wp0 rfl rfl ?_
    refine wp0 rfl rfl ?_
    refine wp2b rfl rfl (fun c2 => ?_) (fun c2 => ?_)
    · have g1 := nlt0 c1
      have g2 : r.toInt ≤ (q_givenSize m).toInt := by
        have := Int64.le_iff_toInt_le.mp ((lg_cmp_le _ _).mp c2)
        rw [i2lI] at this
        exact this
      have e := l2iI g1 (by omega)
      refine wp1 rfl rfl ?_
      refine wp0 rfl rfl ?_
      exact wpL rfl rfl (sv_87 hJ hR a (Int64.toInt32 r) (by omega) (by omega))
    · exact wpL rfl rfl (sv_77 hJ hR a)
end SERVICE3

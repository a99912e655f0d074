/-! bounds that the walks of part 31 use -/
theorem l2i_in {x y : Int64} {n : Nat} (h1 : ¬ lg_cmp x 0 < 0) (h2 : ¬ 0 ≤ lg_cmp x y) (hy : y.toInt ≤ n := by decide) (hn : n ≤ 2147483647 := by decide) : am_in x.toInt32 n = true := by
  have g1 := nlt0 h1
  have g2 := nge h2
  have g3 := l2iI g1 (by omega)
  exact am_in_of (by omega) (by omega)
theorem out_in {m : ms} {x : Int32} (hJ : K m) (h1 : ¬ x < 0) (h2 : ¬ q_shownSize m ≤ x) : am_in x 65536 = true := by
  have g1 : ¬ x.toInt < 0 := fun z => h1 (Int32.lt_iff_toInt_lt.mpr z)
  have g2 := i32_nle h2
  have g3 : (q_shownSize m).toInt ≤ 65536 := hJ.2.2.2.2.2.2.2.2.2.2
  exact am_in_of (by omega) (by omega)
theorem idx_tr {t : Nat} {m0 m : ms} (hR : RL (t + 1) m0 m) (h : (q_index m0).toInt < 16) : (q_index m).toInt < 16 := by
  have e : m.1 = m0.1 := hR.1 (by omega)
  have e2 : q_index m = q_index m0 := congrArg (fun f : ms_fr => f.2.2.2.2.1) e
  rw [e2]
  exact h
theorem kinds_tr {t : Nat} {m0 m : ms} (hR : RL (t + 1) m0 m) : q_kinds m = q_kinds m0 := congrArg (fun f : ms_fr => f.2.2.2.2.2.2.2.2.2.1) (hR.1 (by omega) : m.1 = m0.1)
theorem idx_in {t : Nat} {m0 m : ms} (hS : (q_index m0).toInt < 16) (hR : RL (t + 1) m0 m) (c : ¬ q_index m < 0) : am_in (q_index m) 16 = true := by
  have h := idx_tr hR hS
  have g1 : ¬ (q_index m).toInt < 0 := fun z => c (Int32.lt_iff_toInt_lt.mpr z)
  exact am_in_of (by omega) (by omega)
theorem z_bnd : 0 ≤ (0 : Int32).toInt ∧ (0 : Int32).toInt ≤ 65536 := by decide
section SM3
variable {L : Nat} {xs : Nat → Int32} {s : cs} {D : List pgT}
/- 127: FlagMachineModel.addressNow()J -/
set_option maxRecDepth 20000 in
theorem sb_127_75 {m m0 : ms} (hJ : K m) (hR : RL 2 m0 m) (l1 : Int64)  (hS : (q_index m0).toInt < 16) : tb_wp L xs 127 75 [(1, .long l1)] [] (HH s (MC m) D) (NJ 2 m0 s D) := by
  refine wp1 rfl rfl ?_
  exact wp5 rfl rfl ⟨_, hJ, hR, rfl, _, rfl⟩
set_option maxRecDepth 20000 in
theorem sb_127_50 {m m0 : ms} (hJ : K m) (hR : RL 2 m0 m) (l1 : Int64)  (hS : (q_index m0).toInt < 16) : tb_wp L xs 127 50 [(0, .ref 24), (1, .long l1)] [] (HH s (MC m) D) (NJ 2 m0 s D) := by
  refine wp1 rfl rfl ?_
  refine wp3 rfl (am_getf rfl rfl) ?_
  refine wp2b rfl rfl (fun c1 => ?_) (fun c1 => ?_)
  · exact wpL rfl rfl (sb_127_75 hJ hR (l1) hS)
  · refine wp1 rfl rfl ?_
    refine wp1 rfl rfl ?_
    refine wp3 rfl (am_getf rfl rfl) ?_
    refine wp1 rfl rfl ?_
    refine wp3 rfl (am_getf rfl rfl) ?_
    refine wp3 rfl (am_lald rfl (idx_in hS hR c1)) ?_
    refine wp1 rfl rfl ?_
    refine wp3 rfl (am_getf rfl rfl) ?_
    refine wp0 rfl rfl ?_
    refine wp0 rfl rfl ?_
    refine wp0 rfl rfl ?_
    refine wpTl (fun z2 ez2 => ?_)
    refine wp1 rfl rfl ?_
    refine wpV (lv' := [(0, .ref 24), (1, .long z2)]) rfl ?_
    exact wpL rfl rfl (sb_127_75 hJ hR (z2) hS)
set_option maxRecDepth 20000 in
theorem sb_127_22 {m m0 : ms} (hJ : K m) (hR : RL 2 m0 m) (l1 : Int64)  (hS : (q_index m0).toInt < 16) : tb_wp L xs 127 22 [(0, .ref 24), (1, .long l1)] [] (HH s (MC m) D) (NJ 2 m0 s D) := by
  refine wp1 rfl rfl ?_
  refine wp3 rfl (am_getf rfl rfl) ?_
  refine wp2b rfl rfl (fun c3 => ?_) (fun c3 => ?_)
  · exact wpL rfl rfl (sb_127_50 hJ hR (l1) hS)
  · refine wp1 rfl rfl ?_
    refine wp3 rfl (am_getf rfl rfl) ?_
    refine wp0 rfl rfl ?_
    refine wp2b rfl rfl (fun c4 => ?_) (fun c4 => ?_)
    · exact wpL rfl rfl (sb_127_50 hJ hR (l1) hS)
    · refine wp1 rfl rfl ?_
      refine wp1 rfl rfl ?_
      refine wp3 rfl (am_getf rfl rfl) ?_
      refine wp1 rfl rfl ?_
      refine wp3 rfl (am_getf rfl rfl) ?_
      refine wp3 rfl (am_lald rfl (by simp only [Int32.lt_iff_toInt_lt, Int32.le_iff_toInt_le, ← Int32.toInt_inj] at c3 c4; have e0 : (0 : Int32).toInt = 0 := rfl; have g0 : (Int32.ofNat 0).toInt = 0 := rfl; have e1 : (16 : Int32).toInt = 16 := rfl; have g1 : (Int32.ofNat 16).toInt = 16 := rfl; exact am_in_of (by omega) (by omega))) ?_
      refine wp0 rfl rfl ?_
      refine wpTl (fun z5 ez5 => ?_)
      refine wp1 rfl rfl ?_
      refine wpV (lv' := [(0, .ref 24), (1, .long z5)]) rfl ?_
      exact wpL rfl rfl (sb_127_50 hJ hR (z5) hS)
set_option maxRecDepth 20000 in
theorem sb_127_0 {m m0 : ms} (hJ : K m) (hR : RL 2 m0 m)   (hS : (q_index m0).toInt < 16) : tb_wp L xs 127 0 [(0, .ref 24)] [] (HH s (MC m) D) (NJ 2 m0 s D) := by
  refine wp1 rfl rfl ?_
  refine wp3 rfl (am_getf rfl rfl) ?_
  refine wp0 rfl rfl ?_
  refine wpTl (fun z6 ez6 => ?_)
  refine wp1 rfl rfl ?_
  refine wpV (lv' := [(0, .ref 24), (1, .long z6)]) rfl ?_
  refine wp1 rfl rfl ?_
  refine wp3 rfl (am_getf rfl rfl) ?_
  refine wp0 rfl rfl ?_
  refine wp2b rfl rfl (fun c7 => ?_) (fun c7 => ?_)
  · refine wp1 rfl rfl ?_
    refine wp1 rfl rfl ?_
    refine wp3 rfl (am_getf rfl rfl) ?_
    refine wp0 rfl rfl ?_
    refine wpTl (fun z8 ez8 => ?_)
    refine wp1 rfl rfl ?_
    refine wpV (lv' := [(0, .ref 24), (1, .long z8)]) rfl ?_
    exact wpL rfl rfl (sb_127_22 hJ hR (z8) hS)
  · exact wpL rfl rfl (sb_127_22 hJ hR (z6) hS)
theorem mf_127 {m : ms} (hJ : K m)   (hS : (q_index m).toInt < 16) : tb_wp L xs 127 0 (lv_args 0 [.ref 24]) [] (HH s (MC m) D) (NJ 2 m s D) := sb_127_0 hJ RLr  hS
/- 128: FlagMachineModel.anew(IIIIII)V -/
set_option maxRecDepth 20000 in
theorem sb_128_108 (n : Nat) : ∀ {m m0 : ms} (hJ : K m) (hR : RL 0 m0 m) (l7 : Int32) (hn_l7 : 0 ≤ Int32.toInt l7) (hm : ((16 : Int32).toInt - (l7 : Int32).toInt).toNat < n), tb_wp L xs 128 108 [(0, .ref 24), (7, .int l7)] [] (HH s (MC m) D) (NV 0 m0 s D) := by
  induction n with
  | zero => intro m m0 hJ hR l7 hn_l7 hm; exact absurd hm (Nat.not_lt_zero _)
  | succ n ih =>
    intro m m0 hJ hR l7 hn_l7 hm
    refine wp1 rfl rfl ?_
    refine wp0 rfl rfl ?_
    refine wp2b rfl rfl (fun c1 => ?_) (fun c1 => ?_)
    · refine wp1 rfl rfl ?_
      refine wp3 rfl (am_getf rfl rfl) ?_
      refine wp0 rfl rfl ?_
      refine wp0 rfl rfl ?_
      refine wp3 rfl (am_last rfl (by decide)) ?_
      have hJ2 : K (t_registers0 m (vp_updL (q_registers0 m) (Int32.toNatClampNeg 4) 2147479552)) := hJ
      refine wpH (h' := HH s (MC (t_registers0 m (vp_updL (q_registers0 m) (Int32.toNatClampNeg 4) 2147479552))) D) rfl ?_
      refine wp1 rfl rfl ?_
      refine wp0 rfl rfl ?_
      refine wp4 rfl rfl (mf_174 hJ2 (0)) (fun rv h1 hq => ?_)
      obtain ⟨s4, hJ6, D5, rfl, rfl⟩ := hq
      refine wp1 rfl rfl ?_
      refine wp0 rfl rfl ?_
      refine wp3 rfl (am_putf rfl (Nat.le_of_ble_eq_true rfl) rfl rfl) ?_
      have hJ8 : K (t_ip s4 4194304) := hJ6
      refine wpH (h' := HH s (MC (t_ip s4 4194304)) D) rfl ?_
      refine wp1 rfl rfl ?_
      refine wp0 rfl rfl ?_
      refine wp3 rfl (am_putf rfl (Nat.le_of_ble_eq_true rfl) rfl rfl) ?_
      have hJ9 : K (t_heapSize (t_ip s4 4194304) 0) := ⟨hJ8.1, hJ8.2.1, hJ8.2.2.1, hJ8.2.2.2.1, hJ8.2.2.2.2.1, hJ8.2.2.2.2.2.1, hJ8.2.2.2.2.2.2.1, z_bnd, hJ8.2.2.2.2.2.2.2.2.1, hJ8.2.2.2.2.2.2.2.2.2⟩
      refine wpH (h' := HH s (MC (t_heapSize (t_ip s4 4194304) 0)) D) rfl ?_
      refine wp1 rfl rfl ?_
      refine wp0 rfl rfl ?_
      refine wp3 rfl (am_putf rfl (Nat.le_of_ble_eq_true rfl) rfl rfl) ?_
      have hJ10 : K (t_givenSize (t_heapSize (t_ip s4 4194304) 0) 0) := ⟨hJ9.1, hJ9.2.1, hJ9.2.2.1, hJ9.2.2.2.1, hJ9.2.2.2.2.1, hJ9.2.2.2.2.2.1, hJ9.2.2.2.2.2.2.1, hJ9.2.2.2.2.2.2.2.1, z_bnd, hJ9.2.2.2.2.2.2.2.2.2⟩
      refine wpH (h' := HH s (MC (t_givenSize (t_heapSize (t_ip s4 4194304) 0) 0)) D) rfl ?_
      refine wp1 rfl rfl ?_
      refine wp0 rfl rfl ?_
      refine wp3 rfl (am_putf rfl (Nat.le_of_ble_eq_true rfl) rfl rfl) ?_
      have hJ11 : K (t_shownSize (t_givenSize (t_heapSize (t_ip s4 4194304) 0) 0) 0) := ⟨hJ10.1, hJ10.2.1, hJ10.2.2.1, hJ10.2.2.2.1, hJ10.2.2.2.2.1, hJ10.2.2.2.2.2.1, hJ10.2.2.2.2.2.2.1, hJ10.2.2.2.2.2.2.2.1, hJ10.2.2.2.2.2.2.2.2.1, z_bnd⟩
      refine wpH (h' := HH s (MC (t_shownSize (t_givenSize (t_heapSize (t_ip s4 4194304) 0) 0) 0)) D) rfl ?_
      refine wp1 rfl rfl ?_
      refine wp0 rfl rfl ?_
      refine wp3 rfl (am_putf rfl (Nat.le_of_ble_eq_true rfl) rfl rfl) ?_
      have hJ12 : K (t_stopKind (t_shownSize (t_givenSize (t_heapSize (t_ip s4 4194304) 0) 0) 0) 0) := hJ11
      refine wpH (h' := HH s (MC (t_stopKind (t_shownSize (t_givenSize (t_heapSize (t_ip s4 4194304) 0) 0) 0) 0)) D) rfl ?_
      refine wp1 rfl rfl ?_
      refine wp0 rfl rfl ?_
      refine wp3 rfl (am_putf rfl (Nat.le_of_ble_eq_true rfl) rfl rfl) ?_
      have hJ13 : K (t_stopValue (t_stopKind (t_shownSize (t_givenSize (t_heapSize (t_ip s4 4194304) 0) 0) 0) 0) 0) := hJ12
      refine wpH (h' := HH s (MC (t_stopValue (t_stopKind (t_shownSize (t_givenSize (t_heapSize (t_ip s4 4194304) 0) 0) 0) 0) 0)) D) rfl ?_
      refine wp1 rfl rfl ?_
      refine wp0 rfl rfl ?_
      refine wp3 rfl (am_putf rfl (Nat.le_of_ble_eq_true rfl) rfl rfl) ?_
      have hJ14 : K (t_stepsDone (t_stopValue (t_stopKind (t_shownSize (t_givenSize (t_heapSize (t_ip s4 4194304) 0) 0) 0) 0) 0) 0) := hJ13
      refine wpH (h' := HH s (MC (t_stepsDone (t_stopValue (t_stopKind (t_shownSize (t_givenSize (t_heapSize (t_ip s4 4194304) 0) 0) 0) 0) 0) 0)) D) rfl ?_
      exact wp5 rfl rfl ⟨_, hJ14, RL0, rfl, rfl⟩
    · refine wp1 rfl rfl ?_
      refine wp3 rfl (am_getf rfl rfl) ?_
      refine wp1 rfl rfl ?_
      refine wp0 rfl rfl ?_
      refine wp3 rfl (am_last rfl (by simp only [Int32.lt_iff_toInt_lt, Int32.le_iff_toInt_le, ← Int32.toInt_inj] at c1; have hnn := hn_l7; have e0 : (16 : Int32).toInt = 16 := rfl; have g0 : (Int32.ofNat 16).toInt = 16 := rfl; exact am_in_of (by omega) (by omega))) ?_
      have hJ15 : K (t_registers0 m (vp_updL (q_registers0 m) (Int32.toNatClampNeg l7) 0)) := hJ
      refine wpH (h' := HH s (MC (t_registers0 m (vp_updL (q_registers0 m) (Int32.toNatClampNeg l7) 0))) D) rfl ?_
      refine wp1 rfl rfl ?_
      refine wpV (lv' := [(0, .ref 24), (7, .int (l7 + 1))]) rfl ?_
      refine wp2 rfl rfl ?_
      exact wpL rfl rfl (ih hJ15 RL0 ((l7 + 1)) (i32_upp c1 hn_l7) (i32_up c1 hm))
set_option maxRecDepth 20000 in
theorem sb_128_76 (n : Nat) : ∀ {m m0 : ms} (hJ : K m) (hR : RL 0 m0 m) (l7 : Int32) (hn_l7 : 0 ≤ Int32.toInt l7) (hm : ((65536 : Int32).toInt - (l7 : Int32).toInt).toNat < n), tb_wp L xs 128 76 [(0, .ref 24), (7, .int l7)] [] (HH s (MC m) D) (NV 0 m0 s D) := by
  induction n with
  | zero => intro m m0 hJ hR l7 hn_l7 hm; exact absurd hm (Nat.not_lt_zero _)
  | succ n ih =>
    intro m m0 hJ hR l7 hn_l7 hm
    refine wp1 rfl rfl ?_
    refine wp0 rfl rfl ?_
    refine wp2b rfl rfl (fun c16 => ?_) (fun c16 => ?_)
    · refine wp0 rfl rfl ?_
      refine wp1 rfl rfl ?_
      refine wpV (lv' := [(0, .ref 24), (7, .int 0)]) rfl ?_
      exact wpL rfl rfl (sb_128_108 _ hJ hR (0) (by decide) (Nat.lt_succ_self _))
    · refine wp1 rfl rfl ?_
      refine wp3 rfl (am_getf rfl rfl) ?_
      refine wp1 rfl rfl ?_
      refine wp0 rfl rfl ?_
      refine wp3 rfl (am_bast rfl (by simp only [Int32.lt_iff_toInt_lt, Int32.le_iff_toInt_le, ← Int32.toInt_inj] at c16; have hnn := hn_l7; have e0 : (65536 : Int32).toInt = 65536 := rfl; have g0 : (Int32.ofNat 65536).toInt = 65536 := rfl; exact am_in_of (by omega) (by omega))) ?_
      have hJ17 : K (t_heap m (upd (q_heap m) (Int32.toNatClampNeg l7) (vp_nar .byte 0))) := hJ
      refine wpH (h' := HH s (MC (t_heap m (upd (q_heap m) (Int32.toNatClampNeg l7) (vp_nar .byte 0)))) D) rfl ?_
      refine wp1 rfl rfl ?_
      refine wp3 rfl (am_getf rfl rfl) ?_
      refine wp1 rfl rfl ?_
      refine wp0 rfl rfl ?_
      refine wp3 rfl (am_bast rfl (by simp only [Int32.lt_iff_toInt_lt, Int32.le_iff_toInt_le, ← Int32.toInt_inj] at c16; have hnn := hn_l7; have e0 : (65536 : Int32).toInt = 65536 := rfl; have g0 : (Int32.ofNat 65536).toInt = 65536 := rfl; exact am_in_of (by omega) (by omega))) ?_
      have hJ18 : K (t_stack (t_heap m (upd (q_heap m) (Int32.toNatClampNeg l7) (vp_nar .byte 0))) (upd (q_stack (t_heap m (upd (q_heap m) (Int32.toNatClampNeg l7) (vp_nar .byte 0)))) (Int32.toNatClampNeg l7) (vp_nar .byte 0))) := hJ17
      refine wpH (h' := HH s (MC (t_stack (t_heap m (upd (q_heap m) (Int32.toNatClampNeg l7) (vp_nar .byte 0))) (upd (q_stack (t_heap m (upd (q_heap m) (Int32.toNatClampNeg l7) (vp_nar .byte 0)))) (Int32.toNatClampNeg l7) (vp_nar .byte 0)))) D) rfl ?_
      refine wp1 rfl rfl ?_
      refine wpV (lv' := [(0, .ref 24), (7, .int (l7 + 1))]) rfl ?_
      refine wp2 rfl rfl ?_
      exact wpL rfl rfl (ih hJ18 RL0 ((l7 + 1)) (i32_upp c16 hn_l7) (i32_up c16 hm))
set_option maxRecDepth 20000 in
theorem sb_128_36 (n : Nat) : ∀ {m m0 : ms} (hJ : K m) (hR : RL 0 m0 m) (l1 : Int32) (l7 : Int32) (hn_l7 : 0 ≤ Int32.toInt l7) (hm : ((262144 : Int32).toInt - (l7 : Int32).toInt).toNat < n), tb_wp L xs 128 36 [(0, .ref 24), (1, .int l1), (7, .int l7)] [] (HH s (MC m) D) (NV 0 m0 s D) := by
  induction n with
  | zero => intro m m0 hJ hR l1 l7 hn_l7 hm; exact absurd hm (Nat.not_lt_zero _)
  | succ n ih =>
    intro m m0 hJ hR l1 l7 hn_l7 hm
    refine wp1 rfl rfl ?_
    refine wp0 rfl rfl ?_
    refine wp2b rfl rfl (fun c19 => ?_) (fun c19 => ?_)
    · refine wp0 rfl rfl ?_
      refine wp1 rfl rfl ?_
      refine wpV (lv' := [(0, .ref 24), (1, .int l1), (7, .int 0)]) rfl ?_
      exact wpL rfl rfl (sb_128_76 _ hJ hR (0) (by decide) (Nat.lt_succ_self _))
    · refine wp1 rfl rfl ?_
      refine wp3 rfl (am_getf rfl rfl) ?_
      refine wp1 rfl rfl ?_
      refine wp1 rfl rfl ?_
      refine wp1 rfl rfl ?_
      refine wp2b rfl rfl (fun c20 => ?_) (fun c20 => ?_)
      · refine wp0 rfl rfl ?_
        refine wp3 rfl (am_bast rfl (by simp only [Int32.lt_iff_toInt_lt, Int32.le_iff_toInt_le, ← Int32.toInt_inj] at c19 c20; have hnn := hn_l7; have e0 : (262144 : Int32).toInt = 262144 := rfl; have g0 : (Int32.ofNat 262144).toInt = 262144 := rfl; exact am_in_of (by omega) (by omega))) ?_
        have hJ21 : K (t_memory m (upd (q_memory m) (Int32.toNatClampNeg l7) (vp_nar .byte 0))) := hJ
        refine wpH (h' := HH s (MC (t_memory m (upd (q_memory m) (Int32.toNatClampNeg l7) (vp_nar .byte 0)))) D) rfl ?_
        refine wp1 rfl rfl ?_
        refine wpV (lv' := [(0, .ref 24), (1, .int l1), (7, .int (l7 + 1))]) rfl ?_
        refine wp2 rfl rfl ?_
        exact wpL rfl rfl (ih hJ21 RL0 (l1) ((l7 + 1)) (i32_upp c19 hn_l7) (i32_up c19 hm))
      · refine wp1 rfl rfl ?_
        refine wp3 rfl (am_getf rfl rfl) ?_
        refine wp1 rfl rfl ?_
        refine wp3 rfl (am_bald rfl (by simp only [Int32.lt_iff_toInt_lt, Int32.le_iff_toInt_le, ← Int32.toInt_inj] at c19 c20; have hnn := hn_l7; have e0 : (262144 : Int32).toInt = 262144 := rfl; have g0 : (Int32.ofNat 262144).toInt = 262144 := rfl; exact am_in_of (by omega) (by omega))) ?_
        refine wp2 rfl rfl ?_
        refine wp3 rfl (am_bast rfl (by simp only [Int32.lt_iff_toInt_lt, Int32.le_iff_toInt_le, ← Int32.toInt_inj] at c19 c20; have hnn := hn_l7; have e0 : (262144 : Int32).toInt = 262144 := rfl; have g0 : (Int32.ofNat 262144).toInt = 262144 := rfl; exact am_in_of (by omega) (by omega))) ?_
        have hJ22 : K (t_memory m (upd (q_memory m) (Int32.toNatClampNeg l7) (vp_nar .byte (q_filled m (Int32.toNatClampNeg l7))))) := hJ
        refine wpH (h' := HH s (MC (t_memory m (upd (q_memory m) (Int32.toNatClampNeg l7) (vp_nar .byte (q_filled m (Int32.toNatClampNeg l7)))))) D) rfl ?_
        refine wp1 rfl rfl ?_
        refine wpV (lv' := [(0, .ref 24), (1, .int l1), (7, .int (l7 + 1))]) rfl ?_
        refine wp2 rfl rfl ?_
        exact wpL rfl rfl (ih hJ22 RL0 (l1) ((l7 + 1)) (i32_upp c19 hn_l7) (i32_up c19 hm))
set_option maxRecDepth 20000 in
theorem sb_128_0 {m m0 : ms} (hJ : K m) (hR : RL 0 m0 m) (l1 : Int32) (l2 : Int32) (l3 : Int32) (l4 : Int32) (l5 : Int32) (l6 : Int32)  (hS : 0 ≤ l1.toInt ∧ l1.toInt ≤ 262144) : tb_wp L xs 128 0 [(0, .ref 24), (1, .int l1), (2, .int l2), (3, .int l3), (4, .int l4), (5, .int l5), (6, .int l6)] [] (HH s (MC m) D) (NV 0 m0 s D) := by
  refine wp1 rfl rfl ?_
  refine wp1 rfl rfl ?_
  refine wp3 rfl (am_putf rfl (Nat.le_of_ble_eq_true rfl) rfl rfl) ?_
  have hJ23 : K (t_end m l1) := ⟨hJ.1, hJ.2.1, hJ.2.2.1, hJ.2.2.2.1, hJ.2.2.2.2.1, hJ.2.2.2.2.2.1, hS, hJ.2.2.2.2.2.2.2⟩
  refine wpH (h' := HH s (MC (t_end m l1)) D) rfl ?_
  refine wp1 rfl rfl ?_
  refine wp1 rfl rfl ?_
  refine wp3 rfl (am_putf rfl (Nat.le_of_ble_eq_true rfl) rfl rfl) ?_
  have hJ24 : K (t_textEnd (t_end m l1) l2) := hJ23
  refine wpH (h' := HH s (MC (t_textEnd (t_end m l1) l2)) D) rfl ?_
  refine wp1 rfl rfl ?_
  refine wp1 rfl rfl ?_
  refine wp3 rfl (am_putf rfl (Nat.le_of_ble_eq_true rfl) rfl rfl) ?_
  have hJ25 : K (t_rodataBegin (t_textEnd (t_end m l1) l2) l3) := hJ24
  refine wpH (h' := HH s (MC (t_rodataBegin (t_textEnd (t_end m l1) l2) l3)) D) rfl ?_
  refine wp1 rfl rfl ?_
  refine wp1 rfl rfl ?_
  refine wp3 rfl (am_putf rfl (Nat.le_of_ble_eq_true rfl) rfl rfl) ?_
  have hJ26 : K (t_rodataEnd (t_rodataBegin (t_textEnd (t_end m l1) l2) l3) l4) := hJ25
  refine wpH (h' := HH s (MC (t_rodataEnd (t_rodataBegin (t_textEnd (t_end m l1) l2) l3) l4)) D) rfl ?_
  refine wp1 rfl rfl ?_
  refine wp1 rfl rfl ?_
  refine wp3 rfl (am_putf rfl (Nat.le_of_ble_eq_true rfl) rfl rfl) ?_
  have hJ27 : K (t_dataBegin (t_rodataEnd (t_rodataBegin (t_textEnd (t_end m l1) l2) l3) l4) l5) := hJ26
  refine wpH (h' := HH s (MC (t_dataBegin (t_rodataEnd (t_rodataBegin (t_textEnd (t_end m l1) l2) l3) l4) l5)) D) rfl ?_
  refine wp1 rfl rfl ?_
  refine wp1 rfl rfl ?_
  refine wp3 rfl (am_putf rfl (Nat.le_of_ble_eq_true rfl) rfl rfl) ?_
  have hJ28 : K (t_dataEnd (t_dataBegin (t_rodataEnd (t_rodataBegin (t_textEnd (t_end m l1) l2) l3) l4) l5) l6) := hJ27
  refine wpH (h' := HH s (MC (t_dataEnd (t_dataBegin (t_rodataEnd (t_rodataBegin (t_textEnd (t_end m l1) l2) l3) l4) l5) l6)) D) rfl ?_
  refine wp0 rfl rfl ?_
  refine wp1 rfl rfl ?_
  refine wpV (lv' := [(0, .ref 24), (1, .int l1), (2, .int l2), (3, .int l3), (4, .int l4), (5, .int l5), (6, .int l6), (7, .int 0)]) rfl ?_
  exact wpL rfl rfl (sb_128_36 _ hJ28 RL0 (l1) (0) (by decide) (Nat.lt_succ_self _))
theorem mf_128 {m : ms} (hJ : K m) (l1 : Int32) (l2 : Int32) (l3 : Int32) (l4 : Int32) (l5 : Int32) (l6 : Int32)  (hS : 0 ≤ l1.toInt ∧ l1.toInt ≤ 262144) : tb_wp L xs 128 0 (lv_args 0 [.ref 24, .int l1, .int l2, .int l3, .int l4, .int l5, .int l6]) [] (HH s (MC m) D) (NV 0 m s D) := sb_128_0 hJ RLr l1 l2 l3 l4 l5 l6 hS
/- 138: FlagMachineModel.fill(IJ)V -/
set_option maxRecDepth 20000 in
theorem sb_138_8 (n : Nat) : ∀ {m m0 : ms} (hJ : K m) (hR : RL 0 m0 m) (l1 : Int32) (l2 : Int64) (l4 : Int32) (hn_l4 : 0 ≤ Int32.toInt l4) (hm : ((8 : Int32).toInt - (l4 : Int32).toInt).toNat < n), tb_wp L xs 138 8 [(0, .ref 24), (1, .int l1), (2, .long l2), (4, .int l4)] [] (HH s (MC m) D) (NV 0 m0 s D) := by
  induction n with
  | zero => intro m m0 hJ hR l1 l2 l4 hn_l4 hm; exact absurd hm (Nat.not_lt_zero _)
  | succ n ih =>
    intro m m0 hJ hR l1 l2 l4 hn_l4 hm
    refine wp1 rfl rfl ?_
    refine wp0 rfl rfl ?_
    refine wp2b rfl rfl (fun c1 => ?_) (fun c1 => ?_)
    · exact wp5 rfl rfl ⟨_, hJ, hR, rfl, rfl⟩
    · refine wp1 rfl rfl ?_
      refine wp0 rfl rfl ?_
      refine wp1 rfl rfl ?_
      refine wp0 rfl rfl ?_
      refine wp0 rfl rfl ?_
      refine wpTl (fun z2 ez2 => ?_)
      refine wp1 rfl rfl ?_
      refine wpV (lv' := [(0, .ref 24), (1, .int l1), (2, .long l2), (4, .int l4), (5, .long z2)]) rfl ?_
      refine wp1 rfl rfl ?_
      refine wp0 rfl rfl ?_
      refine wp0 rfl rfl ?_
      refine wp2b rfl rfl (fun c3 => ?_) (fun c3 => ?_)
      · refine wp1 rfl rfl ?_
        refine wpV (lv' := [(0, .ref 24), (1, .int l1), (2, .long l2), (4, .int (l4 + 1))]) rfl ?_
        refine wp2 rfl rfl ?_
        exact wpL rfl rfl (ih hJ hR (l1) (l2) ((l4 + 1)) (i32_upp c1 hn_l4) (i32_up c1 hm))
      · refine wp1 rfl rfl ?_
        refine wp0 rfl rfl ?_
        refine wp0 rfl rfl ?_
        refine wp2b rfl rfl (fun c4 => ?_) (fun c4 => ?_)
        · refine wp1 rfl rfl ?_
          refine wpV (lv' := [(0, .ref 24), (1, .int l1), (2, .long l2), (4, .int (l4 + 1))]) rfl ?_
          refine wp2 rfl rfl ?_
          exact wpL rfl rfl (ih hJ hR (l1) (l2) ((l4 + 1)) (i32_upp c1 hn_l4) (i32_up c1 hm))
        · refine wp1 rfl rfl ?_
          refine wp3 rfl (am_getf rfl rfl) ?_
          refine wp1 rfl rfl ?_
          refine wp0 rfl rfl ?_
          refine wp1 rfl rfl ?_
          refine wp0 rfl rfl ?_
          refine wp1 rfl rfl ?_
          refine wp0 rfl rfl ?_
          refine wp0 rfl rfl ?_
          refine wp0 rfl rfl ?_
          refine wp0 rfl rfl ?_
          refine wp3 rfl (am_bast rfl (l2i_in c3 c4)) ?_
          have hJ5 : K (t_filled m (upd (q_filled m) (Int32.toNatClampNeg (Int64.toInt32 z2)) (vp_nar .byte (Int8.toInt32 (Int32.toInt8 (Int64.toInt32 (l2 >>> (Int32.toInt64 (8 * l4) &&& 63)))))))) := hJ
          refine wpH (h' := HH s (MC (t_filled m (upd (q_filled m) (Int32.toNatClampNeg (Int64.toInt32 z2)) (vp_nar .byte (Int8.toInt32 (Int32.toInt8 (Int64.toInt32 (l2 >>> (Int32.toInt64 (8 * l4) &&& 63))))))))) D) rfl ?_
          refine wp1 rfl rfl ?_
          refine wpV (lv' := [(0, .ref 24), (1, .int l1), (2, .long l2), (4, .int (l4 + 1))]) rfl ?_
          refine wp2 rfl rfl ?_
          exact wpL rfl rfl (ih hJ5 RL0 (l1) (l2) ((l4 + 1)) (i32_upp c1 hn_l4) (i32_up c1 hm))
set_option maxRecDepth 20000 in
theorem sb_138_0 {m m0 : ms} (hJ : K m) (hR : RL 0 m0 m) (l1 : Int32) (l2 : Int64)   : tb_wp L xs 138 0 [(0, .ref 24), (1, .int l1), (2, .long l2)] [] (HH s (MC m) D) (NV 0 m0 s D) := by
  refine wp1 rfl rfl ?_
  refine wp0 rfl rfl ?_
  refine wp3 rfl (am_putf rfl (Nat.le_of_ble_eq_true rfl) rfl rfl) ?_
  have hJ6 : K (t_thrown m 0) := hJ
  refine wpH (h' := HH s (MC (t_thrown m 0)) D) rfl ?_
  refine wp0 rfl rfl ?_
  refine wp1 rfl rfl ?_
  refine wpV (lv' := [(0, .ref 24), (1, .int l1), (2, .long l2), (4, .int 0)]) rfl ?_
  exact wpL rfl rfl (sb_138_8 _ hJ6 RL0 (l1) (l2) (0) (by decide) (Nat.lt_succ_self _))
theorem mf_138 {m : ms} (hJ : K m) (l1 : Int32) (l2 : Int64)   : tb_wp L xs 138 0 (lv_args 0 [.ref 24, .int l1, .long l2]) [] (HH s (MC m) D) (NV 0 m s D) := sb_138_0 hJ RLr l1 l2
/- 141: FlagMachineModel.goes(I)V -/
set_option maxRecDepth 20000 in
theorem sb_141_203 {m m0 : ms} (hJ : K m) (hR : RL 2 m0 m)    : tb_wp L xs 141 203 [] [] (HH s (MC m) D) (NV 2 m0 s D) := by
  exact wp5 rfl rfl ⟨_, hJ, hR, rfl, rfl⟩
set_option maxRecDepth 20000 in
theorem sb_141_198 {m m0 : ms} (hJ : K m) (hR : RL 2 m0 m) (l2 : Int64)   : tb_wp L xs 141 198 [(0, .ref 24), (2, .long l2)] [] (HH s (MC m) D) (NV 2 m0 s D) := by
  refine wp1 rfl rfl ?_
  refine wp1 rfl rfl ?_
  refine wp3 rfl (am_putf rfl (Nat.le_of_ble_eq_true rfl) rfl rfl) ?_
  have hJ1 : K (t_ip m l2) := hJ
  refine wpH (h' := HH s (MC (t_ip m l2)) D) rfl ?_
  exact wpL rfl rfl (sb_141_203 hJ1 hR )
set_option maxRecDepth 20000 in
theorem sb_141_183 {m m0 : ms} (hJ : K m) (hR : RL 2 m0 m) (l1 : Int32) (k0 : Int64)   : tb_wp L xs 141 183 [(0, .ref 24), (1, .int l1)] [.long k0] (HH s (MC m) D) (NV 2 m0 s D) := by
  refine wp1 rfl rfl ?_
  refine wpV (lv' := [(0, .ref 24), (1, .int l1), (2, .long k0)]) rfl ?_
  refine wp1 rfl rfl ?_
  refine wp0 rfl rfl ?_
  refine wp2b rfl rfl (fun c2 => ?_) (fun c2 => ?_)
  · refine wp1 rfl rfl ?_
    refine wp1 rfl rfl ?_
    refine wp3 rfl (am_getf rfl rfl) ?_
    refine wp4 rfl rfl (mf_168 hJ ((q_ip m))) (fun rv h1 hq => ?_)
    obtain ⟨s4, hJ6, D5, rfl, rfl⟩ := hq
    exact wpL rfl rfl (sb_141_198 hJ6 (RLt hR D5) (k0))
  · exact wpL rfl rfl (sb_141_198 hJ hR (k0))
set_option maxRecDepth 20000 in
theorem sb_141_148 {m m0 : ms} (hJ : K m) (hR : RL 2 m0 m) (k1 : Int64) (k2 : Int64)   : tb_wp L xs 141 148 [] [.long k2, .long k1, .ref 24] (HH s (MC m) D) (NV 2 m0 s D) := by
  refine wp0 rfl rfl ?_
  refine wp3 rfl (am_putf rfl (Nat.le_of_ble_eq_true rfl) rfl rfl) ?_
  have hJ8 : K (t_ip m (k1 + k2)) := hJ
  refine wpH (h' := HH s (MC (t_ip m (k1 + k2))) D) rfl ?_
  refine wp2 rfl rfl ?_
  exact wpL rfl rfl (sb_141_203 hJ8 hR )
set_option maxRecDepth 20000 in
theorem sb_141_113 {m m0 : ms} (hJ : K m) (hR : RL 2 m0 m) (k2 : Int64) (k3 : Int64)   : tb_wp L xs 141 113 [] [.long k3, .long k2, .int 4, .ref 31] (HH s (MC m) D) (NV 2 m0 s D) := by
  refine wp0 rfl rfl ?_
  refine wp3 rfl (am_last rfl (by decide)) ?_
  have hJ9 : K (t_registers0 m (vp_updL (q_registers0 m) (Int32.toNatClampNeg 4) (k2 + k3))) := hJ
  refine wpH (h' := HH s (MC (t_registers0 m (vp_updL (q_registers0 m) (Int32.toNatClampNeg 4) (k2 + k3)))) D) rfl ?_
  refine wp2 rfl rfl ?_
  exact wpL rfl rfl (sb_141_203 hJ9 hR )
set_option maxRecDepth 20000 in
theorem sb_141_64 {m m0 : ms} (hJ : K m) (hR : RL 2 m0 m) (l2 : Int64)   : tb_wp L xs 141 64 [(0, .ref 24), (2, .long l2)] [] (HH s (MC m) D) (NV 2 m0 s D) := by
  refine wp1 rfl rfl ?_
  refine wp0 rfl rfl ?_
  refine wp0 rfl rfl ?_
  refine wp1 rfl rfl ?_
  refine wp4 rfl rfl (mf_169 hJ (0) (8) (l2) (by decide)) (fun rv h1 hq => ?_)
  obtain ⟨s11, hJ13, D12, rfl, rfl⟩ := hq
  refine wp2 rfl rfl ?_
  exact wpL rfl rfl (sb_141_203 hJ13 (RLt hR D12) )
set_option maxRecDepth 20000 in
theorem sb_141_30 {m m0 : ms} (hJ : K m) (hR : RL 2 m0 m) (k1 : Int64)   : tb_wp L xs 141 30 [] [.long k1, .ref 24] (HH s (MC m) D) (NV 2 m0 s D) := by
  refine wp4 rfl rfl (mf_168 hJ (k1)) (fun rv h1 hq => ?_)
  obtain ⟨s16, hJ18, D17, rfl, rfl⟩ := hq
  refine wp2 rfl rfl ?_
  exact wpL rfl rfl (sb_141_203 hJ18 (RLt hR D17) )
set_option maxRecDepth 20000 in
theorem sb_141_0 {m m0 : ms} (hJ : K m) (hR : RL 2 m0 m) (l1 : Int32)  (hS : q_kinds m0 0 = 2 → (q_index m0).toInt < 16) : tb_wp L xs 141 0 [(0, .ref 24), (1, .int l1)] [] (HH s (MC m) D) (NV 2 m0 s D) := by
  refine wp1 rfl rfl ?_
  refine wp0 rfl rfl ?_
  refine wp2b rfl rfl (fun c20 => ?_) (fun c20 => ?_)
  · refine wp1 rfl rfl ?_
    refine wp1 rfl rfl ?_
    refine wp0 rfl rfl ?_
    refine am_ev_at rfl rfl (ev_kinds (by decide)) ?_
    refine wp0 rfl rfl ?_
    refine wp2b rfl rfl (fun c21 => ?_) (fun c21 => ?_)
    · refine wp1 rfl rfl ?_
      refine wp3 rfl (am_getf rfl rfl) ?_
      refine wp2 rfl rfl ?_
      exact wpL rfl rfl (sb_141_30 hJ hR ((q_number m)))
    · refine wp1 rfl rfl ?_
      refine wp0 rfl rfl ?_
      refine wp0 rfl rfl ?_
      refine wp4 rfl rfl (mf_187 hJ (0) (8) (by decide)) (fun rv h1 hq => ?_)
      obtain ⟨s23, hJ25, D24, rfl, x26, rfl⟩ := hq
      exact wpL rfl rfl (sb_141_30 hJ25 (RLt hR D24) (x26))
  · refine wp1 rfl rfl ?_
    refine wp0 rfl rfl ?_
    refine wp2b rfl rfl (fun c27 => ?_) (fun c27 => ?_)
    · refine wp1 rfl rfl ?_
      refine wp4 rfl rfl (mf_166 hJ ) (fun rv h1 hq => ?_)
      obtain ⟨s29, hJ31, D30, rfl, x32, rfl⟩ := hq
      refine wp1 rfl rfl ?_
      refine wpV (lv' := [(0, .ref 24), (1, .int l1), (2, .long x32)]) rfl ?_
      refine wp1 rfl rfl ?_
      refine wp0 rfl rfl ?_
      refine am_ev_at rfl rfl (ev_kinds (by decide)) ?_
      refine wp0 rfl rfl ?_
      refine wp2b rfl rfl (fun c33 => ?_) (fun c33 => ?_)
      · refine wp1 rfl rfl ?_
        refine wp1 rfl rfl ?_
        refine wp4 rfl rfl (mf_127 hJ31 (idx_tr (RLt hR D30) (hS ((congrFun (kinds_tr (RLt hR D30)) 0).symm.trans c33)))) (fun rv h1 hq => ?_)
        obtain ⟨m34, hJ36, D35, rfl, x37, rfl⟩ := hq
        refine wp3 rfl (am_putf rfl (Nat.le_of_ble_eq_true rfl) rfl rfl) ?_
        have hJ38 : K (t_operandAt m34 x37) := hJ36
        refine wpH (h' := HH s (MC (t_operandAt m34 x37)) D) rfl ?_
        exact wpL rfl rfl (sb_141_64 hJ38 (RLt (RLt hR D30) D35) (x32))
      · exact wpL rfl rfl (sb_141_64 hJ31 (RLt hR D30) (x32))
    · refine wp1 rfl rfl ?_
      refine wp0 rfl rfl ?_
      refine wp2b rfl rfl (fun c39 => ?_) (fun c39 => ?_)
      · refine wp1 rfl rfl ?_
        refine wp1 rfl rfl ?_
        refine wp4 rfl rfl (mf_166 hJ ) (fun rv h1 hq => ?_)
        obtain ⟨s41, hJ43, D42, rfl, x44, rfl⟩ := hq
        refine wp3 rfl (am_putf rfl (Nat.le_of_ble_eq_true rfl) rfl rfl) ?_
        have hJ45 : K (t_ip s41 x44) := hJ43
        refine wpH (h' := HH s (MC (t_ip s41 x44)) D) rfl ?_
        refine wp1 rfl rfl ?_
        refine wp3 rfl (am_getf rfl rfl) ?_
        refine wp0 rfl rfl ?_
        refine wp0 rfl rfl ?_
        refine wp3 rfl (am_lald rfl (by decide)) ?_
        refine wp1 rfl rfl ?_
        refine wp0 rfl rfl ?_
        refine am_ev_at rfl rfl (ev_kinds (by decide)) ?_
        refine wp0 rfl rfl ?_
        refine wp2b rfl rfl (fun c46 => ?_) (fun c46 => ?_)
        · refine wp1 rfl rfl ?_
          refine wp3 rfl (am_getf rfl rfl) ?_
          refine wp2 rfl rfl ?_
          exact wpL rfl rfl (sb_141_113 hJ45 (RLt hR D42) ((q_registers0 (t_ip s41 x44) (Int32.toNatClampNeg 4))) ((q_number (t_ip s41 x44))))
        · refine wp0 rfl rfl ?_
          exact wpL rfl rfl (sb_141_113 hJ45 (RLt hR D42) ((q_registers0 (t_ip s41 x44) (Int32.toNatClampNeg 4))) (0))
      · refine wp1 rfl rfl ?_
        refine wp0 rfl rfl ?_
        refine wp2b rfl rfl (fun c47 => ?_) (fun c47 => ?_)
        · refine wp1 rfl rfl ?_
          refine wp0 rfl rfl ?_
          refine wp3 rfl (am_getf rfl rfl) ?_
          refine wp1 rfl rfl ?_
          refine wp1 rfl rfl ?_
          refine wp3 rfl (am_getf rfl rfl) ?_
          refine wp4 rfl rfl (mf_147 hJ ((q_condition m))) (fun rv h1 hq => ?_)
          obtain ⟨s49, hJ51, D50, rfl, x52, rfl, hb_x52⟩ := hq
          refine wp2b rfl rfl (fun c53 => ?_) (fun c53 => ?_)
          · refine wp0 rfl rfl ?_
            exact wpL rfl rfl (sb_141_148 hJ51 (RLt hR D50) ((q_ip m)) (0))
          · refine wp1 rfl rfl ?_
            refine wp3 rfl (am_getf rfl rfl) ?_
            refine wp2 rfl rfl ?_
            exact wpL rfl rfl (sb_141_148 hJ51 (RLt hR D50) ((q_ip m)) ((q_number s49)))
        · refine wp1 rfl rfl ?_
          refine wp0 rfl rfl ?_
          refine am_ev_at rfl rfl (ev_kinds (by decide)) ?_
          refine wp0 rfl rfl ?_
          refine wp2b rfl rfl (fun c54 => ?_) (fun c54 => ?_)
          · refine wp1 rfl rfl ?_
            refine wp3 rfl (am_getf rfl rfl) ?_
            refine wp1 rfl rfl ?_
            refine wp3 rfl (am_getf rfl rfl) ?_
            refine wp0 rfl rfl ?_
            refine wp2 rfl rfl ?_
            exact wpL rfl rfl (sb_141_183 hJ hR (l1) (((q_ip m) + (q_number m))))
          · refine wp1 rfl rfl ?_
            refine wp0 rfl rfl ?_
            refine wp0 rfl rfl ?_
            refine wp4 rfl rfl (mf_187 hJ (0) (8) (by decide)) (fun rv h1 hq => ?_)
            obtain ⟨s56, hJ58, D57, rfl, x59, rfl⟩ := hq
            exact wpL rfl rfl (sb_141_183 hJ58 (RLt hR D57) (l1) (x59))
theorem mf_141 {m : ms} (hJ : K m) (l1 : Int32)  (hS : q_kinds m 0 = 2 → (q_index m).toInt < 16) : tb_wp L xs 141 0 (lv_args 0 [.ref 24, .int l1]) [] (HH s (MC m) D) (NV 2 m s D) := sb_141_0 hJ RLr l1 hS
/- 156: FlagMachineModel.moves(II)V -/
set_option maxRecDepth 20000 in
theorem sb_156_144 {m m0 : ms} (hJ : K m) (hR : RL 2 m0 m)    : tb_wp L xs 156 144 [] [] (HH s (MC m) D) (NV 2 m0 s D) := by
  exact wp5 rfl rfl ⟨_, hJ, hR, rfl, rfl⟩
set_option maxRecDepth 20000 in
theorem sb_156_134 {m m0 : ms} (hJ : K m) (hR : RL 2 m0 m) (l2 : Int32) (k2 : Int32) (k3 : Int64) (k4 : Int32) (hn_k4 : 0 ≤ Int32.toInt k4)  : tb_wp L xs 156 134 [(2, .int l2)] [.int k4, .long k3, .int k2, .int 0, .ref 24] (HH s (MC m) D) (NV 2 m0 s D) := by
  refine wp4 rfl rfl (mf_178 hJ (k3) (k4)) (fun rv h1 hq => ?_)
  obtain ⟨s2, hJ4, D3, rfl, x5, rfl⟩ := hq
  refine wp1 rfl rfl ?_
  refine wp4 rfl rfl (mf_135 hJ4 (x5) (l2)) (fun rv h1 hq => ?_)
  obtain ⟨s7, hJ9, D8, rfl, x10, rfl⟩ := hq
  refine wp4 rfl rfl (mf_169 hJ9 (0) (k2) (x10) (by decide)) (fun rv h1 hq => ?_)
  obtain ⟨s12, hJ14, D13, rfl, rfl⟩ := hq
  exact wpL rfl rfl (sb_156_144 hJ14 (RLt (RLt (RLt hR D3) D8) D13) )
set_option maxRecDepth 20000 in
theorem sb_156_120 {m m0 : ms} (hJ : K m) (hR : RL 2 m0 m) (l1 : Int32) (l2 : Int32) (k2 : Int32) (k5 : Int32) (hn_k5 : 0 ≤ Int32.toInt k5)  : tb_wp L xs 156 120 [(1, .int l1), (2, .int l2)] [.int k5, .int 1, .ref 24, .int k2, .int 0, .ref 24] (HH s (MC m) D) (NV 2 m0 s D) := by
  refine wp4 rfl rfl (mf_187 hJ (1) (k5) (by decide)) (fun rv h1 hq => ?_)
  obtain ⟨s17, hJ19, D18, rfl, x20, rfl⟩ := hq
  refine wp1 rfl rfl ?_
  refine wp0 rfl rfl ?_
  refine wp2b rfl rfl (fun c21 => ?_) (fun c21 => ?_)
  · refine wp0 rfl rfl ?_
    refine wp2 rfl rfl ?_
    exact wpL rfl rfl (sb_156_134 hJ19 (RLt hR D18) (l2) (k2) (x20) (1) (by decide))
  · refine wp0 rfl rfl ?_
    exact wpL rfl rfl (sb_156_134 hJ19 (RLt hR D18) (l2) (k2) (x20) (4) (by decide))
set_option maxRecDepth 20000 in
theorem sb_156_0 {m m0 : ms} (hJ : K m) (hR : RL 2 m0 m) (l1 : Int32) (l2 : Int32)  (hS : l1 = 11 → (q_index m0).toInt < 16) : tb_wp L xs 156 0 [(0, .ref 24), (1, .int l1), (2, .int l2)] [] (HH s (MC m) D) (NV 2 m0 s D) := by
  refine wp1 rfl rfl ?_
  refine wp0 rfl rfl ?_
  refine wp2b rfl rfl (fun c22 => ?_) (fun c22 => ?_)
  · refine wp1 rfl rfl ?_
    refine wp0 rfl rfl ?_
    refine wp1 rfl rfl ?_
    refine wp1 rfl rfl ?_
    refine wp0 rfl rfl ?_
    refine wp1 rfl rfl ?_
    refine wp4 rfl rfl (mf_187 hJ (1) (l2) (by decide)) (fun rv h1 hq => ?_)
    obtain ⟨s24, hJ26, D25, rfl, x27, rfl⟩ := hq
    refine wp4 rfl rfl (mf_169 hJ26 (0) (l2) (x27) (by decide)) (fun rv h1 hq => ?_)
    obtain ⟨s29, hJ31, D30, rfl, rfl⟩ := hq
    refine wp2 rfl rfl ?_
    exact wpL rfl rfl (sb_156_144 hJ31 (RLt (RLt hR D25) D30) )
  · refine wp1 rfl rfl ?_
    refine wp0 rfl rfl ?_
    refine wp2b rfl rfl (fun c33 => ?_) (fun c33 => ?_)
    · refine wp1 rfl rfl ?_
      refine wp0 rfl rfl ?_
      refine wp1 rfl rfl ?_
      refine wp4 rfl rfl (mf_187 hJ (0) (l2) (by decide)) (fun rv h1 hq => ?_)
      obtain ⟨s35, hJ37, D36, rfl, x38, rfl⟩ := hq
      refine wp1 rfl rfl ?_
      refine wpV (lv' := [(0, .ref 24), (1, .int l1), (2, .int l2), (3, .long x38)]) rfl ?_
      refine wp1 rfl rfl ?_
      refine wp0 rfl rfl ?_
      refine wp1 rfl rfl ?_
      refine wp4 rfl rfl (mf_187 hJ37 (1) (l2) (by decide)) (fun rv h1 hq => ?_)
      obtain ⟨s40, hJ42, D41, rfl, x43, rfl⟩ := hq
      refine wp1 rfl rfl ?_
      refine wpV (lv' := [(0, .ref 24), (1, .int l1), (2, .int l2), (3, .long x38), (5, .long x43)]) rfl ?_
      refine wp1 rfl rfl ?_
      refine wp0 rfl rfl ?_
      refine wp1 rfl rfl ?_
      refine wp1 rfl rfl ?_
      refine wp4 rfl rfl (mf_169 hJ42 (0) (l2) (x43) (by decide)) (fun rv h1 hq => ?_)
      obtain ⟨s45, hJ47, D46, rfl, rfl⟩ := hq
      refine wp1 rfl rfl ?_
      refine wp0 rfl rfl ?_
      refine wp1 rfl rfl ?_
      refine wp1 rfl rfl ?_
      refine wp4 rfl rfl (mf_169 hJ47 (1) (l2) (x38) (by decide)) (fun rv h1 hq => ?_)
      obtain ⟨s50, hJ52, D51, rfl, rfl⟩ := hq
      refine wp2 rfl rfl ?_
      exact wpL rfl rfl (sb_156_144 hJ52 (RLt (RLt (RLt (RLt hR D36) D41) D46) D51) )
    · refine wp1 rfl rfl ?_
      refine wp0 rfl rfl ?_
      refine wp2b rfl rfl (fun c54 => ?_) (fun c54 => ?_)
      · refine wp1 rfl rfl ?_
        refine wp0 rfl rfl ?_
        refine wp1 rfl rfl ?_
        refine wp1 rfl rfl ?_
        refine wp4 rfl rfl (mf_127 hJ (idx_tr hR (hS c54))) (fun rv h1 hq => ?_)
        obtain ⟨m55, hJ57, D56, rfl, x58, rfl⟩ := hq
        refine wp1 rfl rfl ?_
        refine wp4 rfl rfl (mf_135 hJ57 (x58) (l2)) (fun rv h1 hq => ?_)
        obtain ⟨s60, hJ62, D61, rfl, x63, rfl⟩ := hq
        refine wp4 rfl rfl (mf_169 hJ62 (0) (l2) (x63) (by decide)) (fun rv h1 hq => ?_)
        obtain ⟨s65, hJ67, D66, rfl, rfl⟩ := hq
        refine wp2 rfl rfl ?_
        exact wpL rfl rfl (sb_156_144 hJ67 (RLt (RLt (RLt hR D56) D61) D66) )
      · refine wp1 rfl rfl ?_
        refine wp0 rfl rfl ?_
        refine wp2b rfl rfl (fun c69 => ?_) (fun c69 => ?_)
        · refine wp1 rfl rfl ?_
          refine wp0 rfl rfl ?_
          refine wp1 rfl rfl ?_
          refine wp1 rfl rfl ?_
          refine wp0 rfl rfl ?_
          refine wp0 rfl rfl ?_
          refine wp4 rfl rfl (mf_187 hJ (1) (1) (by decide)) (fun rv h1 hq => ?_)
          obtain ⟨s71, hJ73, D72, rfl, x74, rfl⟩ := hq
          refine wp4 rfl rfl (mf_169 hJ73 (0) (l2) (x74) (by decide)) (fun rv h1 hq => ?_)
          obtain ⟨s76, hJ78, D77, rfl, rfl⟩ := hq
          refine wp2 rfl rfl ?_
          exact wpL rfl rfl (sb_156_144 hJ78 (RLt (RLt hR D72) D77) )
        · refine wp1 rfl rfl ?_
          refine wp0 rfl rfl ?_
          refine wp1 rfl rfl ?_
          refine wp1 rfl rfl ?_
          refine wp0 rfl rfl ?_
          refine wp1 rfl rfl ?_
          refine wp0 rfl rfl ?_
          refine wp2b rfl rfl (fun c80 => ?_) (fun c80 => ?_)
          · refine wp0 rfl rfl ?_
            refine wp2 rfl rfl ?_
            exact wpL rfl rfl (sb_156_120 hJ hR (l1) (l2) (l2) (1) (by decide))
          · refine wp0 rfl rfl ?_
            exact wpL rfl rfl (sb_156_120 hJ hR (l1) (l2) (l2) (4) (by decide))
theorem mf_156 {m : ms} (hJ : K m) (l1 : Int32) (l2 : Int32)  (hS : l1 = 11 → (q_index m).toInt < 16) : tb_wp L xs 156 0 (lv_args 0 [.ref 24, .int l1, .int l2]) [] (HH s (MC m) D) (NV 2 m s D) := sb_156_0 hJ RLr l1 l2 hS
/- 162: FlagMachineModel.output(I)I -/
set_option maxRecDepth 20000 in
theorem sb_162_43 {m m0 : ms} (hJ : K m) (hR : RL 0 m0 m) (k0 : Int32)   : tb_wp L xs 162 43 [] [.int k0] (HH s (MC m) D) (NI 0 m0 s D) := by
  exact wp5i rfl rfl ⟨_, hJ, hR, rfl, _, rfl⟩
set_option maxRecDepth 20000 in
theorem sb_162_42 {m m0 : ms} (hJ : K m) (hR : RL 0 m0 m)    : tb_wp L xs 162 42 [] [] (HH s (MC m) D) (NI 0 m0 s D) := by
  refine wp0 rfl rfl ?_
  exact wpL rfl rfl (sb_162_43 hJ hR ((-1)))
set_option maxRecDepth 20000 in
theorem sb_162_0 {m m0 : ms} (hJ : K m) (hR : RL 0 m0 m) (l1 : Int32)   : tb_wp L xs 162 0 [(0, .ref 24), (1, .int l1)] [] (HH s (MC m) D) (NI 0 m0 s D) := by
  refine wp1 rfl rfl ?_
  refine wp0 rfl rfl ?_
  refine wp3 rfl (am_putf rfl (Nat.le_of_ble_eq_true rfl) rfl rfl) ?_
  have hJ1 : K (t_thrown m 0) := hJ
  refine wpH (h' := HH s (MC (t_thrown m 0)) D) rfl ?_
  refine wp1 rfl rfl ?_
  refine wp0 rfl rfl ?_
  refine wp2b rfl rfl (fun c2 => ?_) (fun c2 => ?_)
  · refine wp1 rfl rfl ?_
    refine wp3 rfl (am_getf rfl rfl) ?_
    refine wp2 rfl rfl ?_
    exact wpL rfl rfl (sb_162_43 hJ1 RL0 ((q_shownSize (t_thrown m 0))))
  · refine wp1 rfl rfl ?_
    refine wp2b rfl rfl (fun c3 => ?_) (fun c3 => ?_)
    · exact wpL rfl rfl (sb_162_42 hJ1 RL0 )
    · refine wp1 rfl rfl ?_
      refine wp1 rfl rfl ?_
      refine wp3 rfl (am_getf rfl rfl) ?_
      refine wp2b rfl rfl (fun c4 => ?_) (fun c4 => ?_)
      · exact wpL rfl rfl (sb_162_42 hJ1 RL0 )
      · refine wp1 rfl rfl ?_
        refine wp3 rfl (am_getf rfl rfl) ?_
        refine wp1 rfl rfl ?_
        refine wp3 rfl (am_bald rfl (out_in hJ1 c3 c4)) ?_
        refine wp0 rfl rfl ?_
        refine wp0 rfl rfl ?_
        refine wp2 rfl rfl ?_
        exact wpL rfl rfl (sb_162_43 hJ1 RL0 (((q_shown (t_thrown m 0) (Int32.toNatClampNeg l1)) &&& 255)))
theorem mf_162 {m : ms} (hJ : K m) (l1 : Int32)   : tb_wp L xs 162 0 (lv_args 0 [.ref 24, .int l1]) [] (HH s (MC m) D) (NI 0 m s D) := sb_162_0 hJ RLr l1
end SM3

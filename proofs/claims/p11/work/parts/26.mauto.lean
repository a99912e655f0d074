section SM
variable {L : Nat} {xs : Nat → Int32} {s : cs} {D : List pgT}
set_option maxRecDepth 20000 in
theorem ev_kinds {m : ms} {k : Int32} (hk : am_in k 3 = true) : tb_ev L xs 151 [.ref 24, .int k] (HH s (MC m) D) (some (.int (q_kinds m k.toNatClampNeg))) (HH s (MC m) D) := by
  refine am_wp_ev ?_
  refine wp1 rfl rfl ?_
  refine wp3 rfl (am_getf rfl rfl) ?_
  refine wp1 rfl rfl ?_
  refine wp3 rfl (am_iald rfl hk) ?_
  exact wp5i rfl rfl ⟨rfl, rfl⟩
set_option maxRecDepth 20000 in
theorem ev_places {m : ms} {k : Int32} (hk : am_in k 3 = true) : tb_ev L xs 171 [.ref 24, .int k] (HH s (MC m) D) (some (.int (q_places m k.toNatClampNeg))) (HH s (MC m) D) := by
  refine am_wp_ev ?_
  refine wp1 rfl rfl ?_
  refine wp3 rfl (am_getf rfl rfl) ?_
  refine wp1 rfl rfl ?_
  refine wp3 rfl (am_iald rfl hk) ?_
  exact wp5i rfl rfl ⟨rfl, rfl⟩
/- 131: FlagMachineModel.below(JJ)Z -/
set_option maxRecDepth 20000 in
theorem sb_131_19 {m m0 : ms} (hJ : K m) (hR : RL 2 m0 m) (k0 : Int32) (hb_k0 : b01 k0) : tb_wp L xs 131 19 [] [.int k0] (HH s (MC m) D) (NZ 2 m0 s D) := by
  exact wp5z rfl rfl hb_k0 ⟨_, hJ, hR, rfl, _, rfl, hb_k0⟩
set_option maxRecDepth 20000 in
theorem sb_131_0 {m m0 : ms} (hJ : K m) (hR : RL 2 m0 m) (l0 : Int64) (l2 : Int64)  : tb_wp L xs 131 0 [(0, .long l0), (2, .long l2)] [] (HH s (MC m) D) (NZ 2 m0 s D) := by
  refine wp1 rfl rfl ?_
  refine wp0 rfl rfl ?_
  refine wp0 rfl rfl ?_
  refine wp1 rfl rfl ?_
  refine wp0 rfl rfl ?_
  refine wp0 rfl rfl ?_
  refine wp0 rfl rfl ?_
  refine wp2b rfl rfl (fun c1 => ?_) (fun c1 => ?_)
  · refine wp0 rfl rfl ?_
    exact wpL rfl rfl (sb_131_19 hJ hR (0) b0)
  · refine wp0 rfl rfl ?_
    refine wp2 rfl rfl ?_
    exact wpL rfl rfl (sb_131_19 hJ hR (1) b1)
theorem mf_131 {m : ms} (hJ : K m) (l0 : Int64) (l2 : Int64)  : tb_wp L xs 131 0 (lv_args 0 [.long l0, .long l2]) [] (HH s (MC m) D) (NZ 2 m s D) := sb_131_0 hJ RLr l0 l2
/- 135: FlagMachineModel.cut(JI)J -/
set_option maxRecDepth 20000 in
theorem sb_135_28 {m m0 : ms} (hJ : K m) (hR : RL 2 m0 m) (k0 : Int64)  : tb_wp L xs 135 28 [] [.long k0] (HH s (MC m) D) (NJ 2 m0 s D) := by
  exact wp5 rfl rfl ⟨_, hJ, hR, rfl, _, rfl⟩
set_option maxRecDepth 20000 in
theorem sb_135_0 {m m0 : ms} (hJ : K m) (hR : RL 2 m0 m) (l0 : Int64) (l2 : Int32)  : tb_wp L xs 135 0 [(0, .long l0), (2, .int l2)] [] (HH s (MC m) D) (NJ 2 m0 s D) := by
  refine wp1 rfl rfl ?_
  refine wp0 rfl rfl ?_
  refine wp2b rfl rfl (fun c1 => ?_) (fun c1 => ?_)
  · refine wp1 rfl rfl ?_
    refine wp2 rfl rfl ?_
    exact wpL rfl rfl (sb_135_28 hJ hR (l0))
  · refine wp1 rfl rfl ?_
    refine wp0 rfl rfl ?_
    refine wp2b rfl rfl (fun c2 => ?_) (fun c2 => ?_)
    · refine wp1 rfl rfl ?_
      refine wp0 rfl rfl ?_
      refine wp0 rfl rfl ?_
      refine wp2 rfl rfl ?_
      exact wpL rfl rfl (sb_135_28 hJ hR ((l0 &&& 4294967295)))
    · refine wp1 rfl rfl ?_
      refine wp0 rfl rfl ?_
      refine wp0 rfl rfl ?_
      exact wpL rfl rfl (sb_135_28 hJ hR ((l0 &&& 255)))
theorem mf_135 {m : ms} (hJ : K m) (l0 : Int64) (l2 : Int32)  : tb_wp L xs 135 0 (lv_args 0 [.long l0, .int l2]) [] (HH s (MC m) D) (NJ 2 m s D) := sb_135_0 hJ RLr l0 l2
/- 140: FlagMachineModel.flags()J -/
set_option maxRecDepth 20000 in
theorem sb_140_75 {m m0 : ms} (hJ : K m) (hR : RL 2 m0 m) (k0 : Int64) (k1 : Int64)  : tb_wp L xs 140 75 [] [.long k1, .long k0] (HH s (MC m) D) (NJ 2 m0 s D) := by
  refine wp0 rfl rfl ?_
  exact wp5 rfl rfl ⟨_, hJ, hR, rfl, _, rfl⟩
set_option maxRecDepth 20000 in
theorem sb_140_60 {m m0 : ms} (hJ : K m) (hR : RL 2 m0 m) (k0 : Int64) (k1 : Int64)  : tb_wp L xs 140 60 [(0, .ref 24)] [.long k1, .long k0] (HH s (MC m) D) (NJ 2 m0 s D) := by
  refine wp0 rfl rfl ?_
  refine wp1 rfl rfl ?_
  refine wp3 rfl (am_getf rfl rfl) ?_
  refine wp2b rfl rfl (fun c1 => ?_) (fun c1 => ?_)
  · refine wp0 rfl rfl ?_
    exact wpL rfl rfl (sb_140_75 hJ hR ((k0 + k1)) (0))
  · refine wp0 rfl rfl ?_
    refine wp2 rfl rfl ?_
    exact wpL rfl rfl (sb_140_75 hJ hR ((k0 + k1)) (2048))
set_option maxRecDepth 20000 in
theorem sb_140_45 {m m0 : ms} (hJ : K m) (hR : RL 2 m0 m) (k0 : Int64) (k1 : Int64)  : tb_wp L xs 140 45 [(0, .ref 24)] [.long k1, .long k0] (HH s (MC m) D) (NJ 2 m0 s D) := by
  refine wp0 rfl rfl ?_
  refine wp1 rfl rfl ?_
  refine wp3 rfl (am_getf rfl rfl) ?_
  refine wp2b rfl rfl (fun c2 => ?_) (fun c2 => ?_)
  · refine wp0 rfl rfl ?_
    exact wpL rfl rfl (sb_140_60 hJ hR ((k0 + k1)) (0))
  · refine wp0 rfl rfl ?_
    refine wp2 rfl rfl ?_
    exact wpL rfl rfl (sb_140_60 hJ hR ((k0 + k1)) (128))
set_option maxRecDepth 20000 in
theorem sb_140_30 {m m0 : ms} (hJ : K m) (hR : RL 2 m0 m) (k0 : Int64) (k1 : Int64)  : tb_wp L xs 140 30 [(0, .ref 24)] [.long k1, .long k0] (HH s (MC m) D) (NJ 2 m0 s D) := by
  refine wp0 rfl rfl ?_
  refine wp1 rfl rfl ?_
  refine wp3 rfl (am_getf rfl rfl) ?_
  refine wp2b rfl rfl (fun c3 => ?_) (fun c3 => ?_)
  · refine wp0 rfl rfl ?_
    exact wpL rfl rfl (sb_140_45 hJ hR ((k0 + k1)) (0))
  · refine wp0 rfl rfl ?_
    refine wp2 rfl rfl ?_
    exact wpL rfl rfl (sb_140_45 hJ hR ((k0 + k1)) (64))
set_option maxRecDepth 20000 in
theorem sb_140_15 {m m0 : ms} (hJ : K m) (hR : RL 2 m0 m) (k0 : Int64) (k1 : Int64)  : tb_wp L xs 140 15 [(0, .ref 24)] [.long k1, .long k0] (HH s (MC m) D) (NJ 2 m0 s D) := by
  refine wp0 rfl rfl ?_
  refine wp1 rfl rfl ?_
  refine wp3 rfl (am_getf rfl rfl) ?_
  refine wp2b rfl rfl (fun c4 => ?_) (fun c4 => ?_)
  · refine wp0 rfl rfl ?_
    exact wpL rfl rfl (sb_140_30 hJ hR ((k0 + k1)) (0))
  · refine wp0 rfl rfl ?_
    refine wp2 rfl rfl ?_
    exact wpL rfl rfl (sb_140_30 hJ hR ((k0 + k1)) (4))
set_option maxRecDepth 20000 in
theorem sb_140_0 {m m0 : ms} (hJ : K m) (hR : RL 2 m0 m)   : tb_wp L xs 140 0 [(0, .ref 24)] [] (HH s (MC m) D) (NJ 2 m0 s D) := by
  refine wp0 rfl rfl ?_
  refine wp1 rfl rfl ?_
  refine wp3 rfl (am_getf rfl rfl) ?_
  refine wp2b rfl rfl (fun c5 => ?_) (fun c5 => ?_)
  · refine wp0 rfl rfl ?_
    exact wpL rfl rfl (sb_140_15 hJ hR (2) (0))
  · refine wp0 rfl rfl ?_
    refine wp2 rfl rfl ?_
    exact wpL rfl rfl (sb_140_15 hJ hR (2) (1))
theorem mf_140 {m : ms} (hJ : K m)   : tb_wp L xs 140 0 (lv_args 0 [.ref 24]) [] (HH s (MC m) D) (NJ 2 m s D) := sb_140_0 hJ RLr 
/- 142: FlagMachineModel.heapBegin()J -/
set_option maxRecDepth 20000 in
theorem sb_142_0 {m m0 : ms} (hJ : K m) (hR : RL 2 m0 m)   : tb_wp L xs 142 0 [(0, .ref 24)] [] (HH s (MC m) D) (NJ 2 m0 s D) := by
  refine wp0 rfl rfl ?_
  refine wp1 rfl rfl ?_
  refine wp3 rfl (am_getf rfl rfl) ?_
  refine wp0 rfl rfl ?_
  refine wp0 rfl rfl ?_
  refine wp0 rfl rfl ?_
  refine wp0 rfl rfl ?_
  refine wp0 rfl rfl ?_
  refine wp0 rfl rfl ?_
  exact wp5 rfl rfl ⟨_, hJ, hR, rfl, _, rfl⟩
theorem mf_142 {m : ms} (hJ : K m)   : tb_wp L xs 142 0 (lv_args 0 [.ref 24]) [] (HH s (MC m) D) (NJ 2 m s D) := sb_142_0 hJ RLr 
/- 144: FlagMachineModel.highUnsigned(JJ)J -/
set_option maxRecDepth 20000 in
theorem sb_144_0 {m m0 : ms} (hJ : K m) (hR : RL 2 m0 m) (l0 : Int64) (l2 : Int64)  : tb_wp L xs 144 0 [(0, .long l0), (2, .long l2)] [] (HH s (MC m) D) (NJ 2 m0 s D) := by
  refine wp1 rfl rfl ?_
  refine wp0 rfl rfl ?_
  refine wp0 rfl rfl ?_
  refine wpTl (fun z1 ez1 => ?_)
  refine wp1 rfl rfl ?_
  refine wpV (lv' := [(0, .long l0), (2, .long l2), (4, .long z1)]) rfl ?_
  refine wp1 rfl rfl ?_
  refine wp0 rfl rfl ?_
  refine wp0 rfl rfl ?_
  refine wpTl (fun z2 ez2 => ?_)
  refine wp1 rfl rfl ?_
  refine wpV (lv' := [(0, .long l0), (2, .long l2), (4, .long z1), (6, .long z2)]) rfl ?_
  refine wp1 rfl rfl ?_
  refine wp0 rfl rfl ?_
  refine wp0 rfl rfl ?_
  refine wpTl (fun z3 ez3 => ?_)
  refine wp1 rfl rfl ?_
  refine wpV (lv' := [(0, .long l0), (2, .long l2), (4, .long z1), (6, .long z2), (8, .long z3)]) rfl ?_
  refine wp1 rfl rfl ?_
  refine wp0 rfl rfl ?_
  refine wp0 rfl rfl ?_
  refine wpTl (fun z4 ez4 => ?_)
  refine wp1 rfl rfl ?_
  refine wpV (lv' := [(0, .long l0), (2, .long l2), (4, .long z1), (6, .long z2), (8, .long z3), (10, .long z4)]) rfl ?_
  refine wp1 rfl rfl ?_
  refine wp1 rfl rfl ?_
  refine wp0 rfl rfl ?_
  refine wpTl (fun z5 ez5 => ?_)
  refine wp1 rfl rfl ?_
  refine wpV (lv' := [(0, .long l0), (2, .long l2), (4, .long z1), (6, .long z2), (8, .long z3), (10, .long z4), (12, .long z5)]) rfl ?_
  refine wp1 rfl rfl ?_
  refine wp1 rfl rfl ?_
  refine wp0 rfl rfl ?_
  refine wp1 rfl rfl ?_
  refine wp0 rfl rfl ?_
  refine wp0 rfl rfl ?_
  refine wp0 rfl rfl ?_
  refine wpTl (fun z6 ez6 => ?_)
  refine wp1 rfl rfl ?_
  refine wpV (lv' := [(0, .long l0), (2, .long l2), (4, .long z1), (6, .long z2), (8, .long z3), (10, .long z4), (12, .long z5), (14, .long z6)]) rfl ?_
  refine wp1 rfl rfl ?_
  refine wp1 rfl rfl ?_
  refine wp0 rfl rfl ?_
  refine wp1 rfl rfl ?_
  refine wp0 rfl rfl ?_
  refine wp0 rfl rfl ?_
  refine wp0 rfl rfl ?_
  refine wpTl (fun z7 ez7 => ?_)
  refine wp1 rfl rfl ?_
  refine wpV (lv' := [(0, .long l0), (2, .long l2), (4, .long z1), (6, .long z2), (8, .long z3), (10, .long z4), (12, .long z5), (14, .long z6), (16, .long z7)]) rfl ?_
  refine wp1 rfl rfl ?_
  refine wp1 rfl rfl ?_
  refine wp0 rfl rfl ?_
  refine wp1 rfl rfl ?_
  refine wp0 rfl rfl ?_
  refine wp0 rfl rfl ?_
  refine wp0 rfl rfl ?_
  refine wp1 rfl rfl ?_
  refine wp0 rfl rfl ?_
  refine wp0 rfl rfl ?_
  refine wp0 rfl rfl ?_
  exact wp5 rfl rfl ⟨_, hJ, hR, rfl, _, rfl⟩
theorem mf_144 {m : ms} (hJ : K m) (l0 : Int64) (l2 : Int64)  : tb_wp L xs 144 0 (lv_args 0 [.long l0, .long l2]) [] (HH s (MC m) D) (NJ 2 m s D) := sb_144_0 hJ RLr l0 l2
/- 146: FlagMachineModel.isEither(I)Z -/
set_option maxRecDepth 20000 in
theorem sb_146_25 {m m0 : ms} (hJ : K m) (hR : RL 2 m0 m) (k0 : Int32) (hb_k0 : b01 k0) : tb_wp L xs 146 25 [] [.int k0] (HH s (MC m) D) (NZ 2 m0 s D) := by
  exact wp5z rfl rfl hb_k0 ⟨_, hJ, hR, rfl, _, rfl, hb_k0⟩
set_option maxRecDepth 20000 in
theorem sb_146_20 {m m0 : ms} (hJ : K m) (hR : RL 2 m0 m)   : tb_wp L xs 146 20 [] [] (HH s (MC m) D) (NZ 2 m0 s D) := by
  refine wp0 rfl rfl ?_
  refine wp2 rfl rfl ?_
  exact wpL rfl rfl (sb_146_25 hJ hR (1) b1)
set_option maxRecDepth 20000 in
theorem sb_146_0 {m m0 : ms} (hJ : K m) (hR : RL 2 m0 m) (l1 : Int32) (hi_l1 : am_in l1 3 = true) : tb_wp L xs 146 0 [(0, .ref 24), (1, .int l1)] [] (HH s (MC m) D) (NZ 2 m0 s D) := by
  refine wp1 rfl rfl ?_
  refine wp3 rfl (am_getf rfl rfl) ?_
  refine wp1 rfl rfl ?_
  refine wp3 rfl (am_iald rfl hi_l1) ?_
  refine wp0 rfl rfl ?_
  refine wp2b rfl rfl (fun c1 => ?_) (fun c1 => ?_)
  · exact wpL rfl rfl (sb_146_20 hJ hR )
  · refine wp1 rfl rfl ?_
    refine wp3 rfl (am_getf rfl rfl) ?_
    refine wp1 rfl rfl ?_
    refine wp3 rfl (am_iald rfl hi_l1) ?_
    refine wp0 rfl rfl ?_
    refine wp2b rfl rfl (fun c2 => ?_) (fun c2 => ?_)
    · exact wpL rfl rfl (sb_146_20 hJ hR )
    · refine wp0 rfl rfl ?_
      exact wpL rfl rfl (sb_146_25 hJ hR (0) b0)
theorem mf_146 {m : ms} (hJ : K m) (l1 : Int32) (hi_l1 : am_in l1 3 = true) : tb_wp L xs 146 0 (lv_args 0 [.ref 24, .int l1]) [] (HH s (MC m) D) (NZ 2 m s D) := sb_146_0 hJ RLr l1 hi_l1
/- 147: FlagMachineModel.isMet(I)Z -/
set_option maxRecDepth 20000 in
theorem sb_147_156 {m m0 : ms} (hJ : K m) (hR : RL 2 m0 m) (k0 : Int32) (hb_k0 : b01 k0) : tb_wp L xs 147 156 [] [.int k0] (HH s (MC m) D) (NZ 2 m0 s D) := by
  exact wp5z rfl rfl hb_k0 ⟨_, hJ, hR, rfl, _, rfl, hb_k0⟩
set_option maxRecDepth 20000 in
theorem sb_147_148 {m m0 : ms} (hJ : K m) (hR : RL 2 m0 m) (k0 : Int32) (k1 : Int32) (hb_k0 : b01 k0) (hb_k1 : b01 k1) : tb_wp L xs 147 148 [] [.int k1, .int k0] (HH s (MC m) D) (NZ 2 m0 s D) := by
  refine wp2b rfl rfl (fun c1 => ?_) (fun c1 => ?_)
  · refine wp0 rfl rfl ?_
    refine wp2 rfl rfl ?_
    exact wpL rfl rfl (sb_147_156 hJ hR (1) b1)
  · refine wp0 rfl rfl ?_
    exact wpL rfl rfl (sb_147_156 hJ hR (0) b0)
set_option maxRecDepth 20000 in
theorem sb_147_133 {m m0 : ms} (hJ : K m) (hR : RL 2 m0 m) (l1 : Int32) (k0 : Int32) (hb_k0 : b01 k0) : tb_wp L xs 147 133 [(1, .int l1)] [.int k0] (HH s (MC m) D) (NZ 2 m0 s D) := by
  refine wp1 rfl rfl ?_
  refine wpV (lv' := [(1, .int l1), (4, .int k0)]) rfl ?_
  refine wp1 rfl rfl ?_
  refine wp1 rfl rfl ?_
  refine wp0 rfl rfl ?_
  refine wp0 rfl rfl ?_
  refine wp2b rfl rfl (fun c2 => ?_) (fun c2 => ?_)
  · refine wp0 rfl rfl ?_
    refine wp2 rfl rfl ?_
    exact wpL rfl rfl (sb_147_148 hJ hR (k0) (1) hb_k0 b1)
  · refine wp0 rfl rfl ?_
    exact wpL rfl rfl (sb_147_148 hJ hR (k0) (0) hb_k0 b0)
set_option maxRecDepth 20000 in
theorem sb_147_128 {m m0 : ms} (hJ : K m) (hR : RL 2 m0 m) (l1 : Int32)  : tb_wp L xs 147 128 [(1, .int l1)] [] (HH s (MC m) D) (NZ 2 m0 s D) := by
  refine wp0 rfl rfl ?_
  refine wp2 rfl rfl ?_
  exact wpL rfl rfl (sb_147_133 hJ hR (l1) (1) b1)
set_option maxRecDepth 20000 in
theorem sb_147_75 {m m0 : ms} (hJ : K m) (hR : RL 2 m0 m) (l1 : Int32)  : tb_wp L xs 147 75 [(1, .int l1)] [] (HH s (MC m) D) (NZ 2 m0 s D) := by
  refine wp0 rfl rfl ?_
  refine wp2 rfl rfl ?_
  exact wpL rfl rfl (sb_147_133 hJ hR (l1) (1) b1)
set_option maxRecDepth 20000 in
theorem sb_147_20 {m m0 : ms} (hJ : K m) (hR : RL 2 m0 m) (l1 : Int32) (l2 : Int32) (k0 : Int32) (hb_k0 : b01 k0) : tb_wp L xs 147 20 [(0, .ref 24), (1, .int l1), (2, .int l2)] [.int k0] (HH s (MC m) D) (NZ 2 m0 s D) := by
  refine wp1 rfl rfl ?_
  refine wpV (lv' := [(0, .ref 24), (1, .int l1), (2, .int l2), (3, .int k0)]) rfl ?_
  refine wp1 rfl rfl ?_
  refine wp2b rfl rfl (fun c3 => ?_) (fun c3 => ?_)
  · refine wp1 rfl rfl ?_
    refine wp3 rfl (am_getf rfl rfl) ?_
    refine wp2 rfl rfl ?_
    exact wpL rfl rfl (sb_147_133 hJ hR (l1) ((q_over m)) hJ.2.2.2.2.1)
  · refine wp1 rfl rfl ?_
    refine wp0 rfl rfl ?_
    refine wp2b rfl rfl (fun c4 => ?_) (fun c4 => ?_)
    · refine wp1 rfl rfl ?_
      refine wp3 rfl (am_getf rfl rfl) ?_
      refine wp2 rfl rfl ?_
      exact wpL rfl rfl (sb_147_133 hJ hR (l1) ((q_carry m)) hJ.1)
    · refine wp1 rfl rfl ?_
      refine wp0 rfl rfl ?_
      refine wp2b rfl rfl (fun c5 => ?_) (fun c5 => ?_)
      · refine wp1 rfl rfl ?_
        refine wp3 rfl (am_getf rfl rfl) ?_
        refine wp2 rfl rfl ?_
        exact wpL rfl rfl (sb_147_133 hJ hR (l1) ((q_zero m)) hJ.2.2.1)
      · refine wp1 rfl rfl ?_
        refine wp0 rfl rfl ?_
        refine wp2b rfl rfl (fun c6 => ?_) (fun c6 => ?_)
        · refine wp1 rfl rfl ?_
          refine wp3 rfl (am_getf rfl rfl) ?_
          refine wp2b rfl rfl (fun c7 => ?_) (fun c7 => ?_)
          · refine wp1 rfl rfl ?_
            refine wp3 rfl (am_getf rfl rfl) ?_
            refine wp2b rfl rfl (fun c8 => ?_) (fun c8 => ?_)
            · refine wp0 rfl rfl ?_
              refine wp2 rfl rfl ?_
              exact wpL rfl rfl (sb_147_133 hJ hR (l1) (0) b0)
            · exact wpL rfl rfl (sb_147_75 hJ hR (l1))
          · exact wpL rfl rfl (sb_147_75 hJ hR (l1))
        · refine wp1 rfl rfl ?_
          refine wp0 rfl rfl ?_
          refine wp2b rfl rfl (fun c9 => ?_) (fun c9 => ?_)
          · refine wp1 rfl rfl ?_
            refine wp3 rfl (am_getf rfl rfl) ?_
            refine wp2 rfl rfl ?_
            exact wpL rfl rfl (sb_147_133 hJ hR (l1) ((q_negative m)) hJ.2.2.2.1)
          · refine wp1 rfl rfl ?_
            refine wp0 rfl rfl ?_
            refine wp2b rfl rfl (fun c10 => ?_) (fun c10 => ?_)
            · refine wp1 rfl rfl ?_
              refine wp3 rfl (am_getf rfl rfl) ?_
              refine wp2 rfl rfl ?_
              exact wpL rfl rfl (sb_147_133 hJ hR (l1) ((q_parity m)) hJ.2.1)
            · refine wp1 rfl rfl ?_
              refine wp0 rfl rfl ?_
              refine wp2b rfl rfl (fun c11 => ?_) (fun c11 => ?_)
              · refine wp1 rfl rfl ?_
                refine wp2 rfl rfl ?_
                exact wpL rfl rfl (sb_147_133 hJ hR (l1) (k0) hb_k0)
              · refine wp1 rfl rfl ?_
                refine wp3 rfl (am_getf rfl rfl) ?_
                refine wp2b rfl rfl (fun c12 => ?_) (fun c12 => ?_)
                · refine wp1 rfl rfl ?_
                  refine wp2b rfl rfl (fun c13 => ?_) (fun c13 => ?_)
                  · refine wp0 rfl rfl ?_
                    exact wpL rfl rfl (sb_147_133 hJ hR (l1) (0) b0)
                  · exact wpL rfl rfl (sb_147_128 hJ hR (l1))
                · exact wpL rfl rfl (sb_147_128 hJ hR (l1))
set_option maxRecDepth 20000 in
theorem sb_147_0 {m m0 : ms} (hJ : K m) (hR : RL 2 m0 m) (l1 : Int32)  : tb_wp L xs 147 0 [(0, .ref 24), (1, .int l1)] [] (HH s (MC m) D) (NZ 2 m0 s D) := by
  refine wp1 rfl rfl ?_
  refine wp0 rfl rfl ?_
  refine wp0 rfl rfl ?_
  refine wpTi (fun z14 ez14 => ?_)
  refine wp1 rfl rfl ?_
  refine wpV (lv' := [(0, .ref 24), (1, .int l1), (2, .int z14)]) rfl ?_
  refine wp1 rfl rfl ?_
  refine wp3 rfl (am_getf rfl rfl) ?_
  refine wp1 rfl rfl ?_
  refine wp3 rfl (am_getf rfl rfl) ?_
  refine wp2b rfl rfl (fun c15 => ?_) (fun c15 => ?_)
  · refine wp0 rfl rfl ?_
    exact wpL rfl rfl (sb_147_20 hJ hR (l1) (z14) (0) b0)
  · refine wp0 rfl rfl ?_
    refine wp2 rfl rfl ?_
    exact wpL rfl rfl (sb_147_20 hJ hR (l1) (z14) (1) b1)
theorem mf_147 {m : ms} (hJ : K m) (l1 : Int32)  : tb_wp L xs 147 0 (lv_args 0 [.ref 24, .int l1]) [] (HH s (MC m) D) (NZ 2 m s D) := sb_147_0 hJ RLr l1
/- 148: FlagMachineModel.isNumber(IJJ)Z -/
set_option maxRecDepth 20000 in
theorem sb_148_34 {m m0 : ms} (hJ : K m) (hR : RL 2 m0 m) (k0 : Int32) (hb_k0 : b01 k0) : tb_wp L xs 148 34 [] [.int k0] (HH s (MC m) D) (NZ 2 m0 s D) := by
  exact wp5z rfl rfl hb_k0 ⟨_, hJ, hR, rfl, _, rfl, hb_k0⟩
set_option maxRecDepth 20000 in
theorem sb_148_33 {m m0 : ms} (hJ : K m) (hR : RL 2 m0 m)   : tb_wp L xs 148 33 [] [] (HH s (MC m) D) (NZ 2 m0 s D) := by
  refine wp0 rfl rfl ?_
  exact wpL rfl rfl (sb_148_34 hJ hR (0) b0)
set_option maxRecDepth 20000 in
theorem sb_148_0 {m m0 : ms} (hJ : K m) (hR : RL 2 m0 m) (l1 : Int32) (l2 : Int64) (l4 : Int64) (hi_l1 : am_in l1 3 = true) : tb_wp L xs 148 0 [(0, .ref 24), (1, .int l1), (2, .long l2), (4, .long l4)] [] (HH s (MC m) D) (NZ 2 m0 s D) := by
  refine wp1 rfl rfl ?_
  refine wp3 rfl (am_getf rfl rfl) ?_
  refine wp1 rfl rfl ?_
  refine wp3 rfl (am_iald rfl hi_l1) ?_
  refine wp0 rfl rfl ?_
  refine wp2b rfl rfl (fun c1 => ?_) (fun c1 => ?_)
  · refine wp1 rfl rfl ?_
    refine wp3 rfl (am_getf rfl rfl) ?_
    refine wp1 rfl rfl ?_
    refine wp0 rfl rfl ?_
    refine wp2b rfl rfl (fun c2 => ?_) (fun c2 => ?_)
    · exact wpL rfl rfl (sb_148_33 hJ hR )
    · refine wp1 rfl rfl ?_
      refine wp3 rfl (am_getf rfl rfl) ?_
      refine wp1 rfl rfl ?_
      refine wp0 rfl rfl ?_
      refine wp2b rfl rfl (fun c3 => ?_) (fun c3 => ?_)
      · exact wpL rfl rfl (sb_148_33 hJ hR )
      · refine wp0 rfl rfl ?_
        refine wp2 rfl rfl ?_
        exact wpL rfl rfl (sb_148_34 hJ hR (1) b1)
  · exact wpL rfl rfl (sb_148_33 hJ hR )
theorem mf_148 {m : ms} (hJ : K m) (l1 : Int32) (l2 : Int64) (l4 : Int64) (hi_l1 : am_in l1 3 = true) : tb_wp L xs 148 0 (lv_args 0 [.ref 24, .int l1, .long l2, .long l4]) [] (HH s (MC m) D) (NZ 2 m s D) := sb_148_0 hJ RLr l1 l2 l4 hi_l1
/- 149: FlagMachineModel.isPlain(I)Z -/
set_option maxRecDepth 20000 in
theorem sb_149_67 {m m0 : ms} (hJ : K m) (hR : RL 2 m0 m) (k0 : Int32) (hb_k0 : b01 k0) : tb_wp L xs 149 67 [] [.int k0] (HH s (MC m) D) (NZ 2 m0 s D) := by
  exact wp5z rfl rfl hb_k0 ⟨_, hJ, hR, rfl, _, rfl, hb_k0⟩
set_option maxRecDepth 20000 in
theorem sb_149_34 {m m0 : ms} (hJ : K m) (hR : RL 2 m0 m) (l1 : Int32) (hi_l1 : am_in l1 3 = true) : tb_wp L xs 149 34 [(0, .ref 24), (1, .int l1)] [] (HH s (MC m) D) (NZ 2 m0 s D) := by
  refine wp1 rfl rfl ?_
  refine wp3 rfl (am_getf rfl rfl) ?_
  refine wp0 rfl rfl ?_
  refine wp2b rfl rfl (fun c1 => ?_) (fun c1 => ?_)
  · refine wp1 rfl rfl ?_
    refine wp1 rfl rfl ?_
    refine wp0 rfl rfl ?_
    refine wp0 rfl rfl ?_
    refine wp4 rfl rfl (mf_148 hJ (l1) ((-128)) (127) hi_l1) (fun rv h1 hq => ?_)
    obtain ⟨s3, hJ5, D4, rfl, x6, rfl, hb_x6⟩ := hq
    refine wp2 rfl rfl ?_
    exact wpL rfl rfl (sb_149_67 hJ5 (RLt hR D4) (x6) hb_x6)
  · refine wp1 rfl rfl ?_
    refine wp1 rfl rfl ?_
    refine wp0 rfl rfl ?_
    refine wp0 rfl rfl ?_
    refine wp4 rfl rfl (mf_148 hJ (l1) ((-2147483648)) (2147483647) hi_l1) (fun rv h1 hq => ?_)
    obtain ⟨s8, hJ10, D9, rfl, x11, rfl, hb_x11⟩ := hq
    exact wpL rfl rfl (sb_149_67 hJ10 (RLt hR D9) (x11) hb_x11)
set_option maxRecDepth 20000 in
theorem sb_149_33 {m m0 : ms} (hJ : K m) (hR : RL 2 m0 m) (k0 : Int32) (hb_k0 : b01 k0) : tb_wp L xs 149 33 [] [.int k0] (HH s (MC m) D) (NZ 2 m0 s D) := by
  exact wp5z rfl rfl hb_k0 ⟨_, hJ, hR, rfl, _, rfl, hb_k0⟩
set_option maxRecDepth 20000 in
theorem sb_149_0 {m m0 : ms} (hJ : K m) (hR : RL 2 m0 m) (l1 : Int32) (hi_l1 : am_in l1 3 = true) : tb_wp L xs 149 0 [(0, .ref 24), (1, .int l1)] [] (HH s (MC m) D) (NZ 2 m0 s D) := by
  refine wp1 rfl rfl ?_
  refine wp3 rfl (am_getf rfl rfl) ?_
  refine wp0 rfl rfl ?_
  refine wp2b rfl rfl (fun c12 => ?_) (fun c12 => ?_)
  · refine wp1 rfl rfl ?_
    refine wp3 rfl (am_getf rfl rfl) ?_
    refine wp0 rfl rfl ?_
    refine wp2b rfl rfl (fun c13 => ?_) (fun c13 => ?_)
    · refine wp1 rfl rfl ?_
      refine wp3 rfl (am_getf rfl rfl) ?_
      refine wp1 rfl rfl ?_
      refine wp3 rfl (am_iald rfl hi_l1) ?_
      refine wp0 rfl rfl ?_
      refine wp2b rfl rfl (fun c14 => ?_) (fun c14 => ?_)
      · refine wp0 rfl rfl ?_
        refine wp2 rfl rfl ?_
        exact wpL rfl rfl (sb_149_33 hJ hR (1) b1)
      · refine wp0 rfl rfl ?_
        exact wpL rfl rfl (sb_149_33 hJ hR (0) b0)
    · exact wpL rfl rfl (sb_149_34 hJ hR (l1) hi_l1)
  · exact wpL rfl rfl (sb_149_34 hJ hR (l1) hi_l1)
theorem mf_149 {m : ms} (hJ : K m) (l1 : Int32) (hi_l1 : am_in l1 3 = true) : tb_wp L xs 149 0 (lv_args 0 [.ref 24, .int l1]) [] (HH s (MC m) D) (NZ 2 m s D) := sb_149_0 hJ RLr l1 hi_l1
/- 154: FlagMachineModel.memory(IIII)V -/
set_option maxRecDepth 20000 in
theorem sb_154_0 {m m0 : ms} (hJ : K m) (hR : RL 0 m0 m) (l1 : Int32) (l2 : Int32) (l3 : Int32) (l4 : Int32)  : tb_wp L xs 154 0 [(0, .ref 24), (1, .int l1), (2, .int l2), (3, .int l3), (4, .int l4)] [] (HH s (MC m) D) (NV 0 m0 s D) := by
  refine wp1 rfl rfl ?_
  refine wp0 rfl rfl ?_
  refine wp3 rfl (am_putf rfl (Nat.le_of_ble_eq_true rfl) rfl rfl) ?_
  have hJ1 : K (t_thrown m 0) := hJ
  refine wpH (h' := HH s (MC (t_thrown m 0)) D) rfl ?_
  refine wp1 rfl rfl ?_
  refine wp1 rfl rfl ?_
  refine wp3 rfl (am_putf rfl (Nat.le_of_ble_eq_true rfl) rfl rfl) ?_
  have hJ2 : K (t_base (t_thrown m 0) l1) := hJ1
  refine wpH (h' := HH s (MC (t_base (t_thrown m 0) l1)) D) rfl ?_
  refine wp1 rfl rfl ?_
  refine wp1 rfl rfl ?_
  refine wp3 rfl (am_putf rfl (Nat.le_of_ble_eq_true rfl) rfl rfl) ?_
  have hJ3 : K (t_index (t_base (t_thrown m 0) l1) l2) := hJ2
  refine wpH (h' := HH s (MC (t_index (t_base (t_thrown m 0) l1) l2)) D) rfl ?_
  refine wp1 rfl rfl ?_
  refine wp1 rfl rfl ?_
  refine wp3 rfl (am_putf rfl (Nat.le_of_ble_eq_true rfl) rfl rfl) ?_
  have hJ4 : K (t_scale (t_index (t_base (t_thrown m 0) l1) l2) l3) := hJ3
  refine wpH (h' := HH s (MC (t_scale (t_index (t_base (t_thrown m 0) l1) l2) l3)) D) rfl ?_
  refine wp1 rfl rfl ?_
  refine wp1 rfl rfl ?_
  refine wp3 rfl (am_putf rfl (Nat.le_of_ble_eq_true rfl) rfl rfl) ?_
  have hJ5 : K (t_displacement (t_scale (t_index (t_base (t_thrown m 0) l1) l2) l3) l4) := hJ4
  refine wpH (h' := HH s (MC (t_displacement (t_scale (t_index (t_base (t_thrown m 0) l1) l2) l3) l4)) D) rfl ?_
  exact wp5 rfl rfl ⟨_, hJ5, RL0, rfl, rfl⟩
theorem mf_154 {m : ms} (hJ : K m) (l1 : Int32) (l2 : Int32) (l3 : Int32) (l4 : Int32)  : tb_wp L xs 154 0 (lv_args 0 [.ref 24, .int l1, .int l2, .int l3, .int l4]) [] (HH s (MC m) D) (NV 0 m s D) := sb_154_0 hJ RLr l1 l2 l3 l4
/- 155: FlagMachineModel.memoryFits()Z -/
set_option maxRecDepth 20000 in
theorem sb_155_121 {m m0 : ms} (hJ : K m) (hR : RL 2 m0 m) (k0 : Int32) (hb_k0 : b01 k0) : tb_wp L xs 155 121 [] [.int k0] (HH s (MC m) D) (NZ 2 m0 s D) := by
  exact wp5z rfl rfl hb_k0 ⟨_, hJ, hR, rfl, _, rfl, hb_k0⟩
set_option maxRecDepth 20000 in
theorem sb_155_120 {m m0 : ms} (hJ : K m) (hR : RL 2 m0 m)   : tb_wp L xs 155 120 [] [] (HH s (MC m) D) (NZ 2 m0 s D) := by
  refine wp0 rfl rfl ?_
  exact wpL rfl rfl (sb_155_121 hJ hR (0) b0)
set_option maxRecDepth 20000 in
theorem sb_155_116 {m m0 : ms} (hJ : K m) (hR : RL 2 m0 m)   : tb_wp L xs 155 116 [] [] (HH s (MC m) D) (NZ 2 m0 s D) := by
  refine wp0 rfl rfl ?_
  refine wp2 rfl rfl ?_
  exact wpL rfl rfl (sb_155_121 hJ hR (1) b1)
set_option maxRecDepth 20000 in
theorem sb_155_100 {m m0 : ms} (hJ : K m) (hR : RL 2 m0 m)   : tb_wp L xs 155 100 [(0, .ref 24)] [] (HH s (MC m) D) (NZ 2 m0 s D) := by
  refine wp1 rfl rfl ?_
  refine wp3 rfl (am_getf rfl rfl) ?_
  refine wp0 rfl rfl ?_
  refine wp2b rfl rfl (fun c1 => ?_) (fun c1 => ?_)
  · refine wp1 rfl rfl ?_
    refine wp3 rfl (am_getf rfl rfl) ?_
    refine wp2b rfl rfl (fun c2 => ?_) (fun c2 => ?_)
    · exact wpL rfl rfl (sb_155_120 hJ hR )
    · exact wpL rfl rfl (sb_155_116 hJ hR )
  · exact wpL rfl rfl (sb_155_116 hJ hR )
set_option maxRecDepth 20000 in
theorem sb_155_38 {m m0 : ms} (hJ : K m) (hR : RL 2 m0 m) (k0 : Int32) (hb_k0 : b01 k0) : tb_wp L xs 155 38 [(0, .ref 24)] [.int k0] (HH s (MC m) D) (NZ 2 m0 s D) := by
  refine wp1 rfl rfl ?_
  refine wpV (lv' := [(0, .ref 24), (1, .int k0)]) rfl ?_
  refine wp1 rfl rfl ?_
  refine wp3 rfl (am_getf rfl rfl) ?_
  refine wp0 rfl rfl ?_
  refine wp2b rfl rfl (fun c3 => ?_) (fun c3 => ?_)
  · exact wpL rfl rfl (sb_155_120 hJ hR )
  · refine wp1 rfl rfl ?_
    refine wp3 rfl (am_getf rfl rfl) ?_
    refine wp0 rfl rfl ?_
    refine wp2b rfl rfl (fun c4 => ?_) (fun c4 => ?_)
    · exact wpL rfl rfl (sb_155_120 hJ hR )
    · refine wp1 rfl rfl ?_
      refine wp3 rfl (am_getf rfl rfl) ?_
      refine wp0 rfl rfl ?_
      refine wp2b rfl rfl (fun c5 => ?_) (fun c5 => ?_)
      · exact wpL rfl rfl (sb_155_120 hJ hR )
      · refine wp1 rfl rfl ?_
        refine wp3 rfl (am_getf rfl rfl) ?_
        refine wp0 rfl rfl ?_
        refine wp2b rfl rfl (fun c6 => ?_) (fun c6 => ?_)
        · exact wpL rfl rfl (sb_155_120 hJ hR )
        · refine wp1 rfl rfl ?_
          refine wp3 rfl (am_getf rfl rfl) ?_
          refine wp0 rfl rfl ?_
          refine wp2b rfl rfl (fun c7 => ?_) (fun c7 => ?_)
          · exact wpL rfl rfl (sb_155_120 hJ hR )
          · refine wp1 rfl rfl ?_
            refine wp2b rfl rfl (fun c8 => ?_) (fun c8 => ?_)
            · exact wpL rfl rfl (sb_155_120 hJ hR )
            · refine wp1 rfl rfl ?_
              refine wp3 rfl (am_getf rfl rfl) ?_
              refine wp2b rfl rfl (fun c9 => ?_) (fun c9 => ?_)
              · exact wpL rfl rfl (sb_155_100 hJ hR )
              · refine wp1 rfl rfl ?_
                refine wp3 rfl (am_getf rfl rfl) ?_
                refine wp0 rfl rfl ?_
                refine wp2b rfl rfl (fun c10 => ?_) (fun c10 => ?_)
                · exact wpL rfl rfl (sb_155_100 hJ hR )
                · exact wpL rfl rfl (sb_155_120 hJ hR )
set_option maxRecDepth 20000 in
theorem sb_155_33 {m m0 : ms} (hJ : K m) (hR : RL 2 m0 m)   : tb_wp L xs 155 33 [(0, .ref 24)] [] (HH s (MC m) D) (NZ 2 m0 s D) := by
  refine wp0 rfl rfl ?_
  refine wp2 rfl rfl ?_
  exact wpL rfl rfl (sb_155_38 hJ hR (1) b1)
set_option maxRecDepth 20000 in
theorem sb_155_0 {m m0 : ms} (hJ : K m) (hR : RL 2 m0 m)   : tb_wp L xs 155 0 [(0, .ref 24)] [] (HH s (MC m) D) (NZ 2 m0 s D) := by
  refine wp1 rfl rfl ?_
  refine wp3 rfl (am_getf rfl rfl) ?_
  refine wp0 rfl rfl ?_
  refine wp2b rfl rfl (fun c11 => ?_) (fun c11 => ?_)
  · exact wpL rfl rfl (sb_155_33 hJ hR )
  · refine wp1 rfl rfl ?_
    refine wp3 rfl (am_getf rfl rfl) ?_
    refine wp0 rfl rfl ?_
    refine wp2b rfl rfl (fun c12 => ?_) (fun c12 => ?_)
    · exact wpL rfl rfl (sb_155_33 hJ hR )
    · refine wp1 rfl rfl ?_
      refine wp3 rfl (am_getf rfl rfl) ?_
      refine wp0 rfl rfl ?_
      refine wp2b rfl rfl (fun c13 => ?_) (fun c13 => ?_)
      · exact wpL rfl rfl (sb_155_33 hJ hR )
      · refine wp1 rfl rfl ?_
        refine wp3 rfl (am_getf rfl rfl) ?_
        refine wp0 rfl rfl ?_
        refine wp2b rfl rfl (fun c14 => ?_) (fun c14 => ?_)
        · exact wpL rfl rfl (sb_155_33 hJ hR )
        · refine wp0 rfl rfl ?_
          exact wpL rfl rfl (sb_155_38 hJ hR (0) b0)
theorem mf_155 {m : ms} (hJ : K m)   : tb_wp L xs 155 0 (lv_args 0 [.ref 24]) [] (HH s (MC m) D) (NZ 2 m s D) := sb_155_0 hJ RLr 
/- 158: FlagMachineModel.number(J)V -/
set_option maxRecDepth 20000 in
theorem sb_158_0 {m m0 : ms} (hJ : K m) (hR : RL 0 m0 m) (l1 : Int64)  : tb_wp L xs 158 0 [(0, .ref 24), (1, .long l1)] [] (HH s (MC m) D) (NV 0 m0 s D) := by
  refine wp1 rfl rfl ?_
  refine wp0 rfl rfl ?_
  refine wp3 rfl (am_putf rfl (Nat.le_of_ble_eq_true rfl) rfl rfl) ?_
  have hJ1 : K (t_thrown m 0) := hJ
  refine wpH (h' := HH s (MC (t_thrown m 0)) D) rfl ?_
  refine wp1 rfl rfl ?_
  refine wp1 rfl rfl ?_
  refine wp3 rfl (am_putf rfl (Nat.le_of_ble_eq_true rfl) rfl rfl) ?_
  have hJ2 : K (t_number (t_thrown m 0) l1) := hJ1
  refine wpH (h' := HH s (MC (t_number (t_thrown m 0) l1)) D) rfl ?_
  exact wp5 rfl rfl ⟨_, hJ2, RL0, rfl, rfl⟩
theorem mf_158 {m : ms} (hJ : K m) (l1 : Int64)  : tb_wp L xs 158 0 (lv_args 0 [.ref 24, .long l1]) [] (HH s (MC m) D) (NV 0 m s D) := sb_158_0 hJ RLr l1
/- 159: FlagMachineModel.op(III)V -/
set_option maxRecDepth 20000 in
theorem sb_159_23 (n : Nat) : ∀ {m m0 : ms} (hJ : K m) (hR : RL 0 m0 m) (l4 : Int32) (hn_l4 : 0 ≤ Int32.toInt l4) (hm : ((3 : Int32).toInt - (l4 : Int32).toInt).toNat < n), tb_wp L xs 159 23 [(0, .ref 24), (4, .int l4)] [] (HH s (MC m) D) (NV 0 m0 s D) := by
  induction n with
  | zero => intro m m0 hJ hR l4 hn_l4 hm; exact absurd hm (Nat.not_lt_zero _)
  | succ n ih =>
    intro m m0 hJ hR l4 hn_l4 hm
    refine wp1 rfl rfl ?_
    refine wp0 rfl rfl ?_
    refine wp2b rfl rfl (fun c1 => ?_) (fun c1 => ?_)
    · exact wp5 rfl rfl ⟨_, hJ, hR, rfl, rfl⟩
    · refine wp1 rfl rfl ?_
      refine wp3 rfl (am_getf rfl rfl) ?_
      refine wp1 rfl rfl ?_
      refine wp0 rfl rfl ?_
      refine wp3 rfl (am_iast rfl (by simp only [Int32.lt_iff_toInt_lt, Int32.le_iff_toInt_le, ← Int32.toInt_inj] at c1; have hnn := hn_l4; have e0 : (3 : Int32).toInt = 3 := rfl; have g0 : (Int32.ofNat 3).toInt = 3 := rfl; exact am_in_of (by omega) (by omega))) ?_
      have hJ2 : K (t_kinds m (upd (q_kinds m) (Int32.toNatClampNeg l4) 0)) := hJ
      refine wpH (h' := HH s (MC (t_kinds m (upd (q_kinds m) (Int32.toNatClampNeg l4) 0))) D) rfl ?_
      refine wp1 rfl rfl ?_
      refine wp3 rfl (am_getf rfl rfl) ?_
      refine wp1 rfl rfl ?_
      refine wp0 rfl rfl ?_
      refine wp3 rfl (am_iast rfl (by simp only [Int32.lt_iff_toInt_lt, Int32.le_iff_toInt_le, ← Int32.toInt_inj] at c1; have hnn := hn_l4; have e0 : (3 : Int32).toInt = 3 := rfl; have g0 : (Int32.ofNat 3).toInt = 3 := rfl; exact am_in_of (by omega) (by omega))) ?_
      have hJ3 : K (t_places (t_kinds m (upd (q_kinds m) (Int32.toNatClampNeg l4) 0)) (upd (q_places (t_kinds m (upd (q_kinds m) (Int32.toNatClampNeg l4) 0))) (Int32.toNatClampNeg l4) 0)) := K_places hJ2 (by decide)
      refine wpH (h' := HH s (MC (t_places (t_kinds m (upd (q_kinds m) (Int32.toNatClampNeg l4) 0)) (upd (q_places (t_kinds m (upd (q_kinds m) (Int32.toNatClampNeg l4) 0))) (Int32.toNatClampNeg l4) 0))) D) rfl ?_
      refine wp1 rfl rfl ?_
      refine wpV (lv' := [(0, .ref 24), (4, .int (l4 + 1))]) rfl ?_
      refine wp2 rfl rfl ?_
      exact wpL rfl rfl (ih hJ3 RL0 ((l4 + 1)) (i32_upp c1 hn_l4) (i32_up c1 hm))
set_option maxRecDepth 20000 in
theorem sb_159_0 {m m0 : ms} (hJ : K m) (hR : RL 0 m0 m) (l1 : Int32) (l2 : Int32) (l3 : Int32)  : tb_wp L xs 159 0 [(0, .ref 24), (1, .int l1), (2, .int l2), (3, .int l3)] [] (HH s (MC m) D) (NV 0 m0 s D) := by
  refine wp1 rfl rfl ?_
  refine wp0 rfl rfl ?_
  refine wp3 rfl (am_putf rfl (Nat.le_of_ble_eq_true rfl) rfl rfl) ?_
  have hJ4 : K (t_thrown m 0) := hJ
  refine wpH (h' := HH s (MC (t_thrown m 0)) D) rfl ?_
  refine wp1 rfl rfl ?_
  refine wp1 rfl rfl ?_
  refine wp3 rfl (am_putf rfl (Nat.le_of_ble_eq_true rfl) rfl rfl) ?_
  have hJ5 : K (t_op (t_thrown m 0) l1) := hJ4
  refine wpH (h' := HH s (MC (t_op (t_thrown m 0) l1)) D) rfl ?_
  refine wp1 rfl rfl ?_
  refine wp1 rfl rfl ?_
  refine wp3 rfl (am_putf rfl (Nat.le_of_ble_eq_true rfl) rfl rfl) ?_
  have hJ6 : K (t_width (t_op (t_thrown m 0) l1) l2) := hJ5
  refine wpH (h' := HH s (MC (t_width (t_op (t_thrown m 0) l1) l2)) D) rfl ?_
  refine wp1 rfl rfl ?_
  refine wp1 rfl rfl ?_
  refine wp3 rfl (am_putf rfl (Nat.le_of_ble_eq_true rfl) rfl rfl) ?_
  have hJ7 : K (t_condition (t_width (t_op (t_thrown m 0) l1) l2) l3) := hJ6
  refine wpH (h' := HH s (MC (t_condition (t_width (t_op (t_thrown m 0) l1) l2) l3)) D) rfl ?_
  refine wp0 rfl rfl ?_
  refine wp1 rfl rfl ?_
  refine wpV (lv' := [(0, .ref 24), (1, .int l1), (2, .int l2), (3, .int l3), (4, .int 0)]) rfl ?_
  exact wpL rfl rfl (sb_159_23 _ hJ7 RL0 (0) (by decide) (Nat.lt_succ_self _))
theorem mf_159 {m : ms} (hJ : K m) (l1 : Int32) (l2 : Int32) (l3 : Int32)  : tb_wp L xs 159 0 (lv_args 0 [.ref 24, .int l1, .int l2, .int l3]) [] (HH s (MC m) D) (NV 0 m s D) := sb_159_0 hJ RLr l1 l2 l3
/- 161: FlagMachineModel.operandsFit()Z -/
set_option maxRecDepth 20000 in
theorem sb_161_567 {m m0 : ms} (hJ : K m) (hR : RL 2 m0 m) (k0 : Int32) (hb_k0 : b01 k0) : tb_wp L xs 161 567 [] [.int k0] (HH s (MC m) D) (NZ 2 m0 s D) := by
  exact wp5z rfl rfl hb_k0 ⟨_, hJ, hR, rfl, _, rfl, hb_k0⟩
set_option maxRecDepth 20000 in
theorem sb_161_566 {m m0 : ms} (hJ : K m) (hR : RL 2 m0 m)   : tb_wp L xs 161 566 [] [] (HH s (MC m) D) (NZ 2 m0 s D) := by
  refine wp0 rfl rfl ?_
  exact wpL rfl rfl (sb_161_567 hJ hR (0) b0)
set_option maxRecDepth 20000 in
theorem sb_161_552 {m m0 : ms} (hJ : K m) (hR : RL 2 m0 m) (k0 : Int32) (hb_k0 : b01 k0) : tb_wp L xs 161 552 [] [.int k0] (HH s (MC m) D) (NZ 2 m0 s D) := by
  exact wp5z rfl rfl hb_k0 ⟨_, hJ, hR, rfl, _, rfl, hb_k0⟩
set_option maxRecDepth 20000 in
theorem sb_161_551 {m m0 : ms} (hJ : K m) (hR : RL 2 m0 m)   : tb_wp L xs 161 551 [] [] (HH s (MC m) D) (NZ 2 m0 s D) := by
  refine wp0 rfl rfl ?_
  exact wpL rfl rfl (sb_161_552 hJ hR (0) b0)
set_option maxRecDepth 20000 in
theorem sb_161_547 {m m0 : ms} (hJ : K m) (hR : RL 2 m0 m)   : tb_wp L xs 161 547 [] [] (HH s (MC m) D) (NZ 2 m0 s D) := by
  refine wp0 rfl rfl ?_
  refine wp2 rfl rfl ?_
  exact wpL rfl rfl (sb_161_552 hJ hR (1) b1)
set_option maxRecDepth 20000 in
theorem sb_161_508 {m m0 : ms} (hJ : K m) (hR : RL 2 m0 m) (k0 : Int32) (hb_k0 : b01 k0) : tb_wp L xs 161 508 [] [.int k0] (HH s (MC m) D) (NZ 2 m0 s D) := by
  exact wp5z rfl rfl hb_k0 ⟨_, hJ, hR, rfl, _, rfl, hb_k0⟩
set_option maxRecDepth 20000 in
theorem sb_161_507 {m m0 : ms} (hJ : K m) (hR : RL 2 m0 m)   : tb_wp L xs 161 507 [] [] (HH s (MC m) D) (NZ 2 m0 s D) := by
  refine wp0 rfl rfl ?_
  exact wpL rfl rfl (sb_161_508 hJ hR (0) b0)
set_option maxRecDepth 20000 in
theorem sb_161_483 {m m0 : ms} (hJ : K m) (hR : RL 2 m0 m) (k0 : Int32) (hb_k0 : b01 k0) : tb_wp L xs 161 483 [] [.int k0] (HH s (MC m) D) (NZ 2 m0 s D) := by
  exact wp5z rfl rfl hb_k0 ⟨_, hJ, hR, rfl, _, rfl, hb_k0⟩
set_option maxRecDepth 20000 in
theorem sb_161_482 {m m0 : ms} (hJ : K m) (hR : RL 2 m0 m)   : tb_wp L xs 161 482 [] [] (HH s (MC m) D) (NZ 2 m0 s D) := by
  refine wp0 rfl rfl ?_
  exact wpL rfl rfl (sb_161_483 hJ hR (0) b0)
set_option maxRecDepth 20000 in
theorem sb_161_455 {m m0 : ms} (hJ : K m) (hR : RL 2 m0 m) (k0 : Int32) (hb_k0 : b01 k0) : tb_wp L xs 161 455 [] [.int k0] (HH s (MC m) D) (NZ 2 m0 s D) := by
  exact wp5z rfl rfl hb_k0 ⟨_, hJ, hR, rfl, _, rfl, hb_k0⟩
set_option maxRecDepth 20000 in
theorem sb_161_454 {m m0 : ms} (hJ : K m) (hR : RL 2 m0 m)   : tb_wp L xs 161 454 [] [] (HH s (MC m) D) (NZ 2 m0 s D) := by
  refine wp0 rfl rfl ?_
  exact wpL rfl rfl (sb_161_455 hJ hR (0) b0)
set_option maxRecDepth 20000 in
theorem sb_161_450 {m m0 : ms} (hJ : K m) (hR : RL 2 m0 m)   : tb_wp L xs 161 450 [] [] (HH s (MC m) D) (NZ 2 m0 s D) := by
  refine wp0 rfl rfl ?_
  refine wp2 rfl rfl ?_
  exact wpL rfl rfl (sb_161_455 hJ hR (1) b1)
set_option maxRecDepth 20000 in
theorem sb_161_419 {m m0 : ms} (hJ : K m) (hR : RL 2 m0 m) (k0 : Int32) (hb_k0 : b01 k0) : tb_wp L xs 161 419 [] [.int k0] (HH s (MC m) D) (NZ 2 m0 s D) := by
  exact wp5z rfl rfl hb_k0 ⟨_, hJ, hR, rfl, _, rfl, hb_k0⟩
set_option maxRecDepth 20000 in
theorem sb_161_418 {m m0 : ms} (hJ : K m) (hR : RL 2 m0 m)   : tb_wp L xs 161 418 [] [] (HH s (MC m) D) (NZ 2 m0 s D) := by
  refine wp0 rfl rfl ?_
  exact wpL rfl rfl (sb_161_419 hJ hR (0) b0)
set_option maxRecDepth 20000 in
theorem sb_161_414 {m m0 : ms} (hJ : K m) (hR : RL 2 m0 m)   : tb_wp L xs 161 414 [] [] (HH s (MC m) D) (NZ 2 m0 s D) := by
  refine wp0 rfl rfl ?_
  refine wp2 rfl rfl ?_
  exact wpL rfl rfl (sb_161_419 hJ hR (1) b1)
set_option maxRecDepth 20000 in
theorem sb_161_393 {m m0 : ms} (hJ : K m) (hR : RL 2 m0 m) (l4 : Int32) (hb_l4 : b01 l4) : tb_wp L xs 161 393 [(0, .ref 24), (4, .int l4)] [] (HH s (MC m) D) (NZ 2 m0 s D) := by
  refine wp1 rfl rfl ?_
  refine wp2b rfl rfl (fun c1 => ?_) (fun c1 => ?_)
  · exact wpL rfl rfl (sb_161_418 hJ hR )
  · refine wp1 rfl rfl ?_
    refine wp0 rfl rfl ?_
    refine wp4 rfl rfl (mf_146 hJ (0) (by decide)) (fun rv h1 hq => ?_)
    obtain ⟨s3, hJ5, D4, rfl, x6, rfl, hb_x6⟩ := hq
    refine wp2b rfl rfl (fun c7 => ?_) (fun c7 => ?_)
    · refine wp1 rfl rfl ?_
      refine wp0 rfl rfl ?_
      refine wp4 rfl rfl (mf_149 hJ5 (0) (by decide)) (fun rv h1 hq => ?_)
      obtain ⟨s9, hJ11, D10, rfl, x12, rfl, hb_x12⟩ := hq
      refine wp2b rfl rfl (fun c13 => ?_) (fun c13 => ?_)
      · exact wpL rfl rfl (sb_161_418 hJ11 (RLt (RLt hR D4) D10) )
      · exact wpL rfl rfl (sb_161_414 hJ11 (RLt (RLt hR D4) D10) )
    · exact wpL rfl rfl (sb_161_414 hJ5 (RLt hR D4) )
set_option maxRecDepth 20000 in
theorem sb_161_365 {m m0 : ms} (hJ : K m) (hR : RL 2 m0 m) (k0 : Int32) (hb_k0 : b01 k0) : tb_wp L xs 161 365 [] [.int k0] (HH s (MC m) D) (NZ 2 m0 s D) := by
  exact wp5z rfl rfl hb_k0 ⟨_, hJ, hR, rfl, _, rfl, hb_k0⟩
set_option maxRecDepth 20000 in
theorem sb_161_364 {m m0 : ms} (hJ : K m) (hR : RL 2 m0 m)   : tb_wp L xs 161 364 [] [] (HH s (MC m) D) (NZ 2 m0 s D) := by
  refine wp0 rfl rfl ?_
  exact wpL rfl rfl (sb_161_365 hJ hR (0) b0)
set_option maxRecDepth 20000 in
theorem sb_161_360 {m m0 : ms} (hJ : K m) (hR : RL 2 m0 m)   : tb_wp L xs 161 360 [] [] (HH s (MC m) D) (NZ 2 m0 s D) := by
  refine wp0 rfl rfl ?_
  refine wp2 rfl rfl ?_
  exact wpL rfl rfl (sb_161_365 hJ hR (1) b1)
set_option maxRecDepth 20000 in
theorem sb_161_348 {m m0 : ms} (hJ : K m) (hR : RL 2 m0 m)   : tb_wp L xs 161 348 [(0, .ref 24)] [] (HH s (MC m) D) (NZ 2 m0 s D) := by
  refine wp1 rfl rfl ?_
  refine wp0 rfl rfl ?_
  refine wp0 rfl rfl ?_
  refine wp0 rfl rfl ?_
  refine wp4 rfl rfl (mf_148 hJ (1) (0) (255) (by decide)) (fun rv h1 hq => ?_)
  obtain ⟨s15, hJ17, D16, rfl, x18, rfl, hb_x18⟩ := hq
  refine wp2b rfl rfl (fun c19 => ?_) (fun c19 => ?_)
  · exact wpL rfl rfl (sb_161_364 hJ17 (RLt hR D16) )
  · exact wpL rfl rfl (sb_161_360 hJ17 (RLt hR D16) )
set_option maxRecDepth 20000 in
theorem sb_161_311 {m m0 : ms} (hJ : K m) (hR : RL 2 m0 m) (k0 : Int32) (hb_k0 : b01 k0) : tb_wp L xs 161 311 [] [.int k0] (HH s (MC m) D) (NZ 2 m0 s D) := by
  exact wp5z rfl rfl hb_k0 ⟨_, hJ, hR, rfl, _, rfl, hb_k0⟩
set_option maxRecDepth 20000 in
theorem sb_161_310 {m m0 : ms} (hJ : K m) (hR : RL 2 m0 m)   : tb_wp L xs 161 310 [] [] (HH s (MC m) D) (NZ 2 m0 s D) := by
  refine wp0 rfl rfl ?_
  exact wpL rfl rfl (sb_161_311 hJ hR (0) b0)
set_option maxRecDepth 20000 in
theorem sb_161_306 {m m0 : ms} (hJ : K m) (hR : RL 2 m0 m)   : tb_wp L xs 161 306 [] [] (HH s (MC m) D) (NZ 2 m0 s D) := by
  refine wp0 rfl rfl ?_
  refine wp2 rfl rfl ?_
  exact wpL rfl rfl (sb_161_311 hJ hR (1) b1)
set_option maxRecDepth 20000 in
theorem sb_161_271 {m m0 : ms} (hJ : K m) (hR : RL 2 m0 m) (k0 : Int32) (hb_k0 : b01 k0) : tb_wp L xs 161 271 [] [.int k0] (HH s (MC m) D) (NZ 2 m0 s D) := by
  exact wp5z rfl rfl hb_k0 ⟨_, hJ, hR, rfl, _, rfl, hb_k0⟩
set_option maxRecDepth 20000 in
theorem sb_161_270 {m m0 : ms} (hJ : K m) (hR : RL 2 m0 m)   : tb_wp L xs 161 270 [] [] (HH s (MC m) D) (NZ 2 m0 s D) := by
  refine wp0 rfl rfl ?_
  exact wpL rfl rfl (sb_161_271 hJ hR (0) b0)
set_option maxRecDepth 20000 in
theorem sb_161_253 {m m0 : ms} (hJ : K m) (hR : RL 2 m0 m) (l4 : Int32) (hb_l4 : b01 l4) : tb_wp L xs 161 253 [(0, .ref 24), (4, .int l4)] [] (HH s (MC m) D) (NZ 2 m0 s D) := by
  refine wp1 rfl rfl ?_
  refine wp2b rfl rfl (fun c20 => ?_) (fun c20 => ?_)
  · exact wpL rfl rfl (sb_161_270 hJ hR )
  · refine wp1 rfl rfl ?_
    refine wp0 rfl rfl ?_
    refine wp4 rfl rfl (mf_146 hJ (0) (by decide)) (fun rv h1 hq => ?_)
    obtain ⟨s22, hJ24, D23, rfl, x25, rfl, hb_x25⟩ := hq
    refine wp2b rfl rfl (fun c26 => ?_) (fun c26 => ?_)
    · exact wpL rfl rfl (sb_161_270 hJ24 (RLt hR D23) )
    · refine wp0 rfl rfl ?_
      refine wp2 rfl rfl ?_
      exact wpL rfl rfl (sb_161_271 hJ24 (RLt hR D23) (1) b1)
set_option maxRecDepth 20000 in
theorem sb_161_225 {m m0 : ms} (hJ : K m) (hR : RL 2 m0 m) (k0 : Int32) (hb_k0 : b01 k0) : tb_wp L xs 161 225 [] [.int k0] (HH s (MC m) D) (NZ 2 m0 s D) := by
  exact wp5z rfl rfl hb_k0 ⟨_, hJ, hR, rfl, _, rfl, hb_k0⟩
set_option maxRecDepth 20000 in
theorem sb_161_224 {m m0 : ms} (hJ : K m) (hR : RL 2 m0 m)   : tb_wp L xs 161 224 [] [] (HH s (MC m) D) (NZ 2 m0 s D) := by
  refine wp0 rfl rfl ?_
  exact wpL rfl rfl (sb_161_225 hJ hR (0) b0)
set_option maxRecDepth 20000 in
theorem sb_161_203 {m m0 : ms} (hJ : K m) (hR : RL 2 m0 m) (l1 : Int32) (l3 : Int32) (hb_l3 : b01 l3) : tb_wp L xs 161 203 [(0, .ref 24), (1, .int l1), (3, .int l3)] [] (HH s (MC m) D) (NZ 2 m0 s D) := by
  refine wp1 rfl rfl ?_
  refine wp2b rfl rfl (fun c27 => ?_) (fun c27 => ?_)
  · exact wpL rfl rfl (sb_161_224 hJ hR )
  · refine wp1 rfl rfl ?_
    refine wp0 rfl rfl ?_
    refine wp2b rfl rfl (fun c28 => ?_) (fun c28 => ?_)
    · refine wp1 rfl rfl ?_
      refine wp0 rfl rfl ?_
      refine wp4 rfl rfl (mf_146 hJ (1) (by decide)) (fun rv h1 hq => ?_)
      obtain ⟨s30, hJ32, D31, rfl, x33, rfl, hb_x33⟩ := hq
      refine wp2b rfl rfl (fun c34 => ?_) (fun c34 => ?_)
      · exact wpL rfl rfl (sb_161_224 hJ32 (RLt hR D31) )
      · refine wp0 rfl rfl ?_
        refine wp2 rfl rfl ?_
        exact wpL rfl rfl (sb_161_225 hJ32 (RLt hR D31) (1) b1)
    · exact wpL rfl rfl (sb_161_224 hJ hR )
set_option maxRecDepth 20000 in
theorem sb_161_166 {m m0 : ms} (hJ : K m) (hR : RL 2 m0 m) (k0 : Int32) (hb_k0 : b01 k0) : tb_wp L xs 161 166 [] [.int k0] (HH s (MC m) D) (NZ 2 m0 s D) := by
  exact wp5z rfl rfl hb_k0 ⟨_, hJ, hR, rfl, _, rfl, hb_k0⟩
set_option maxRecDepth 20000 in
theorem sb_161_165 {m m0 : ms} (hJ : K m) (hR : RL 2 m0 m)   : tb_wp L xs 161 165 [] [] (HH s (MC m) D) (NZ 2 m0 s D) := by
  refine wp0 rfl rfl ?_
  exact wpL rfl rfl (sb_161_166 hJ hR (0) b0)
set_option maxRecDepth 20000 in
theorem sb_161_137 {m m0 : ms} (hJ : K m) (hR : RL 2 m0 m) (k0 : Int32) (hb_k0 : b01 k0) : tb_wp L xs 161 137 [] [.int k0] (HH s (MC m) D) (NZ 2 m0 s D) := by
  exact wp5z rfl rfl hb_k0 ⟨_, hJ, hR, rfl, _, rfl, hb_k0⟩
set_option maxRecDepth 20000 in
theorem sb_161_136 {m m0 : ms} (hJ : K m) (hR : RL 2 m0 m)   : tb_wp L xs 161 136 [] [] (HH s (MC m) D) (NZ 2 m0 s D) := by
  refine wp0 rfl rfl ?_
  exact wpL rfl rfl (sb_161_137 hJ hR (0) b0)
set_option maxRecDepth 20000 in
theorem sb_161_132 {m m0 : ms} (hJ : K m) (hR : RL 2 m0 m)   : tb_wp L xs 161 132 [] [] (HH s (MC m) D) (NZ 2 m0 s D) := by
  refine wp0 rfl rfl ?_
  refine wp2 rfl rfl ?_
  exact wpL rfl rfl (sb_161_137 hJ hR (1) b1)
set_option maxRecDepth 20000 in
theorem sb_161_107 {m m0 : ms} (hJ : K m) (hR : RL 2 m0 m)   : tb_wp L xs 161 107 [(0, .ref 24)] [] (HH s (MC m) D) (NZ 2 m0 s D) := by
  refine wp1 rfl rfl ?_
  refine wp3 rfl (am_getf rfl rfl) ?_
  refine wp0 rfl rfl ?_
  refine wp2b rfl rfl (fun c35 => ?_) (fun c35 => ?_)
  · exact wpL rfl rfl (sb_161_136 hJ hR )
  · refine wp1 rfl rfl ?_
    refine wp0 rfl rfl ?_
    refine wp4 rfl rfl (mf_146 hJ (0) (by decide)) (fun rv h1 hq => ?_)
    obtain ⟨s37, hJ39, D38, rfl, x40, rfl, hb_x40⟩ := hq
    refine wp2b rfl rfl (fun c41 => ?_) (fun c41 => ?_)
    · exact wpL rfl rfl (sb_161_136 hJ39 (RLt hR D38) )
    · refine wp1 rfl rfl ?_
      refine wp0 rfl rfl ?_
      refine wp4 rfl rfl (mf_149 hJ39 (1) (by decide)) (fun rv h1 hq => ?_)
      obtain ⟨s43, hJ45, D44, rfl, x46, rfl, hb_x46⟩ := hq
      refine wp2b rfl rfl (fun c47 => ?_) (fun c47 => ?_)
      · exact wpL rfl rfl (sb_161_136 hJ45 (RLt (RLt hR D38) D44) )
      · exact wpL rfl rfl (sb_161_132 hJ45 (RLt (RLt hR D38) D44) )
set_option maxRecDepth 20000 in
theorem sb_161_88 {m m0 : ms} (hJ : K m) (hR : RL 2 m0 m) (l1 : Int32) (l2 : Int32)  : tb_wp L xs 161 88 [(0, .ref 24), (1, .int l1), (2, .int l2)] [] (HH s (MC m) D) (NZ 2 m0 s D) := by
  refine wp1 rfl rfl ?_
  refine wp3 rfl (am_getf rfl rfl) ?_
  refine wp0 rfl rfl ?_
  refine wp2b rfl rfl (fun c48 => ?_) (fun c48 => ?_)
  · exact wpL rfl rfl (sb_161_107 hJ hR )
  · refine wp1 rfl rfl ?_
    refine wp0 rfl rfl ?_
    refine wp2b rfl rfl (fun c49 => ?_) (fun c49 => ?_)
    · refine wp1 rfl rfl ?_
      refine wp0 rfl rfl ?_
      refine wp2b rfl rfl (fun c50 => ?_) (fun c50 => ?_)
      · exact wpL rfl rfl (sb_161_132 hJ hR )
      · exact wpL rfl rfl (sb_161_107 hJ hR )
    · exact wpL rfl rfl (sb_161_107 hJ hR )
set_option maxRecDepth 20000 in
theorem sb_161_71 {m m0 : ms} (hJ : K m) (hR : RL 2 m0 m) (l1 : Int32) (l2 : Int32) (l3 : Int32) (hb_l3 : b01 l3) : tb_wp L xs 161 71 [(0, .ref 24), (1, .int l1), (2, .int l2), (3, .int l3)] [] (HH s (MC m) D) (NZ 2 m0 s D) := by
  refine wp1 rfl rfl ?_
  refine wp2b rfl rfl (fun c51 => ?_) (fun c51 => ?_)
  · exact wpL rfl rfl (sb_161_136 hJ hR )
  · refine wp1 rfl rfl ?_
    refine wp0 rfl rfl ?_
    refine wp4 rfl rfl (mf_146 hJ (0) (by decide)) (fun rv h1 hq => ?_)
    obtain ⟨s53, hJ55, D54, rfl, x56, rfl, hb_x56⟩ := hq
    refine wp2b rfl rfl (fun c57 => ?_) (fun c57 => ?_)
    · exact wpL rfl rfl (sb_161_88 hJ55 (RLt hR D54) (l1) (l2))
    · refine wp1 rfl rfl ?_
      refine wp0 rfl rfl ?_
      refine wp2b rfl rfl (fun c58 => ?_) (fun c58 => ?_)
      · exact wpL rfl rfl (sb_161_132 hJ55 (RLt hR D54) )
      · exact wpL rfl rfl (sb_161_88 hJ55 (RLt hR D54) (l1) (l2))
set_option maxRecDepth 20000 in
theorem sb_161_42 {m m0 : ms} (hJ : K m) (hR : RL 2 m0 m) (l1 : Int32) (l2 : Int32) (l3 : Int32) (k0 : Int32) (hb_l3 : b01 l3) (hb_k0 : b01 k0) : tb_wp L xs 161 42 [(0, .ref 24), (1, .int l1), (2, .int l2), (3, .int l3)] [.int k0] (HH s (MC m) D) (NZ 2 m0 s D) := by
  refine wp1 rfl rfl ?_
  refine wpV (lv' := [(0, .ref 24), (1, .int l1), (2, .int l2), (3, .int l3), (4, .int k0)]) rfl ?_
  refine wp1 rfl rfl ?_
  refine wp3 rfl (am_getf rfl rfl) ?_
  refine wp0 rfl rfl ?_
  refine wp2b rfl rfl (fun c59 => ?_) (fun c59 => ?_)
  · exact wpL rfl rfl (sb_161_71 hJ hR (l1) (l2) (l3) hb_l3)
  · refine wp1 rfl rfl ?_
    refine wp3 rfl (am_getf rfl rfl) ?_
    refine wp0 rfl rfl ?_
    refine wp2b rfl rfl (fun c60 => ?_) (fun c60 => ?_)
    · exact wpL rfl rfl (sb_161_71 hJ hR (l1) (l2) (l3) hb_l3)
    · refine wp1 rfl rfl ?_
      refine wp3 rfl (am_getf rfl rfl) ?_
      refine wp0 rfl rfl ?_
      refine wp2b rfl rfl (fun c61 => ?_) (fun c61 => ?_)
      · exact wpL rfl rfl (sb_161_71 hJ hR (l1) (l2) (l3) hb_l3)
      · refine wp1 rfl rfl ?_
        refine wp3 rfl (am_getf rfl rfl) ?_
        refine wp0 rfl rfl ?_
        refine wp2b rfl rfl (fun c62 => ?_) (fun c62 => ?_)
        · refine wp1 rfl rfl ?_
          refine wp2b rfl rfl (fun c63 => ?_) (fun c63 => ?_)
          · exact wpL rfl rfl (sb_161_165 hJ hR )
          · refine wp1 rfl rfl ?_
            refine wp0 rfl rfl ?_
            refine wp2b rfl rfl (fun c64 => ?_) (fun c64 => ?_)
            · refine wp1 rfl rfl ?_
              refine wp0 rfl rfl ?_
              refine wp2b rfl rfl (fun c65 => ?_) (fun c65 => ?_)
              · refine wp0 rfl rfl ?_
                refine wp2 rfl rfl ?_
                exact wpL rfl rfl (sb_161_166 hJ hR (1) b1)
              · exact wpL rfl rfl (sb_161_165 hJ hR )
            · exact wpL rfl rfl (sb_161_165 hJ hR )
        · refine wp1 rfl rfl ?_
          refine wp3 rfl (am_getf rfl rfl) ?_
          refine wp0 rfl rfl ?_
          refine wp2b rfl rfl (fun c66 => ?_) (fun c66 => ?_)
          · exact wpL rfl rfl (sb_161_203 hJ hR (l1) (l3) hb_l3)
          · refine wp1 rfl rfl ?_
            refine wp3 rfl (am_getf rfl rfl) ?_
            refine wp0 rfl rfl ?_
            refine wp2b rfl rfl (fun c67 => ?_) (fun c67 => ?_)
            · exact wpL rfl rfl (sb_161_203 hJ hR (l1) (l3) hb_l3)
            · refine wp1 rfl rfl ?_
              refine wp3 rfl (am_getf rfl rfl) ?_
              refine wp0 rfl rfl ?_
              refine wp2b rfl rfl (fun c68 => ?_) (fun c68 => ?_)
              · exact wpL rfl rfl (sb_161_203 hJ hR (l1) (l3) hb_l3)
              · refine wp1 rfl rfl ?_
                refine wp3 rfl (am_getf rfl rfl) ?_
                refine wp0 rfl rfl ?_
                refine wp2b rfl rfl (fun c69 => ?_) (fun c69 => ?_)
                · exact wpL rfl rfl (sb_161_203 hJ hR (l1) (l3) hb_l3)
                · refine wp1 rfl rfl ?_
                  refine wp3 rfl (am_getf rfl rfl) ?_
                  refine wp0 rfl rfl ?_
                  refine wp2b rfl rfl (fun c70 => ?_) (fun c70 => ?_)
                  · exact wpL rfl rfl (sb_161_253 hJ hR (k0) hb_k0)
                  · refine wp1 rfl rfl ?_
                    refine wp3 rfl (am_getf rfl rfl) ?_
                    refine wp0 rfl rfl ?_
                    refine wp2b rfl rfl (fun c71 => ?_) (fun c71 => ?_)
                    · exact wpL rfl rfl (sb_161_253 hJ hR (k0) hb_k0)
                    · refine wp1 rfl rfl ?_
                      refine wp3 rfl (am_getf rfl rfl) ?_
                      refine wp0 rfl rfl ?_
                      refine wp2b rfl rfl (fun c72 => ?_) (fun c72 => ?_)
                      · exact wpL rfl rfl (sb_161_253 hJ hR (k0) hb_k0)
                      · refine wp1 rfl rfl ?_
                        refine wp3 rfl (am_getf rfl rfl) ?_
                        refine wp0 rfl rfl ?_
                        refine wp2b rfl rfl (fun c73 => ?_) (fun c73 => ?_)
                        · refine wp1 rfl rfl ?_
                          refine wp0 rfl rfl ?_
                          refine wp2b rfl rfl (fun c74 => ?_) (fun c74 => ?_)
                          · refine wp1 rfl rfl ?_
                            refine wp0 rfl rfl ?_
                            refine wp4 rfl rfl (mf_146 hJ (1) (by decide)) (fun rv h1 hq => ?_)
                            obtain ⟨s76, hJ78, D77, rfl, x79, rfl, hb_x79⟩ := hq
                            refine wp2b rfl rfl (fun c80 => ?_) (fun c80 => ?_)
                            · exact wpL rfl rfl (sb_161_310 hJ78 (RLt hR D77) )
                            · refine wp1 rfl rfl ?_
                              refine wp2b rfl rfl (fun c81 => ?_) (fun c81 => ?_)
                              · refine wp1 rfl rfl ?_
                                refine wp0 rfl rfl ?_
                                refine wp4 rfl rfl (mf_149 hJ78 (2) (by decide)) (fun rv h1 hq => ?_)
                                obtain ⟨s83, hJ85, D84, rfl, x86, rfl, hb_x86⟩ := hq
                                refine wp2b rfl rfl (fun c87 => ?_) (fun c87 => ?_)
                                · exact wpL rfl rfl (sb_161_310 hJ85 (RLt (RLt hR D77) D84) )
                                · exact wpL rfl rfl (sb_161_306 hJ85 (RLt (RLt hR D77) D84) )
                              · exact wpL rfl rfl (sb_161_306 hJ78 (RLt hR D77) )
                          · exact wpL rfl rfl (sb_161_310 hJ hR )
                        · refine wp1 rfl rfl ?_
                          refine wp3 rfl (am_getf rfl rfl) ?_
                          refine wp0 rfl rfl ?_
                          refine wp2b rfl rfl (fun c88 => ?_) (fun c88 => ?_)
                          · refine wp1 rfl rfl ?_
                            refine wp3 rfl (am_getf rfl rfl) ?_
                            refine wp0 rfl rfl ?_
                            refine wp2b rfl rfl (fun c89 => ?_) (fun c89 => ?_)
                            · exact wpL rfl rfl (sb_161_393 hJ hR (k0) hb_k0)
                            · refine wp1 rfl rfl ?_
                              refine wp3 rfl (am_getf rfl rfl) ?_
                              refine wp0 rfl rfl ?_
                              refine wp2b rfl rfl (fun c90 => ?_) (fun c90 => ?_)
                              · exact wpL rfl rfl (sb_161_393 hJ hR (k0) hb_k0)
                              · refine wp1 rfl rfl ?_
                                refine wp3 rfl (am_getf rfl rfl) ?_
                                refine wp0 rfl rfl ?_
                                refine wp2b rfl rfl (fun c91 => ?_) (fun c91 => ?_)
                                · exact wpL rfl rfl (sb_161_393 hJ hR (k0) hb_k0)
                                · refine wp1 rfl rfl ?_
                                  refine wp3 rfl (am_getf rfl rfl) ?_
                                  refine wp0 rfl rfl ?_
                                  refine wp2b rfl rfl (fun c92 => ?_) (fun c92 => ?_)
                                  · refine wp1 rfl rfl ?_
                                    refine wp2b rfl rfl (fun c93 => ?_) (fun c93 => ?_)
                                    · exact wpL rfl rfl (sb_161_454 hJ hR )
                                    · refine wp1 rfl rfl ?_
                                      refine wp2b rfl rfl (fun c94 => ?_) (fun c94 => ?_)
                                      · exact wpL rfl rfl (sb_161_450 hJ hR )
                                      · refine wp1 rfl rfl ?_
                                        refine wp0 rfl rfl ?_
                                        refine wp0 rfl rfl ?_
                                        refine wp0 rfl rfl ?_
                                        refine wp4 rfl rfl (mf_148 hJ (0) (0) (65535) (by decide)) (fun rv h1 hq => ?_)
                                        obtain ⟨s96, hJ98, D97, rfl, x99, rfl, hb_x99⟩ := hq
                                        refine wp2b rfl rfl (fun c100 => ?_) (fun c100 => ?_)
                                        · exact wpL rfl rfl (sb_161_454 hJ98 (RLt hR D97) )
                                        · exact wpL rfl rfl (sb_161_450 hJ98 (RLt hR D97) )
                                  · refine wp1 rfl rfl ?_
                                    refine wp3 rfl (am_getf rfl rfl) ?_
                                    refine wp0 rfl rfl ?_
                                    refine wp2b rfl rfl (fun c101 => ?_) (fun c101 => ?_)
                                    · refine wp1 rfl rfl ?_
                                      refine wp2b rfl rfl (fun c102 => ?_) (fun c102 => ?_)
                                      · exact wpL rfl rfl (sb_161_482 hJ hR )
                                      · refine wp1 rfl rfl ?_
                                        refine wp0 rfl rfl ?_
                                        refine wp4 rfl rfl (mf_149 hJ (0) (by decide)) (fun rv h1 hq => ?_)
                                        obtain ⟨s104, hJ106, D105, rfl, x107, rfl, hb_x107⟩ := hq
                                        refine wp2b rfl rfl (fun c108 => ?_) (fun c108 => ?_)
                                        · exact wpL rfl rfl (sb_161_482 hJ106 (RLt hR D105) )
                                        · refine wp0 rfl rfl ?_
                                          refine wp2 rfl rfl ?_
                                          exact wpL rfl rfl (sb_161_483 hJ106 (RLt hR D105) (1) b1)
                                    · refine wp1 rfl rfl ?_
                                      refine wp3 rfl (am_getf rfl rfl) ?_
                                      refine wp0 rfl rfl ?_
                                      refine wp2b rfl rfl (fun c109 => ?_) (fun c109 => ?_)
                                      · refine wp1 rfl rfl ?_
                                        refine wp2b rfl rfl (fun c110 => ?_) (fun c110 => ?_)
                                        · exact wpL rfl rfl (sb_161_507 hJ hR )
                                        · refine wp1 rfl rfl ?_
                                          refine wp0 rfl rfl ?_
                                          refine wp2b rfl rfl (fun c111 => ?_) (fun c111 => ?_)
                                          · refine wp0 rfl rfl ?_
                                            refine wp2 rfl rfl ?_
                                            exact wpL rfl rfl (sb_161_508 hJ hR (1) b1)
                                          · exact wpL rfl rfl (sb_161_507 hJ hR )
                                      · refine wp1 rfl rfl ?_
                                        refine wp3 rfl (am_getf rfl rfl) ?_
                                        refine wp0 rfl rfl ?_
                                        refine wp2b rfl rfl (fun c112 => ?_) (fun c112 => ?_)
                                        · refine wp1 rfl rfl ?_
                                          refine wp2b rfl rfl (fun c113 => ?_) (fun c113 => ?_)
                                          · exact wpL rfl rfl (sb_161_551 hJ hR )
                                          · refine wp1 rfl rfl ?_
                                            refine wp0 rfl rfl ?_
                                            refine wp4 rfl rfl (mf_146 hJ (0) (by decide)) (fun rv h1 hq => ?_)
                                            obtain ⟨s115, hJ117, D116, rfl, x118, rfl, hb_x118⟩ := hq
                                            refine wp2b rfl rfl (fun c119 => ?_) (fun c119 => ?_)
                                            · exact wpL rfl rfl (sb_161_551 hJ117 (RLt hR D116) )
                                            · refine wp1 rfl rfl ?_
                                              refine wp0 rfl rfl ?_
                                              refine wp2b rfl rfl (fun c120 => ?_) (fun c120 => ?_)
                                              · exact wpL rfl rfl (sb_161_547 hJ117 (RLt hR D116) )
                                              · refine wp1 rfl rfl ?_
                                                refine wp0 rfl rfl ?_
                                                refine wp0 rfl rfl ?_
                                                refine wp0 rfl rfl ?_
                                                refine wp4 rfl rfl (mf_148 hJ117 (1) (0) (255) (by decide)) (fun rv h1 hq => ?_)
                                                obtain ⟨s122, hJ124, D123, rfl, x125, rfl, hb_x125⟩ := hq
                                                refine wp2b rfl rfl (fun c126 => ?_) (fun c126 => ?_)
                                                · exact wpL rfl rfl (sb_161_551 hJ124 (RLt (RLt hR D116) D123) )
                                                · exact wpL rfl rfl (sb_161_547 hJ124 (RLt (RLt hR D116) D123) )
                                        · refine wp1 rfl rfl ?_
                                          refine wp2b rfl rfl (fun c127 => ?_) (fun c127 => ?_)
                                          · refine wp1 rfl rfl ?_
                                            refine wp2b rfl rfl (fun c128 => ?_) (fun c128 => ?_)
                                            · exact wpL rfl rfl (sb_161_566 hJ hR )
                                            · refine wp0 rfl rfl ?_
                                              refine wp2 rfl rfl ?_
                                              exact wpL rfl rfl (sb_161_567 hJ hR (1) b1)
                                          · exact wpL rfl rfl (sb_161_566 hJ hR )
                          · refine wp1 rfl rfl ?_
                            refine wp2b rfl rfl (fun c129 => ?_) (fun c129 => ?_)
                            · exact wpL rfl rfl (sb_161_364 hJ hR )
                            · refine wp1 rfl rfl ?_
                              refine wp0 rfl rfl ?_
                              refine wp4 rfl rfl (mf_146 hJ (0) (by decide)) (fun rv h1 hq => ?_)
                              obtain ⟨s131, hJ133, D132, rfl, x134, rfl, hb_x134⟩ := hq
                              refine wp2b rfl rfl (fun c135 => ?_) (fun c135 => ?_)
                              · exact wpL rfl rfl (sb_161_364 hJ133 (RLt hR D132) )
                              · refine wp1 rfl rfl ?_
                                refine wp0 rfl rfl ?_
                                refine wp2b rfl rfl (fun c136 => ?_) (fun c136 => ?_)
                                · refine wp1 rfl rfl ?_
                                  refine wp3 rfl (am_getf rfl rfl) ?_
                                  refine wp0 rfl rfl ?_
                                  refine wp3 rfl (am_iald rfl (by decide)) ?_
                                  refine wp0 rfl rfl ?_
                                  refine wp2b rfl rfl (fun c137 => ?_) (fun c137 => ?_)
                                  · exact wpL rfl rfl (sb_161_360 hJ133 (RLt hR D132) )
                                  · exact wpL rfl rfl (sb_161_348 hJ133 (RLt hR D132) )
                                · exact wpL rfl rfl (sb_161_348 hJ133 (RLt hR D132) )
set_option maxRecDepth 20000 in
theorem sb_161_41 {m m0 : ms} (hJ : K m) (hR : RL 2 m0 m) (l1 : Int32) (l2 : Int32) (l3 : Int32) (hb_l3 : b01 l3) : tb_wp L xs 161 41 [(0, .ref 24), (1, .int l1), (2, .int l2), (3, .int l3)] [] (HH s (MC m) D) (NZ 2 m0 s D) := by
  refine wp0 rfl rfl ?_
  exact wpL rfl rfl (sb_161_42 hJ hR (l1) (l2) (l3) (0) hb_l3 b0)
set_option maxRecDepth 20000 in
theorem sb_161_28 {m m0 : ms} (hJ : K m) (hR : RL 2 m0 m) (l1 : Int32) (l2 : Int32) (k0 : Int32) (hb_k0 : b01 k0) : tb_wp L xs 161 28 [(0, .ref 24), (1, .int l1), (2, .int l2)] [.int k0] (HH s (MC m) D) (NZ 2 m0 s D) := by
  refine wp1 rfl rfl ?_
  refine wpV (lv' := [(0, .ref 24), (1, .int l1), (2, .int l2), (3, .int k0)]) rfl ?_
  refine wp1 rfl rfl ?_
  refine wp2b rfl rfl (fun c138 => ?_) (fun c138 => ?_)
  · refine wp1 rfl rfl ?_
    refine wp2b rfl rfl (fun c139 => ?_) (fun c139 => ?_)
    · exact wpL rfl rfl (sb_161_41 hJ hR (l1) (l2) (k0) hb_k0)
    · refine wp0 rfl rfl ?_
      refine wp2 rfl rfl ?_
      exact wpL rfl rfl (sb_161_42 hJ hR (l1) (l2) (k0) (1) hb_k0 b1)
  · exact wpL rfl rfl (sb_161_41 hJ hR (l1) (l2) (k0) hb_k0)
set_option maxRecDepth 20000 in
theorem sb_161_0 {m m0 : ms} (hJ : K m) (hR : RL 2 m0 m)   : tb_wp L xs 161 0 [(0, .ref 24)] [] (HH s (MC m) D) (NZ 2 m0 s D) := by
  refine wp1 rfl rfl ?_
  refine wp3 rfl (am_getf rfl rfl) ?_
  refine wp0 rfl rfl ?_
  refine wp3 rfl (am_iald rfl (by decide)) ?_
  refine wpTi (fun z140 ez140 => ?_)
  refine wp1 rfl rfl ?_
  refine wpV (lv' := [(0, .ref 24), (1, .int z140)]) rfl ?_
  refine wp1 rfl rfl ?_
  refine wp3 rfl (am_getf rfl rfl) ?_
  refine wp0 rfl rfl ?_
  refine wp3 rfl (am_iald rfl (by decide)) ?_
  refine wpTi (fun z141 ez141 => ?_)
  refine wp1 rfl rfl ?_
  refine wpV (lv' := [(0, .ref 24), (1, .int z140), (2, .int z141)]) rfl ?_
  refine wp1 rfl rfl ?_
  refine wp3 rfl (am_getf rfl rfl) ?_
  refine wp0 rfl rfl ?_
  refine wp3 rfl (am_iald rfl (by decide)) ?_
  refine wp2b rfl rfl (fun c142 => ?_) (fun c142 => ?_)
  · refine wp0 rfl rfl ?_
    refine wp2 rfl rfl ?_
    exact wpL rfl rfl (sb_161_28 hJ hR (z140) (z141) (1) b1)
  · refine wp0 rfl rfl ?_
    exact wpL rfl rfl (sb_161_28 hJ hR (z140) (z141) (0) b0)
theorem mf_161 {m : ms} (hJ : K m)   : tb_wp L xs 161 0 (lv_args 0 [.ref 24]) [] (HH s (MC m) D) (NZ 2 m s D) := sb_161_0 hJ RLr 
/- 170: FlagMachineModel.register(I)J -/
set_option maxRecDepth 20000 in
theorem sb_170_81 {m m0 : ms} (hJ : K m) (hR : RL 0 m0 m) (k0 : Int64)  : tb_wp L xs 170 81 [] [.long k0] (HH s (MC m) D) (NJ 0 m0 s D) := by
  exact wp5 rfl rfl ⟨_, hJ, hR, rfl, _, rfl⟩
set_option maxRecDepth 20000 in
theorem sb_170_22 {m m0 : ms} (hJ : K m) (hR : RL 0 m0 m) (l1 : Int32)  : tb_wp L xs 170 22 [(0, .ref 24), (1, .int l1)] [] (HH s (MC m) D) (NJ 0 m0 s D) := by
  refine wp1 rfl rfl ?_
  refine wp0 rfl rfl ?_
  refine wp2b rfl rfl (fun c1 => ?_) (fun c1 => ?_)
  · refine wp1 rfl rfl ?_
    refine wp3 rfl (am_getf rfl rfl) ?_
    refine wp2 rfl rfl ?_
    exact wpL rfl rfl (sb_170_81 hJ hR ((q_ip m)))
  · refine wp1 rfl rfl ?_
    refine wp0 rfl rfl ?_
    refine wp2b rfl rfl (fun c2 => ?_) (fun c2 => ?_)
    · refine wp1 rfl rfl ?_
      refine wp4 rfl rfl (mf_140 hJ ) (fun rv h1 hq => ?_)
      obtain ⟨s4, hJ6, D5, rfl, x7, rfl⟩ := hq
      refine wp2 rfl rfl ?_
      exact wpL rfl rfl (sb_170_81 hJ6 RL0 (x7))
    · refine wp1 rfl rfl ?_
      refine wp0 rfl rfl ?_
      refine wp2b rfl rfl (fun c8 => ?_) (fun c8 => ?_)
      · refine wp1 rfl rfl ?_
        refine wp4 rfl rfl (mf_142 hJ ) (fun rv h1 hq => ?_)
        obtain ⟨s10, hJ12, D11, rfl, x13, rfl⟩ := hq
        refine wp1 rfl rfl ?_
        refine wp3 rfl (am_getf rfl rfl) ?_
        refine wp0 rfl rfl ?_
        refine wp0 rfl rfl ?_
        refine wp2 rfl rfl ?_
        exact wpL rfl rfl (sb_170_81 hJ12 RL0 ((x13 + (Int32.toInt64 (q_heapSize s10)))))
      · refine wp1 rfl rfl ?_
        refine wp0 rfl rfl ?_
        refine wp2b rfl rfl (fun c14 => ?_) (fun c14 => ?_)
        · refine wp1 rfl rfl ?_
          refine wp3 rfl (am_getf rfl rfl) ?_
          refine wp2 rfl rfl ?_
          exact wpL rfl rfl (sb_170_81 hJ hR ((q_stepsDone m)))
        · refine wp0 rfl rfl ?_
          exact wpL rfl rfl (sb_170_81 hJ hR (0))
set_option maxRecDepth 20000 in
theorem sb_170_0 {m m0 : ms} (hJ : K m) (hR : RL 0 m0 m) (l1 : Int32)  : tb_wp L xs 170 0 [(0, .ref 24), (1, .int l1)] [] (HH s (MC m) D) (NJ 0 m0 s D) := by
  refine wp1 rfl rfl ?_
  refine wp0 rfl rfl ?_
  refine wp3 rfl (am_putf rfl (Nat.le_of_ble_eq_true rfl) rfl rfl) ?_
  have hJ15 : K (t_thrown m 0) := hJ
  refine wpH (h' := HH s (MC (t_thrown m 0)) D) rfl ?_
  refine wp1 rfl rfl ?_
  refine wp2b rfl rfl (fun c16 => ?_) (fun c16 => ?_)
  · exact wpL rfl rfl (sb_170_22 hJ15 RL0 (l1))
  · refine wp1 rfl rfl ?_
    refine wp0 rfl rfl ?_
    refine wp2b rfl rfl (fun c17 => ?_) (fun c17 => ?_)
    · exact wpL rfl rfl (sb_170_22 hJ15 RL0 (l1))
    · refine wp1 rfl rfl ?_
      refine wp3 rfl (am_getf rfl rfl) ?_
      refine wp1 rfl rfl ?_
      refine wp3 rfl (am_lald rfl (by simp only [Int32.lt_iff_toInt_lt, Int32.le_iff_toInt_le, ← Int32.toInt_inj] at c16 c17; have e0 : (0 : Int32).toInt = 0 := rfl; have g0 : (Int32.ofNat 0).toInt = 0 := rfl; have e1 : (16 : Int32).toInt = 16 := rfl; have g1 : (Int32.ofNat 16).toInt = 16 := rfl; exact am_in_of (by omega) (by omega))) ?_
      exact wp5 rfl rfl ⟨_, hJ15, RL0, rfl, _, rfl⟩
theorem mf_170 {m : ms} (hJ : K m) (l1 : Int32)  : tb_wp L xs 170 0 (lv_args 0 [.ref 24, .int l1]) [] (HH s (MC m) D) (NJ 0 m s D) := sb_170_0 hJ RLr l1
/- 173: FlagMachineModel.set(IJ)Z -/
set_option maxRecDepth 20000 in
theorem sb_173_38 {m m0 : ms} (hJ : K m) (hR : RL 0 m0 m)   : tb_wp L xs 173 38 [] [] (HH s (MC m) D) (NZ 0 m0 s D) := by
  refine wp0 rfl rfl ?_
  exact wp5z rfl rfl b1 ⟨_, hJ, hR, rfl, _, rfl, b1⟩
set_option maxRecDepth 20000 in
theorem sb_173_15 {m m0 : ms} (hJ : K m) (hR : RL 0 m0 m)   : tb_wp L xs 173 15 [] [] (HH s (MC m) D) (NZ 0 m0 s D) := by
  refine wp0 rfl rfl ?_
  exact wp5z rfl rfl b0 ⟨_, hJ, hR, rfl, _, rfl, b0⟩
set_option maxRecDepth 20000 in
theorem sb_173_0 {m m0 : ms} (hJ : K m) (hR : RL 0 m0 m) (l1 : Int32) (l2 : Int64)  : tb_wp L xs 173 0 [(0, .ref 24), (1, .int l1), (2, .long l2)] [] (HH s (MC m) D) (NZ 0 m0 s D) := by
  refine wp1 rfl rfl ?_
  refine wp0 rfl rfl ?_
  refine wp3 rfl (am_putf rfl (Nat.le_of_ble_eq_true rfl) rfl rfl) ?_
  have hJ1 : K (t_thrown m 0) := hJ
  refine wpH (h' := HH s (MC (t_thrown m 0)) D) rfl ?_
  refine wp1 rfl rfl ?_
  refine wp2b rfl rfl (fun c2 => ?_) (fun c2 => ?_)
  · exact wpL rfl rfl (sb_173_15 hJ1 RL0 )
  · refine wp1 rfl rfl ?_
    refine wp0 rfl rfl ?_
    refine wp2b rfl rfl (fun c3 => ?_) (fun c3 => ?_)
    · refine wp1 rfl rfl ?_
      refine wp0 rfl rfl ?_
      refine wp2b rfl rfl (fun c4 => ?_) (fun c4 => ?_)
      · refine wp1 rfl rfl ?_
        refine wp1 rfl rfl ?_
        refine wp3 rfl (am_putf rfl (Nat.le_of_ble_eq_true rfl) rfl rfl) ?_
        have hJ5 : K (t_ip (t_thrown m 0) l2) := hJ1
        refine wpH (h' := HH s (MC (t_ip (t_thrown m 0) l2)) D) rfl ?_
        refine wp2 rfl rfl ?_
        exact wpL rfl rfl (sb_173_38 hJ5 RL0 )
      · refine wp1 rfl rfl ?_
        refine wp3 rfl (am_getf rfl rfl) ?_
        refine wp1 rfl rfl ?_
        refine wp1 rfl rfl ?_
        refine wp3 rfl (am_last rfl (by simp only [Int32.lt_iff_toInt_lt, Int32.le_iff_toInt_le, ← Int32.toInt_inj] at c2 c3 c4; have e0 : (0 : Int32).toInt = 0 := rfl; have g0 : (Int32.ofNat 0).toInt = 0 := rfl; have e1 : (16 : Int32).toInt = 16 := rfl; have g1 : (Int32.ofNat 16).toInt = 16 := rfl; exact am_in_of (by omega) (by omega))) ?_
        have hJ6 : K (t_registers0 (t_thrown m 0) (vp_updL (q_registers0 (t_thrown m 0)) (Int32.toNatClampNeg l1) l2)) := hJ1
        refine wpH (h' := HH s (MC (t_registers0 (t_thrown m 0) (vp_updL (q_registers0 (t_thrown m 0)) (Int32.toNatClampNeg l1) l2))) D) rfl ?_
        exact wpL rfl rfl (sb_173_38 hJ6 RL0 )
    · exact wpL rfl rfl (sb_173_15 hJ1 RL0 )
theorem mf_173 {m : ms} (hJ : K m) (l1 : Int32) (l2 : Int64)  : tb_wp L xs 173 0 (lv_args 0 [.ref 24, .int l1, .long l2]) [] (HH s (MC m) D) (NZ 0 m s D) := sb_173_0 hJ RLr l1 l2
/- 174: FlagMachineModel.setFlags(J)V -/
set_option maxRecDepth 20000 in
theorem sb_174_90 {m m0 : ms} (hJ : K m) (hR : RL 2 m0 m) (k1 : Int32) (hb_k1 : b01 k1) : tb_wp L xs 174 90 [] [.int k1, .ref 24] (HH s (MC m) D) (NV 2 m0 s D) := by
  refine wp3 rfl (am_putf rfl (Nat.le_of_ble_eq_true rfl) (b01_nar hb_k1) (b01_fit hb_k1)) ?_
  have hJ1 := K_over hJ hb_k1
  refine wpH (h' := HH s (MC (t_over m k1)) D) rfl ?_
  exact wp5 rfl rfl ⟨_, hJ1, hR, rfl, rfl⟩
set_option maxRecDepth 20000 in
theorem sb_174_71 {m m0 : ms} (hJ : K m) (hR : RL 2 m0 m) (l1 : Int64) (k1 : Int32) (hb_k1 : b01 k1) : tb_wp L xs 174 71 [(0, .ref 24), (1, .long l1)] [.int k1, .ref 24] (HH s (MC m) D) (NV 2 m0 s D) := by
  refine wp3 rfl (am_putf rfl (Nat.le_of_ble_eq_true rfl) (b01_nar hb_k1) (b01_fit hb_k1)) ?_
  have hJ2 := K_negative hJ hb_k1
  refine wpH (h' := HH s (MC (t_negative m k1)) D) rfl ?_
  refine wp1 rfl rfl ?_
  refine wp1 rfl rfl ?_
  refine wp0 rfl rfl ?_
  refine wp0 rfl rfl ?_
  refine wp0 rfl rfl ?_
  refine wp0 rfl rfl ?_
  refine wp2b rfl rfl (fun c3 => ?_) (fun c3 => ?_)
  · refine wp0 rfl rfl ?_
    exact wpL rfl rfl (sb_174_90 hJ2 hR (0) b0)
  · refine wp0 rfl rfl ?_
    refine wp2 rfl rfl ?_
    exact wpL rfl rfl (sb_174_90 hJ2 hR (1) b1)
set_option maxRecDepth 20000 in
theorem sb_174_52 {m m0 : ms} (hJ : K m) (hR : RL 2 m0 m) (l1 : Int64) (k1 : Int32) (hb_k1 : b01 k1) : tb_wp L xs 174 52 [(0, .ref 24), (1, .long l1)] [.int k1, .ref 24] (HH s (MC m) D) (NV 2 m0 s D) := by
  refine wp3 rfl (am_putf rfl (Nat.le_of_ble_eq_true rfl) (b01_nar hb_k1) (b01_fit hb_k1)) ?_
  have hJ4 := K_zero hJ hb_k1
  refine wpH (h' := HH s (MC (t_zero m k1)) D) rfl ?_
  refine wp1 rfl rfl ?_
  refine wp1 rfl rfl ?_
  refine wp0 rfl rfl ?_
  refine wp0 rfl rfl ?_
  refine wp0 rfl rfl ?_
  refine wp0 rfl rfl ?_
  refine wp2b rfl rfl (fun c5 => ?_) (fun c5 => ?_)
  · refine wp0 rfl rfl ?_
    exact wpL rfl rfl (sb_174_71 hJ4 hR (l1) (0) b0)
  · refine wp0 rfl rfl ?_
    refine wp2 rfl rfl ?_
    exact wpL rfl rfl (sb_174_71 hJ4 hR (l1) (1) b1)
set_option maxRecDepth 20000 in
theorem sb_174_33 {m m0 : ms} (hJ : K m) (hR : RL 2 m0 m) (l1 : Int64) (k1 : Int32) (hb_k1 : b01 k1) : tb_wp L xs 174 33 [(0, .ref 24), (1, .long l1)] [.int k1, .ref 24] (HH s (MC m) D) (NV 2 m0 s D) := by
  refine wp3 rfl (am_putf rfl (Nat.le_of_ble_eq_true rfl) (b01_nar hb_k1) (b01_fit hb_k1)) ?_
  have hJ6 := K_parity hJ hb_k1
  refine wpH (h' := HH s (MC (t_parity m k1)) D) rfl ?_
  refine wp1 rfl rfl ?_
  refine wp1 rfl rfl ?_
  refine wp0 rfl rfl ?_
  refine wp0 rfl rfl ?_
  refine wp0 rfl rfl ?_
  refine wp0 rfl rfl ?_
  refine wp2b rfl rfl (fun c7 => ?_) (fun c7 => ?_)
  · refine wp0 rfl rfl ?_
    exact wpL rfl rfl (sb_174_52 hJ6 hR (l1) (0) b0)
  · refine wp0 rfl rfl ?_
    refine wp2 rfl rfl ?_
    exact wpL rfl rfl (sb_174_52 hJ6 hR (l1) (1) b1)
set_option maxRecDepth 20000 in
theorem sb_174_14 {m m0 : ms} (hJ : K m) (hR : RL 2 m0 m) (l1 : Int64) (k1 : Int32) (hb_k1 : b01 k1) : tb_wp L xs 174 14 [(0, .ref 24), (1, .long l1)] [.int k1, .ref 24] (HH s (MC m) D) (NV 2 m0 s D) := by
  refine wp3 rfl (am_putf rfl (Nat.le_of_ble_eq_true rfl) (b01_nar hb_k1) (b01_fit hb_k1)) ?_
  have hJ8 := K_carry hJ hb_k1
  refine wpH (h' := HH s (MC (t_carry m k1)) D) rfl ?_
  refine wp1 rfl rfl ?_
  refine wp1 rfl rfl ?_
  refine wp0 rfl rfl ?_
  refine wp0 rfl rfl ?_
  refine wp0 rfl rfl ?_
  refine wp0 rfl rfl ?_
  refine wp2b rfl rfl (fun c9 => ?_) (fun c9 => ?_)
  · refine wp0 rfl rfl ?_
    exact wpL rfl rfl (sb_174_33 hJ8 hR (l1) (0) b0)
  · refine wp0 rfl rfl ?_
    refine wp2 rfl rfl ?_
    exact wpL rfl rfl (sb_174_33 hJ8 hR (l1) (1) b1)
set_option maxRecDepth 20000 in
theorem sb_174_0 {m m0 : ms} (hJ : K m) (hR : RL 2 m0 m) (l1 : Int64)  : tb_wp L xs 174 0 [(0, .ref 24), (1, .long l1)] [] (HH s (MC m) D) (NV 2 m0 s D) := by
  refine wp1 rfl rfl ?_
  refine wp1 rfl rfl ?_
  refine wp0 rfl rfl ?_
  refine wp0 rfl rfl ?_
  refine wp0 rfl rfl ?_
  refine wp0 rfl rfl ?_
  refine wp2b rfl rfl (fun c10 => ?_) (fun c10 => ?_)
  · refine wp0 rfl rfl ?_
    exact wpL rfl rfl (sb_174_14 hJ hR (l1) (0) b0)
  · refine wp0 rfl rfl ?_
    refine wp2 rfl rfl ?_
    exact wpL rfl rfl (sb_174_14 hJ hR (l1) (1) b1)
theorem mf_174 {m : ms} (hJ : K m) (l1 : Int64)  : tb_wp L xs 174 0 (lv_args 0 [.ref 24, .long l1]) [] (HH s (MC m) D) (NV 2 m s D) := sb_174_0 hJ RLr l1
/- 176: FlagMachineModel.setRegister(IIJ)V -/
set_option maxRecDepth 20000 in
theorem sb_176_44 {m m0 : ms} (hJ : K m) (hR : RL 2 m0 m) (k1 : Int32) (k2 : Int64) (hi_k1 : am_in k1 16 = true) : tb_wp L xs 176 44 [] [.long k2, .int k1, .ref 31] (HH s (MC m) D) (NV 2 m0 s D) := by
  refine wp3 rfl (am_last rfl hi_k1) ?_
  have hJ1 : K (t_registers0 m (vp_updL (q_registers0 m) (Int32.toNatClampNeg k1) k2)) := hJ
  refine wpH (h' := HH s (MC (t_registers0 m (vp_updL (q_registers0 m) (Int32.toNatClampNeg k1) k2))) D) rfl ?_
  exact wp5 rfl rfl ⟨_, hJ1, hR, rfl, rfl⟩
set_option maxRecDepth 20000 in
theorem sb_176_0 {m m0 : ms} (hJ : K m) (hR : RL 2 m0 m) (l1 : Int32) (l2 : Int32) (l3 : Int64) (hi_l1 : am_in l1 16 = true) : tb_wp L xs 176 0 [(0, .ref 24), (1, .int l1), (2, .int l2), (3, .long l3)] [] (HH s (MC m) D) (NV 2 m0 s D) := by
  refine wp1 rfl rfl ?_
  refine wp3 rfl (am_getf rfl rfl) ?_
  refine wp1 rfl rfl ?_
  refine wp1 rfl rfl ?_
  refine wp0 rfl rfl ?_
  refine wp2b rfl rfl (fun c2 => ?_) (fun c2 => ?_)
  · refine wp1 rfl rfl ?_
    refine wp2 rfl rfl ?_
    exact wpL rfl rfl (sb_176_44 hJ hR (l1) (l3) hi_l1)
  · refine wp1 rfl rfl ?_
    refine wp0 rfl rfl ?_
    refine wp2b rfl rfl (fun c3 => ?_) (fun c3 => ?_)
    · refine wp1 rfl rfl ?_
      refine wp0 rfl rfl ?_
      refine wp0 rfl rfl ?_
      refine wp2 rfl rfl ?_
      exact wpL rfl rfl (sb_176_44 hJ hR (l1) ((l3 &&& 4294967295)) hi_l1)
    · refine wp1 rfl rfl ?_
      refine wp3 rfl (am_getf rfl rfl) ?_
      refine wp1 rfl rfl ?_
      refine wp3 rfl (am_lald rfl hi_l1) ?_
      refine wp0 rfl rfl ?_
      refine wp0 rfl rfl ?_
      refine wp1 rfl rfl ?_
      refine wp0 rfl rfl ?_
      refine wp0 rfl rfl ?_
      refine wp0 rfl rfl ?_
      exact wpL rfl rfl (sb_176_44 hJ hR (l1) ((((q_registers0 m (Int32.toNatClampNeg l1)) &&& (-256)) ||| (l3 &&& 255))) hi_l1)
theorem mf_176 {m : ms} (hJ : K m) (l1 : Int32) (l2 : Int32) (l3 : Int64) (hi_l1 : am_in l1 16 = true) : tb_wp L xs 176 0 (lv_args 0 [.ref 24, .int l1, .int l2, .long l3]) [] (HH s (MC m) D) (NV 2 m s D) := sb_176_0 hJ RLr l1 l2 l3 hi_l1
/- 178: FlagMachineModel.signed(JI)J -/
set_option maxRecDepth 20000 in
theorem sb_178_25 {m m0 : ms} (hJ : K m) (hR : RL 2 m0 m) (k0 : Int64)  : tb_wp L xs 178 25 [] [.long k0] (HH s (MC m) D) (NJ 2 m0 s D) := by
  exact wp5 rfl rfl ⟨_, hJ, hR, rfl, _, rfl⟩
set_option maxRecDepth 20000 in
theorem sb_178_0 {m m0 : ms} (hJ : K m) (hR : RL 2 m0 m) (l0 : Int64) (l2 : Int32)  : tb_wp L xs 178 0 [(0, .long l0), (2, .int l2)] [] (HH s (MC m) D) (NJ 2 m0 s D) := by
  refine wp1 rfl rfl ?_
  refine wp0 rfl rfl ?_
  refine wp2b rfl rfl (fun c1 => ?_) (fun c1 => ?_)
  · refine wp1 rfl rfl ?_
    refine wp2 rfl rfl ?_
    exact wpL rfl rfl (sb_178_25 hJ hR (l0))
  · refine wp1 rfl rfl ?_
    refine wp0 rfl rfl ?_
    refine wp2b rfl rfl (fun c2 => ?_) (fun c2 => ?_)
    · refine wp1 rfl rfl ?_
      refine wp0 rfl rfl ?_
      refine wp0 rfl rfl ?_
      refine wp2 rfl rfl ?_
      exact wpL rfl rfl (sb_178_25 hJ hR ((Int32.toInt64 (Int64.toInt32 l0))))
    · refine wp1 rfl rfl ?_
      refine wp0 rfl rfl ?_
      refine wp0 rfl rfl ?_
      refine wp0 rfl rfl ?_
      exact wpL rfl rfl (sb_178_25 hJ hR ((Int32.toInt64 (Int8.toInt32 (Int32.toInt8 (Int64.toInt32 l0))))))
theorem mf_178 {m : ms} (hJ : K m) (l0 : Int64) (l2 : Int32)  : tb_wp L xs 178 0 (lv_args 0 [.long l0, .int l2]) [] (HH s (MC m) D) (NJ 2 m s D) := sb_178_0 hJ RLr l0 l2
/- 180: FlagMachineModel.sizeFits()Z -/
set_option maxRecDepth 20000 in
theorem sb_180_255 {m m0 : ms} (hJ : K m) (hR : RL 2 m0 m) (k0 : Int32) (hb_k0 : b01 k0) : tb_wp L xs 180 255 [] [.int k0] (HH s (MC m) D) (NZ 2 m0 s D) := by
  exact wp5z rfl rfl hb_k0 ⟨_, hJ, hR, rfl, _, rfl, hb_k0⟩
set_option maxRecDepth 20000 in
theorem sb_180_245 {m m0 : ms} (hJ : K m) (hR : RL 2 m0 m) (l1 : Int32) (l2 : Int32) (k0 : Int32) (hb_l1 : b01 l1) (hb_l2 : b01 l2) (hb_k0 : b01 k0) : tb_wp L xs 180 245 [(1, .int l1), (2, .int l2)] [.int k0] (HH s (MC m) D) (NZ 2 m0 s D) := by
  refine wp1 rfl rfl ?_
  refine wpV (lv' := [(1, .int l1), (2, .int l2), (3, .int k0)]) rfl ?_
  refine wp1 rfl rfl ?_
  refine wp2b rfl rfl (fun c1 => ?_) (fun c1 => ?_)
  · refine wp1 rfl rfl ?_
    exact wpL rfl rfl (sb_180_255 hJ hR (l2) hb_l2)
  · refine wp1 rfl rfl ?_
    refine wp2 rfl rfl ?_
    exact wpL rfl rfl (sb_180_255 hJ hR (l1) hb_l1)
set_option maxRecDepth 20000 in
theorem sb_180_240 {m m0 : ms} (hJ : K m) (hR : RL 2 m0 m) (l1 : Int32) (l2 : Int32) (hb_l1 : b01 l1) (hb_l2 : b01 l2) : tb_wp L xs 180 240 [(1, .int l1), (2, .int l2)] [] (HH s (MC m) D) (NZ 2 m0 s D) := by
  refine wp0 rfl rfl ?_
  refine wp2 rfl rfl ?_
  exact wpL rfl rfl (sb_180_245 hJ hR (l1) (l2) (1) hb_l1 hb_l2 b1)
set_option maxRecDepth 20000 in
theorem sb_180_213 {m m0 : ms} (hJ : K m) (hR : RL 2 m0 m) (l1 : Int32) (l2 : Int32) (hb_l1 : b01 l1) (hb_l2 : b01 l2) : tb_wp L xs 180 213 [(0, .ref 24), (1, .int l1), (2, .int l2)] [] (HH s (MC m) D) (NZ 2 m0 s D) := by
  refine wp1 rfl rfl ?_
  refine wp3 rfl (am_getf rfl rfl) ?_
  refine wp0 rfl rfl ?_
  refine wp2b rfl rfl (fun c2 => ?_) (fun c2 => ?_)
  · exact wpL rfl rfl (sb_180_240 hJ hR (l1) (l2) hb_l1 hb_l2)
  · refine wp1 rfl rfl ?_
    refine wp3 rfl (am_getf rfl rfl) ?_
    refine wp0 rfl rfl ?_
    refine wp2b rfl rfl (fun c3 => ?_) (fun c3 => ?_)
    · exact wpL rfl rfl (sb_180_240 hJ hR (l1) (l2) hb_l1 hb_l2)
    · refine wp1 rfl rfl ?_
      refine wp3 rfl (am_getf rfl rfl) ?_
      refine wp0 rfl rfl ?_
      refine wp2b rfl rfl (fun c4 => ?_) (fun c4 => ?_)
      · refine wp0 rfl rfl ?_
        exact wpL rfl rfl (sb_180_245 hJ hR (l1) (l2) (0) hb_l1 hb_l2 b0)
      · exact wpL rfl rfl (sb_180_240 hJ hR (l1) (l2) hb_l1 hb_l2)
set_option maxRecDepth 20000 in
theorem sb_180_195 {m m0 : ms} (hJ : K m) (hR : RL 2 m0 m) (l1 : Int32) (l2 : Int32) (hb_l1 : b01 l1) (hb_l2 : b01 l2) : tb_wp L xs 180 195 [(0, .ref 24), (1, .int l1), (2, .int l2)] [] (HH s (MC m) D) (NZ 2 m0 s D) := by
  refine wp1 rfl rfl ?_
  refine wp3 rfl (am_getf rfl rfl) ?_
  refine wp0 rfl rfl ?_
  refine wp2b rfl rfl (fun c5 => ?_) (fun c5 => ?_)
  · exact wpL rfl rfl (sb_180_213 hJ hR (l1) (l2) hb_l1 hb_l2)
  · refine wp1 rfl rfl ?_
    refine wp3 rfl (am_getf rfl rfl) ?_
    refine wp0 rfl rfl ?_
    refine wp2b rfl rfl (fun c6 => ?_) (fun c6 => ?_)
    · exact wpL rfl rfl (sb_180_240 hJ hR (l1) (l2) hb_l1 hb_l2)
    · exact wpL rfl rfl (sb_180_213 hJ hR (l1) (l2) hb_l1 hb_l2)
set_option maxRecDepth 20000 in
theorem sb_180_168 {m m0 : ms} (hJ : K m) (hR : RL 2 m0 m) (l1 : Int32) (l2 : Int32) (hb_l1 : b01 l1) (hb_l2 : b01 l2) : tb_wp L xs 180 168 [(0, .ref 24), (1, .int l1), (2, .int l2)] [] (HH s (MC m) D) (NZ 2 m0 s D) := by
  refine wp1 rfl rfl ?_
  refine wp3 rfl (am_getf rfl rfl) ?_
  refine wp0 rfl rfl ?_
  refine wp2b rfl rfl (fun c7 => ?_) (fun c7 => ?_)
  · exact wpL rfl rfl (sb_180_240 hJ hR (l1) (l2) hb_l1 hb_l2)
  · refine wp1 rfl rfl ?_
    refine wp3 rfl (am_getf rfl rfl) ?_
    refine wp0 rfl rfl ?_
    refine wp2b rfl rfl (fun c8 => ?_) (fun c8 => ?_)
    · exact wpL rfl rfl (sb_180_195 hJ hR (l1) (l2) hb_l1 hb_l2)
    · refine wp1 rfl rfl ?_
      refine wp3 rfl (am_getf rfl rfl) ?_
      refine wp0 rfl rfl ?_
      refine wp2b rfl rfl (fun c9 => ?_) (fun c9 => ?_)
      · exact wpL rfl rfl (sb_180_240 hJ hR (l1) (l2) hb_l1 hb_l2)
      · exact wpL rfl rfl (sb_180_195 hJ hR (l1) (l2) hb_l1 hb_l2)
set_option maxRecDepth 20000 in
theorem sb_180_167 {m m0 : ms} (hJ : K m) (hR : RL 2 m0 m) (k0 : Int32) (hb_k0 : b01 k0) : tb_wp L xs 180 167 [] [.int k0] (HH s (MC m) D) (NZ 2 m0 s D) := by
  exact wp5z rfl rfl hb_k0 ⟨_, hJ, hR, rfl, _, rfl, hb_k0⟩
set_option maxRecDepth 20000 in
theorem sb_180_155 {m m0 : ms} (hJ : K m) (hR : RL 2 m0 m)   : tb_wp L xs 180 155 [(0, .ref 24)] [] (HH s (MC m) D) (NZ 2 m0 s D) := by
  refine wp1 rfl rfl ?_
  refine wp3 rfl (am_getf rfl rfl) ?_
  refine wp2b rfl rfl (fun c10 => ?_) (fun c10 => ?_)
  · refine wp0 rfl rfl ?_
    refine wp2 rfl rfl ?_
    exact wpL rfl rfl (sb_180_167 hJ hR (1) b1)
  · refine wp0 rfl rfl ?_
    exact wpL rfl rfl (sb_180_167 hJ hR (0) b0)
set_option maxRecDepth 20000 in
theorem sb_180_137 {m m0 : ms} (hJ : K m) (hR : RL 2 m0 m) (l1 : Int32) (l2 : Int32) (hb_l1 : b01 l1) (hb_l2 : b01 l2) : tb_wp L xs 180 137 [(0, .ref 24), (1, .int l1), (2, .int l2)] [] (HH s (MC m) D) (NZ 2 m0 s D) := by
  refine wp1 rfl rfl ?_
  refine wp3 rfl (am_getf rfl rfl) ?_
  refine wp0 rfl rfl ?_
  refine wp2b rfl rfl (fun c11 => ?_) (fun c11 => ?_)
  · exact wpL rfl rfl (sb_180_168 hJ hR (l1) (l2) hb_l1 hb_l2)
  · refine wp1 rfl rfl ?_
    refine wp3 rfl (am_getf rfl rfl) ?_
    refine wp0 rfl rfl ?_
    refine wp2b rfl rfl (fun c12 => ?_) (fun c12 => ?_)
    · exact wpL rfl rfl (sb_180_168 hJ hR (l1) (l2) hb_l1 hb_l2)
    · exact wpL rfl rfl (sb_180_155 hJ hR )
set_option maxRecDepth 20000 in
theorem sb_180_118 {m m0 : ms} (hJ : K m) (hR : RL 2 m0 m) (k0 : Int32) (hb_k0 : b01 k0) : tb_wp L xs 180 118 [] [.int k0] (HH s (MC m) D) (NZ 2 m0 s D) := by
  exact wp5z rfl rfl hb_k0 ⟨_, hJ, hR, rfl, _, rfl, hb_k0⟩
set_option maxRecDepth 20000 in
theorem sb_180_95 {m m0 : ms} (hJ : K m) (hR : RL 2 m0 m) (k0 : Int32) (hb_k0 : b01 k0) : tb_wp L xs 180 95 [] [.int k0] (HH s (MC m) D) (NZ 2 m0 s D) := by
  exact wp5z rfl rfl hb_k0 ⟨_, hJ, hR, rfl, _, rfl, hb_k0⟩
set_option maxRecDepth 20000 in
theorem sb_180_81 {m m0 : ms} (hJ : K m) (hR : RL 2 m0 m)   : tb_wp L xs 180 81 [(0, .ref 24)] [] (HH s (MC m) D) (NZ 2 m0 s D) := by
  refine wp1 rfl rfl ?_
  refine wp3 rfl (am_getf rfl rfl) ?_
  refine wp0 rfl rfl ?_
  refine wp2b rfl rfl (fun c13 => ?_) (fun c13 => ?_)
  · refine wp0 rfl rfl ?_
    refine wp2 rfl rfl ?_
    exact wpL rfl rfl (sb_180_95 hJ hR (1) b1)
  · refine wp0 rfl rfl ?_
    exact wpL rfl rfl (sb_180_95 hJ hR (0) b0)
set_option maxRecDepth 20000 in
theorem sb_180_53 {m m0 : ms} (hJ : K m) (hR : RL 2 m0 m) (l1 : Int32) (k0 : Int32) (hb_l1 : b01 l1) (hb_k0 : b01 k0) : tb_wp L xs 180 53 [(0, .ref 24), (1, .int l1)] [.int k0] (HH s (MC m) D) (NZ 2 m0 s D) := by
  refine wp1 rfl rfl ?_
  refine wpV (lv' := [(0, .ref 24), (1, .int l1), (2, .int k0)]) rfl ?_
  refine wp1 rfl rfl ?_
  refine wp3 rfl (am_getf rfl rfl) ?_
  refine wp0 rfl rfl ?_
  refine wp2b rfl rfl (fun c14 => ?_) (fun c14 => ?_)
  · exact wpL rfl rfl (sb_180_81 hJ hR )
  · refine wp1 rfl rfl ?_
    refine wp3 rfl (am_getf rfl rfl) ?_
    refine wp0 rfl rfl ?_
    refine wp2b rfl rfl (fun c15 => ?_) (fun c15 => ?_)
    · exact wpL rfl rfl (sb_180_81 hJ hR )
    · refine wp1 rfl rfl ?_
      refine wp3 rfl (am_getf rfl rfl) ?_
      refine wp0 rfl rfl ?_
      refine wp2b rfl rfl (fun c16 => ?_) (fun c16 => ?_)
      · exact wpL rfl rfl (sb_180_81 hJ hR )
      · refine wp1 rfl rfl ?_
        refine wp3 rfl (am_getf rfl rfl) ?_
        refine wp0 rfl rfl ?_
        refine wp2b rfl rfl (fun c17 => ?_) (fun c17 => ?_)
        · refine wp1 rfl rfl ?_
          refine wp3 rfl (am_getf rfl rfl) ?_
          refine wp0 rfl rfl ?_
          refine wp2b rfl rfl (fun c18 => ?_) (fun c18 => ?_)
          · refine wp0 rfl rfl ?_
            refine wp2 rfl rfl ?_
            exact wpL rfl rfl (sb_180_118 hJ hR (1) b1)
          · refine wp0 rfl rfl ?_
            exact wpL rfl rfl (sb_180_118 hJ hR (0) b0)
        · refine wp1 rfl rfl ?_
          refine wp3 rfl (am_getf rfl rfl) ?_
          refine wp0 rfl rfl ?_
          refine wp2b rfl rfl (fun c19 => ?_) (fun c19 => ?_)
          · exact wpL rfl rfl (sb_180_137 hJ hR (l1) (k0) hb_l1 hb_k0)
          · refine wp1 rfl rfl ?_
            refine wp3 rfl (am_getf rfl rfl) ?_
            refine wp0 rfl rfl ?_
            refine wp2b rfl rfl (fun c20 => ?_) (fun c20 => ?_)
            · exact wpL rfl rfl (sb_180_155 hJ hR )
            · exact wpL rfl rfl (sb_180_137 hJ hR (l1) (k0) hb_l1 hb_k0)
set_option maxRecDepth 20000 in
theorem sb_180_48 {m m0 : ms} (hJ : K m) (hR : RL 2 m0 m) (l1 : Int32) (hb_l1 : b01 l1) : tb_wp L xs 180 48 [(0, .ref 24), (1, .int l1)] [] (HH s (MC m) D) (NZ 2 m0 s D) := by
  refine wp0 rfl rfl ?_
  refine wp2 rfl rfl ?_
  exact wpL rfl rfl (sb_180_53 hJ hR (l1) (1) hb_l1 b1)
set_option maxRecDepth 20000 in
theorem sb_180_30 {m m0 : ms} (hJ : K m) (hR : RL 2 m0 m) (k0 : Int32) (hb_k0 : b01 k0) : tb_wp L xs 180 30 [(0, .ref 24)] [.int k0] (HH s (MC m) D) (NZ 2 m0 s D) := by
  refine wp1 rfl rfl ?_
  refine wpV (lv' := [(0, .ref 24), (1, .int k0)]) rfl ?_
  refine wp1 rfl rfl ?_
  refine wp3 rfl (am_getf rfl rfl) ?_
  refine wp0 rfl rfl ?_
  refine wp2b rfl rfl (fun c21 => ?_) (fun c21 => ?_)
  · exact wpL rfl rfl (sb_180_48 hJ hR (k0) hb_k0)
  · refine wp1 rfl rfl ?_
    refine wp3 rfl (am_getf rfl rfl) ?_
    refine wp0 rfl rfl ?_
    refine wp2b rfl rfl (fun c22 => ?_) (fun c22 => ?_)
    · exact wpL rfl rfl (sb_180_48 hJ hR (k0) hb_k0)
    · refine wp0 rfl rfl ?_
      exact wpL rfl rfl (sb_180_53 hJ hR (k0) (0) hb_k0 b0)
set_option maxRecDepth 20000 in
theorem sb_180_25 {m m0 : ms} (hJ : K m) (hR : RL 2 m0 m)   : tb_wp L xs 180 25 [(0, .ref 24)] [] (HH s (MC m) D) (NZ 2 m0 s D) := by
  refine wp0 rfl rfl ?_
  refine wp2 rfl rfl ?_
  exact wpL rfl rfl (sb_180_30 hJ hR (1) b1)
set_option maxRecDepth 20000 in
theorem sb_180_0 {m m0 : ms} (hJ : K m) (hR : RL 2 m0 m)   : tb_wp L xs 180 0 [(0, .ref 24)] [] (HH s (MC m) D) (NZ 2 m0 s D) := by
  refine wp1 rfl rfl ?_
  refine wp3 rfl (am_getf rfl rfl) ?_
  refine wp0 rfl rfl ?_
  refine wp2b rfl rfl (fun c23 => ?_) (fun c23 => ?_)
  · exact wpL rfl rfl (sb_180_25 hJ hR )
  · refine wp1 rfl rfl ?_
    refine wp3 rfl (am_getf rfl rfl) ?_
    refine wp0 rfl rfl ?_
    refine wp2b rfl rfl (fun c24 => ?_) (fun c24 => ?_)
    · exact wpL rfl rfl (sb_180_25 hJ hR )
    · refine wp1 rfl rfl ?_
      refine wp3 rfl (am_getf rfl rfl) ?_
      refine wp0 rfl rfl ?_
      refine wp2b rfl rfl (fun c25 => ?_) (fun c25 => ?_)
      · exact wpL rfl rfl (sb_180_25 hJ hR )
      · refine wp0 rfl rfl ?_
        exact wpL rfl rfl (sb_180_30 hJ hR (0) b0)
theorem mf_180 {m : ms} (hJ : K m)   : tb_wp L xs 180 0 (lv_args 0 [.ref 24]) [] (HH s (MC m) D) (NZ 2 m s D) := sb_180_0 hJ RLr 
/- 183: FlagMachineModel.stopWith(IJ)V -/
set_option maxRecDepth 20000 in
theorem sb_183_0 {m m0 : ms} (hJ : K m) (hR : RL 2 m0 m) (l1 : Int32) (l2 : Int64)  : tb_wp L xs 183 0 [(0, .ref 24), (1, .int l1), (2, .long l2)] [] (HH s (MC m) D) (NV 2 m0 s D) := by
  refine wp1 rfl rfl ?_
  refine wp3 rfl (am_getf rfl rfl) ?_
  refine wp2b rfl rfl (fun c1 => ?_) (fun c1 => ?_)
  · refine wp1 rfl rfl ?_
    refine wp1 rfl rfl ?_
    refine wp3 rfl (am_putf rfl (Nat.le_of_ble_eq_true rfl) rfl rfl) ?_
    have hJ2 : K (t_halt m l1) := hJ
    refine wpH (h' := HH s (MC (t_halt m l1)) D) rfl ?_
    refine wp1 rfl rfl ?_
    refine wp1 rfl rfl ?_
    refine wp3 rfl (am_putf rfl (Nat.le_of_ble_eq_true rfl) rfl rfl) ?_
    have hJ3 : K (t_haltValue (t_halt m l1) l2) := hJ2
    refine wpH (h' := HH s (MC (t_haltValue (t_halt m l1) l2)) D) rfl ?_
    exact wp5 rfl rfl ⟨_, hJ3, hR, rfl, rfl⟩
  · exact wp5 rfl rfl ⟨_, hJ, hR, rfl, rfl⟩
theorem mf_183 {m : ms} (hJ : K m) (l1 : Int32) (l2 : Int64)  : tb_wp L xs 183 0 (lv_args 0 [.ref 24, .int l1, .long l2]) [] (HH s (MC m) D) (NV 2 m s D) := sb_183_0 hJ RLr l1 l2
/- 189: FlagMachineModel.upper(JI)J -/
set_option maxRecDepth 20000 in
theorem sb_189_0 {m m0 : ms} (hJ : K m) (hR : RL 2 m0 m) (l0 : Int64) (l2 : Int32)  : tb_wp L xs 189 0 [(0, .long l0), (2, .int l2)] [] (HH s (MC m) D) (NJ 2 m0 s D) := by
  refine wp1 rfl rfl ?_
  refine wp0 rfl rfl ?_
  refine wp1 rfl rfl ?_
  refine wp0 rfl rfl ?_
  refine wp0 rfl rfl ?_
  refine wp0 rfl rfl ?_
  refine wp0 rfl rfl ?_
  refine wp0 rfl rfl ?_
  refine wp0 rfl rfl ?_
  exact wp5 rfl rfl ⟨_, hJ, hR, rfl, _, rfl⟩
theorem mf_189 {m : ms} (hJ : K m) (l0 : Int64) (l2 : Int32)  : tb_wp L xs 189 0 (lv_args 0 [.long l0, .int l2]) [] (HH s (MC m) D) (NJ 2 m s D) := sb_189_0 hJ RLr l0 l2
/- 190: FlagMachineModel.value()J -/
set_option maxRecDepth 20000 in
theorem sb_190_0 {m m0 : ms} (hJ : K m) (hR : RL 0 m0 m)   : tb_wp L xs 190 0 [(0, .ref 24)] [] (HH s (MC m) D) (NJ 0 m0 s D) := by
  refine wp1 rfl rfl ?_
  refine wp0 rfl rfl ?_
  refine wp3 rfl (am_putf rfl (Nat.le_of_ble_eq_true rfl) rfl rfl) ?_
  have hJ1 : K (t_thrown m 0) := hJ
  refine wpH (h' := HH s (MC (t_thrown m 0)) D) rfl ?_
  refine wp1 rfl rfl ?_
  refine wp3 rfl (am_getf rfl rfl) ?_
  exact wp5 rfl rfl ⟨_, hJ1, RL0, rfl, _, rfl⟩
theorem mf_190 {m : ms} (hJ : K m)   : tb_wp L xs 190 0 (lv_args 0 [.ref 24]) [] (HH s (MC m) D) (NJ 0 m s D) := sb_190_0 hJ RLr 
/- 191: FlagMachineModel.zsp(JI)V -/
set_option maxRecDepth 20000 in
theorem sb_191_82 {m m0 : ms} (hJ : K m) (hR : RL 2 m0 m) (k1 : Int32) (hb_k1 : b01 k1) : tb_wp L xs 191 82 [] [.int k1, .ref 24] (HH s (MC m) D) (NV 2 m0 s D) := by
  refine wp3 rfl (am_putf rfl (Nat.le_of_ble_eq_true rfl) (b01_nar hb_k1) (b01_fit hb_k1)) ?_
  have hJ1 := K_parity hJ hb_k1
  refine wpH (h' := HH s (MC (t_parity m k1)) D) rfl ?_
  exact wp5 rfl rfl ⟨_, hJ1, hR, rfl, rfl⟩
set_option maxRecDepth 20000 in
theorem sb_191_44 (n : Nat) : ∀ {m m0 : ms} (hJ : K m) (hR : RL 2 m0 m) (l1 : Int64) (l4 : Int32) (l5 : Int32) (hn_l5 : 0 ≤ Int32.toInt l5) (hm : ((8 : Int32).toInt - (l5 : Int32).toInt).toNat < n), tb_wp L xs 191 44 [(0, .ref 24), (1, .long l1), (4, .int l4), (5, .int l5)] [] (HH s (MC m) D) (NV 2 m0 s D) := by
  induction n with
  | zero => intro m m0 hJ hR l1 l4 l5 hn_l5 hm; exact absurd hm (Nat.not_lt_zero _)
  | succ n ih =>
    intro m m0 hJ hR l1 l4 l5 hn_l5 hm
    refine wp1 rfl rfl ?_
    refine wp0 rfl rfl ?_
    refine wp2b rfl rfl (fun c2 => ?_) (fun c2 => ?_)
    · refine wp1 rfl rfl ?_
      refine wp1 rfl rfl ?_
      refine wp0 rfl rfl ?_
      refine wp0 rfl rfl ?_
      refine wp2b rfl rfl (fun c3 => ?_) (fun c3 => ?_)
      · refine wp0 rfl rfl ?_
        refine wp2 rfl rfl ?_
        exact wpL rfl rfl (sb_191_82 hJ hR (1) b1)
      · refine wp0 rfl rfl ?_
        exact wpL rfl rfl (sb_191_82 hJ hR (0) b0)
    · refine wp1 rfl rfl ?_
      refine wp1 rfl rfl ?_
      refine wp1 rfl rfl ?_
      refine wp0 rfl rfl ?_
      refine wp0 rfl rfl ?_
      refine wp0 rfl rfl ?_
      refine wp0 rfl rfl ?_
      refine wp0 rfl rfl ?_
      refine wpTi (fun z4 ez4 => ?_)
      refine wp1 rfl rfl ?_
      refine wpV (lv' := [(0, .ref 24), (1, .long l1), (4, .int z4), (5, .int l5)]) rfl ?_
      refine wp1 rfl rfl ?_
      refine wpV (lv' := [(0, .ref 24), (1, .long l1), (4, .int z4), (5, .int (l5 + 1))]) rfl ?_
      refine wp2 rfl rfl ?_
      exact wpL rfl rfl (ih hJ hR (l1) (z4) ((l5 + 1)) (i32_upp c2 hn_l5) (i32_up c2 hm))
set_option maxRecDepth 20000 in
theorem sb_191_35 {m m0 : ms} (hJ : K m) (hR : RL 2 m0 m) (l1 : Int64) (k1 : Int32) (hb_k1 : b01 k1) : tb_wp L xs 191 35 [(0, .ref 24), (1, .long l1)] [.int k1, .ref 24] (HH s (MC m) D) (NV 2 m0 s D) := by
  refine wp3 rfl (am_putf rfl (Nat.le_of_ble_eq_true rfl) (b01_nar hb_k1) (b01_fit hb_k1)) ?_
  have hJ5 := K_negative hJ hb_k1
  refine wpH (h' := HH s (MC (t_negative m k1)) D) rfl ?_
  refine wp0 rfl rfl ?_
  refine wp1 rfl rfl ?_
  refine wpV (lv' := [(0, .ref 24), (1, .long l1), (4, .int 0)]) rfl ?_
  refine wp0 rfl rfl ?_
  refine wp1 rfl rfl ?_
  refine wpV (lv' := [(0, .ref 24), (1, .long l1), (4, .int 0), (5, .int 0)]) rfl ?_
  exact wpL rfl rfl (sb_191_44 _ hJ5 hR (l1) (0) (0) (by decide) (Nat.lt_succ_self _))
set_option maxRecDepth 20000 in
theorem sb_191_16 {m m0 : ms} (hJ : K m) (hR : RL 2 m0 m) (l1 : Int64) (l3 : Int32) (k1 : Int32) (hb_k1 : b01 k1) : tb_wp L xs 191 16 [(0, .ref 24), (1, .long l1), (3, .int l3)] [.int k1, .ref 24] (HH s (MC m) D) (NV 2 m0 s D) := by
  refine wp3 rfl (am_putf rfl (Nat.le_of_ble_eq_true rfl) (b01_nar hb_k1) (b01_fit hb_k1)) ?_
  have hJ6 := K_zero hJ hb_k1
  refine wpH (h' := HH s (MC (t_zero m k1)) D) rfl ?_
  refine wp1 rfl rfl ?_
  refine wp1 rfl rfl ?_
  refine wp1 rfl rfl ?_
  refine wp4 rfl rfl (mf_189 hJ6 (l1) (l3)) (fun rv h1 hq => ?_)
  obtain ⟨s8, hJ10, D9, rfl, x11, rfl⟩ := hq
  refine wp0 rfl rfl ?_
  refine wp0 rfl rfl ?_
  refine wp2b rfl rfl (fun c12 => ?_) (fun c12 => ?_)
  · refine wp0 rfl rfl ?_
    refine wp2 rfl rfl ?_
    exact wpL rfl rfl (sb_191_35 hJ10 (RLt hR D9) (l1) (1) b1)
  · refine wp0 rfl rfl ?_
    exact wpL rfl rfl (sb_191_35 hJ10 (RLt hR D9) (l1) (0) b0)
set_option maxRecDepth 20000 in
theorem sb_191_0 {m m0 : ms} (hJ : K m) (hR : RL 2 m0 m) (l1 : Int64) (l3 : Int32)  : tb_wp L xs 191 0 [(0, .ref 24), (1, .long l1), (3, .int l3)] [] (HH s (MC m) D) (NV 2 m0 s D) := by
  refine wp1 rfl rfl ?_
  refine wp1 rfl rfl ?_
  refine wp1 rfl rfl ?_
  refine wp4 rfl rfl (mf_135 hJ (l1) (l3)) (fun rv h1 hq => ?_)
  obtain ⟨s14, hJ16, D15, rfl, x17, rfl⟩ := hq
  refine wp0 rfl rfl ?_
  refine wp0 rfl rfl ?_
  refine wp2b rfl rfl (fun c18 => ?_) (fun c18 => ?_)
  · refine wp0 rfl rfl ?_
    refine wp2 rfl rfl ?_
    exact wpL rfl rfl (sb_191_16 hJ16 (RLt hR D15) (l1) (l3) (1) b1)
  · refine wp0 rfl rfl ?_
    exact wpL rfl rfl (sb_191_16 hJ16 (RLt hR D15) (l1) (l3) (0) b0)
theorem mf_191 {m : ms} (hJ : K m) (l1 : Int64) (l3 : Int32)  : tb_wp L xs 191 0 (lv_args 0 [.ref 24, .long l1, .int l3]) [] (HH s (MC m) D) (NV 2 m s D) := sb_191_0 hJ RLr l1 l3
/- 126: FlagMachineModel.add(JJZI)J -/
set_option maxRecDepth 20000 in
theorem sb_126_76 {m m0 : ms} (hJ : K m) (hR : RL 2 m0 m) (l6 : Int32) (l7 : Int64) (k1 : Int32) (hb_k1 : b01 k1) : tb_wp L xs 126 76 [(0, .ref 24), (6, .int l6), (7, .long l7)] [.int k1, .ref 24] (HH s (MC m) D) (NJ 2 m0 s D) := by
  refine wp3 rfl (am_putf rfl (Nat.le_of_ble_eq_true rfl) (b01_nar hb_k1) (b01_fit hb_k1)) ?_
  have hJ1 := K_over hJ hb_k1
  refine wpH (h' := HH s (MC (t_over m k1)) D) rfl ?_
  refine wp1 rfl rfl ?_
  refine wp1 rfl rfl ?_
  refine wp1 rfl rfl ?_
  refine wp4 rfl rfl (mf_191 hJ1 (l7) (l6)) (fun rv h1 hq => ?_)
  obtain ⟨s3, hJ5, D4, rfl, rfl⟩ := hq
  refine wp1 rfl rfl ?_
  exact wp5 rfl rfl ⟨_, hJ5, (RLt hR D4), rfl, _, rfl⟩
set_option maxRecDepth 20000 in
theorem sb_126_48 {m m0 : ms} (hJ : K m) (hR : RL 2 m0 m) (l1 : Int64) (l3 : Int64) (l6 : Int32) (l7 : Int64) (k1 : Int32) (hb_k1 : b01 k1) : tb_wp L xs 126 48 [(0, .ref 24), (1, .long l1), (3, .long l3), (6, .int l6), (7, .long l7)] [.int k1, .ref 24] (HH s (MC m) D) (NJ 2 m0 s D) := by
  refine wp3 rfl (am_putf rfl (Nat.le_of_ble_eq_true rfl) (b01_nar hb_k1) (b01_fit hb_k1)) ?_
  have hJ7 := K_carry hJ hb_k1
  refine wpH (h' := HH s (MC (t_carry m k1)) D) rfl ?_
  refine wp1 rfl rfl ?_
  refine wp1 rfl rfl ?_
  refine wp1 rfl rfl ?_
  refine wp0 rfl rfl ?_
  refine wp1 rfl rfl ?_
  refine wp1 rfl rfl ?_
  refine wp0 rfl rfl ?_
  refine wp0 rfl rfl ?_
  refine wp1 rfl rfl ?_
  refine wp4 rfl rfl (mf_189 hJ7 (((l1 ^^^ l7) &&& (l3 ^^^ l7))) (l6)) (fun rv h1 hq => ?_)
  obtain ⟨s9, hJ11, D10, rfl, x12, rfl⟩ := hq
  refine wp0 rfl rfl ?_
  refine wp0 rfl rfl ?_
  refine wp2b rfl rfl (fun c13 => ?_) (fun c13 => ?_)
  · refine wp0 rfl rfl ?_
    refine wp2 rfl rfl ?_
    exact wpL rfl rfl (sb_126_76 hJ11 (RLt hR D10) (l6) (l7) (1) b1)
  · refine wp0 rfl rfl ?_
    exact wpL rfl rfl (sb_126_76 hJ11 (RLt hR D10) (l6) (l7) (0) b0)
set_option maxRecDepth 20000 in
theorem sb_126_47 {m m0 : ms} (hJ : K m) (hR : RL 2 m0 m) (l1 : Int64) (l3 : Int64) (l6 : Int32) (l7 : Int64)  : tb_wp L xs 126 47 [(0, .ref 24), (1, .long l1), (3, .long l3), (6, .int l6), (7, .long l7)] [.ref 24] (HH s (MC m) D) (NJ 2 m0 s D) := by
  refine wp0 rfl rfl ?_
  exact wpL rfl rfl (sb_126_48 hJ hR (l1) (l3) (l6) (l7) (0) b0)
set_option maxRecDepth 20000 in
theorem sb_126_43 {m m0 : ms} (hJ : K m) (hR : RL 2 m0 m) (l1 : Int64) (l3 : Int64) (l6 : Int32) (l7 : Int64)  : tb_wp L xs 126 43 [(0, .ref 24), (1, .long l1), (3, .long l3), (6, .int l6), (7, .long l7)] [.ref 24] (HH s (MC m) D) (NJ 2 m0 s D) := by
  refine wp0 rfl rfl ?_
  refine wp2 rfl rfl ?_
  exact wpL rfl rfl (sb_126_48 hJ hR (l1) (l3) (l6) (l7) (1) b1)
set_option maxRecDepth 20000 in
theorem sb_126_13 {m m0 : ms} (hJ : K m) (hR : RL 2 m0 m) (l1 : Int64) (l3 : Int64) (l5 : Int32) (l6 : Int32) (k0 : Int64) (k1 : Int64) (hb_l5 : b01 l5) : tb_wp L xs 126 13 [(0, .ref 24), (1, .long l1), (3, .long l3), (5, .int l5), (6, .int l6)] [.long k1, .long k0] (HH s (MC m) D) (NJ 2 m0 s D) := by
  refine wp0 rfl rfl ?_
  refine wp1 rfl rfl ?_
  refine wp4 rfl rfl (mf_135 hJ ((k0 + k1)) (l6)) (fun rv h1 hq => ?_)
  obtain ⟨s15, hJ17, D16, rfl, x18, rfl⟩ := hq
  refine wp1 rfl rfl ?_
  refine wpV (lv' := [(0, .ref 24), (1, .long l1), (3, .long l3), (5, .int l5), (6, .int l6), (7, .long x18)]) rfl ?_
  refine wp1 rfl rfl ?_
  refine wp1 rfl rfl ?_
  refine wp1 rfl rfl ?_
  refine wp4 rfl rfl (mf_131 hJ17 (x18) (l1)) (fun rv h1 hq => ?_)
  obtain ⟨s20, hJ22, D21, rfl, x23, rfl, hb_x23⟩ := hq
  refine wp2b rfl rfl (fun c24 => ?_) (fun c24 => ?_)
  · refine wp1 rfl rfl ?_
    refine wp2b rfl rfl (fun c25 => ?_) (fun c25 => ?_)
    · exact wpL rfl rfl (sb_126_47 hJ22 (RLt (RLt hR D16) D21) (l1) (l3) (l6) (x18))
    · refine wp1 rfl rfl ?_
      refine wp1 rfl rfl ?_
      refine wp0 rfl rfl ?_
      refine wp2b rfl rfl (fun c26 => ?_) (fun c26 => ?_)
      · exact wpL rfl rfl (sb_126_43 hJ22 (RLt (RLt hR D16) D21) (l1) (l3) (l6) (x18))
      · exact wpL rfl rfl (sb_126_47 hJ22 (RLt (RLt hR D16) D21) (l1) (l3) (l6) (x18))
  · exact wpL rfl rfl (sb_126_43 hJ22 (RLt (RLt hR D16) D21) (l1) (l3) (l6) (x18))
set_option maxRecDepth 20000 in
theorem sb_126_0 {m m0 : ms} (hJ : K m) (hR : RL 2 m0 m) (l1 : Int64) (l3 : Int64) (l5 : Int32) (l6 : Int32) (hb_l5 : b01 l5) : tb_wp L xs 126 0 [(0, .ref 24), (1, .long l1), (3, .long l3), (5, .int l5), (6, .int l6)] [] (HH s (MC m) D) (NJ 2 m0 s D) := by
  refine wp1 rfl rfl ?_
  refine wp1 rfl rfl ?_
  refine wp0 rfl rfl ?_
  refine wp1 rfl rfl ?_
  refine wp2b rfl rfl (fun c27 => ?_) (fun c27 => ?_)
  · refine wp0 rfl rfl ?_
    exact wpL rfl rfl (sb_126_13 hJ hR (l1) (l3) (l5) (l6) ((l1 + l3)) (0) hb_l5)
  · refine wp0 rfl rfl ?_
    refine wp2 rfl rfl ?_
    exact wpL rfl rfl (sb_126_13 hJ hR (l1) (l3) (l5) (l6) ((l1 + l3)) (1) hb_l5)
theorem mf_126 {m : ms} (hJ : K m) (l1 : Int64) (l3 : Int64) (l5 : Int32) (l6 : Int32) (hb_l5 : b01 l5) : tb_wp L xs 126 0 (lv_args 0 [.ref 24, .long l1, .long l3, .int l5, .int l6]) [] (HH s (MC m) D) (NJ 2 m s D) := sb_126_0 hJ RLr l1 l3 l5 l6 hb_l5
/- 143: FlagMachineModel.highSigned(JJ)J -/
set_option maxRecDepth 20000 in
theorem sb_143_28 {m m0 : ms} (hJ : K m) (hR : RL 2 m0 m) (k0 : Int64) (k1 : Int64)  : tb_wp L xs 143 28 [] [.long k1, .long k0] (HH s (MC m) D) (NJ 2 m0 s D) := by
  refine wp0 rfl rfl ?_
  exact wp5 rfl rfl ⟨_, hJ, hR, rfl, _, rfl⟩
set_option maxRecDepth 20000 in
theorem sb_143_16 {m m0 : ms} (hJ : K m) (hR : RL 2 m0 m) (l0 : Int64) (l2 : Int64) (k0 : Int64) (k1 : Int64)  : tb_wp L xs 143 16 [(0, .long l0), (2, .long l2)] [.long k1, .long k0] (HH s (MC m) D) (NJ 2 m0 s D) := by
  refine wp0 rfl rfl ?_
  refine wp1 rfl rfl ?_
  refine wp0 rfl rfl ?_
  refine wp0 rfl rfl ?_
  refine wp2b rfl rfl (fun c1 => ?_) (fun c1 => ?_)
  · refine wp0 rfl rfl ?_
    exact wpL rfl rfl (sb_143_28 hJ hR ((k0 - k1)) (0))
  · refine wp1 rfl rfl ?_
    refine wp2 rfl rfl ?_
    exact wpL rfl rfl (sb_143_28 hJ hR ((k0 - k1)) (l0))
set_option maxRecDepth 20000 in
theorem sb_143_0 {m m0 : ms} (hJ : K m) (hR : RL 2 m0 m) (l0 : Int64) (l2 : Int64)  : tb_wp L xs 143 0 [(0, .long l0), (2, .long l2)] [] (HH s (MC m) D) (NJ 2 m0 s D) := by
  refine wp1 rfl rfl ?_
  refine wp1 rfl rfl ?_
  refine wp4 rfl rfl (mf_144 hJ (l0) (l2)) (fun rv h1 hq => ?_)
  obtain ⟨s3, hJ5, D4, rfl, x6, rfl⟩ := hq
  refine wp1 rfl rfl ?_
  refine wp0 rfl rfl ?_
  refine wp0 rfl rfl ?_
  refine wp2b rfl rfl (fun c7 => ?_) (fun c7 => ?_)
  · refine wp0 rfl rfl ?_
    exact wpL rfl rfl (sb_143_16 hJ5 (RLt hR D4) (l0) (l2) (x6) (0))
  · refine wp1 rfl rfl ?_
    refine wp2 rfl rfl ?_
    exact wpL rfl rfl (sb_143_16 hJ5 (RLt hR D4) (l0) (l2) (x6) (l2))
theorem mf_143 {m : ms} (hJ : K m) (l0 : Int64) (l2 : Int64)  : tb_wp L xs 143 0 (lv_args 0 [.long l0, .long l2]) [] (HH s (MC m) D) (NJ 2 m s D) := sb_143_0 hJ RLr l0 l2
/- 150: FlagMachineModel.isSound()Z -/
set_option maxRecDepth 20000 in
theorem sb_150_145 {m m0 : ms} (hJ : K m) (hR : RL 2 m0 m) (k0 : Int32) (hb_k0 : b01 k0) : tb_wp L xs 150 145 [] [.int k0] (HH s (MC m) D) (NZ 2 m0 s D) := by
  exact wp5z rfl rfl hb_k0 ⟨_, hJ, hR, rfl, _, rfl, hb_k0⟩
set_option maxRecDepth 20000 in
theorem sb_150_144 {m m0 : ms} (hJ : K m) (hR : RL 2 m0 m)   : tb_wp L xs 150 144 [] [] (HH s (MC m) D) (NZ 2 m0 s D) := by
  refine wp0 rfl rfl ?_
  exact wpL rfl rfl (sb_150_145 hJ hR (0) b0)
set_option maxRecDepth 20000 in
theorem sb_150_140 {m m0 : ms} (hJ : K m) (hR : RL 2 m0 m)   : tb_wp L xs 150 140 [] [] (HH s (MC m) D) (NZ 2 m0 s D) := by
  refine wp0 rfl rfl ?_
  refine wp2 rfl rfl ?_
  exact wpL rfl rfl (sb_150_145 hJ hR (1) b1)
set_option maxRecDepth 20000 in
theorem sb_150_91 (n : Nat) : ∀ {m m0 : ms} (hJ : K m) (hR : RL 2 m0 m) (l1 : Int32) (l2 : Int32) (l3 : Int32) (hb_l1 : b01 l1) (hn_l3 : 0 ≤ Int32.toInt l3) (hm : ((3 : Int32).toInt - (l3 : Int32).toInt).toNat < n), tb_wp L xs 150 91 [(0, .ref 24), (1, .int l1), (2, .int l2), (3, .int l3)] [] (HH s (MC m) D) (NZ 2 m0 s D) := by
  induction n with
  | zero => intro m m0 hJ hR l1 l2 l3 hb_l1 hn_l3 hm; exact absurd hm (Nat.not_lt_zero _)
  | succ n ih =>
    intro m m0 hJ hR l1 l2 l3 hb_l1 hn_l3 hm
    refine wp1 rfl rfl ?_
    refine wp0 rfl rfl ?_
    refine wp2b rfl rfl (fun c1 => ?_) (fun c1 => ?_)
    · refine wp1 rfl rfl ?_
      refine wp2b rfl rfl (fun c2 => ?_) (fun c2 => ?_)
      · exact wpL rfl rfl (sb_150_144 hJ hR )
      · refine wp1 rfl rfl ?_
        refine wp0 rfl rfl ?_
        refine wp2b rfl rfl (fun c3 => ?_) (fun c3 => ?_)
        · exact wpL rfl rfl (sb_150_144 hJ hR )
        · refine wp1 rfl rfl ?_
          refine wp2b rfl rfl (fun c4 => ?_) (fun c4 => ?_)
          · exact wpL rfl rfl (sb_150_140 hJ hR )
          · refine wp1 rfl rfl ?_
            refine wp4 rfl rfl (mf_155 hJ ) (fun rv h1 hq => ?_)
            obtain ⟨s6, hJ8, D7, rfl, x9, rfl, hb_x9⟩ := hq
            refine wp2b rfl rfl (fun c10 => ?_) (fun c10 => ?_)
            · exact wpL rfl rfl (sb_150_144 hJ8 (RLt hR D7) )
            · exact wpL rfl rfl (sb_150_140 hJ8 (RLt hR D7) )
    · refine wp1 rfl rfl ?_
      refine wp1 rfl rfl ?_
      refine wp3 rfl (am_getf rfl rfl) ?_
      refine wp1 rfl rfl ?_
      refine wp3 rfl (am_iald rfl (by simp only [Int32.lt_iff_toInt_lt, Int32.le_iff_toInt_le, ← Int32.toInt_inj] at c1; have hnn := hn_l3; have e0 : (3 : Int32).toInt = 3 := rfl; have g0 : (Int32.ofNat 3).toInt = 3 := rfl; exact am_in_of (by omega) (by omega))) ?_
      refine wp0 rfl rfl ?_
      refine wp2b rfl rfl (fun c11 => ?_) (fun c11 => ?_)
      · refine wp0 rfl rfl ?_
        refine wp2 rfl rfl ?_
        refine wp0 rfl rfl ?_
        refine wpTi (fun z12 ez12 => ?_)
        refine wp1 rfl rfl ?_
        refine wpV (lv' := [(0, .ref 24), (1, .int l1), (2, .int z12), (3, .int l3)]) rfl ?_
        refine wp1 rfl rfl ?_
        refine wpV (lv' := [(0, .ref 24), (1, .int l1), (2, .int z12), (3, .int (l3 + 1))]) rfl ?_
        refine wp2 rfl rfl ?_
        exact wpL rfl rfl (ih hJ hR (l1) (z12) ((l3 + 1)) hb_l1 (i32_upp c1 hn_l3) (i32_up c1 hm))
      · refine wp0 rfl rfl ?_
        refine wp0 rfl rfl ?_
        refine wpTi (fun z13 ez13 => ?_)
        refine wp1 rfl rfl ?_
        refine wpV (lv' := [(0, .ref 24), (1, .int l1), (2, .int z13), (3, .int l3)]) rfl ?_
        refine wp1 rfl rfl ?_
        refine wpV (lv' := [(0, .ref 24), (1, .int l1), (2, .int z13), (3, .int (l3 + 1))]) rfl ?_
        refine wp2 rfl rfl ?_
        exact wpL rfl rfl (ih hJ hR (l1) (z13) ((l3 + 1)) hb_l1 (i32_upp c1 hn_l3) (i32_up c1 hm))
set_option maxRecDepth 20000 in
theorem sb_150_86 {m m0 : ms} (hJ : K m) (hR : RL 2 m0 m) (k0 : Int32) (hb_k0 : b01 k0) : tb_wp L xs 150 86 [(0, .ref 24)] [.int k0] (HH s (MC m) D) (NZ 2 m0 s D) := by
  refine wp1 rfl rfl ?_
  refine wpV (lv' := [(0, .ref 24), (1, .int k0)]) rfl ?_
  refine wp0 rfl rfl ?_
  refine wp1 rfl rfl ?_
  refine wpV (lv' := [(0, .ref 24), (1, .int k0), (2, .int 0)]) rfl ?_
  refine wp0 rfl rfl ?_
  refine wp1 rfl rfl ?_
  refine wpV (lv' := [(0, .ref 24), (1, .int k0), (2, .int 0), (3, .int 0)]) rfl ?_
  exact wpL rfl rfl (sb_150_91 _ hJ hR (k0) (0) (0) hb_k0 (by decide) (Nat.lt_succ_self _))
set_option maxRecDepth 20000 in
theorem sb_150_74 {m m0 : ms} (hJ : K m) (hR : RL 2 m0 m)   : tb_wp L xs 150 74 [(0, .ref 24)] [] (HH s (MC m) D) (NZ 2 m0 s D) := by
  refine wp1 rfl rfl ?_
  refine wp3 rfl (am_getf rfl rfl) ?_
  refine wp2b rfl rfl (fun c14 => ?_) (fun c14 => ?_)
  · refine wp0 rfl rfl ?_
    refine wp2 rfl rfl ?_
    exact wpL rfl rfl (sb_150_86 hJ hR (1) b1)
  · refine wp0 rfl rfl ?_
    exact wpL rfl rfl (sb_150_86 hJ hR (0) b0)
set_option maxRecDepth 20000 in
theorem sb_150_70 {m m0 : ms} (hJ : K m) (hR : RL 2 m0 m)   : tb_wp L xs 150 70 [(0, .ref 24)] [] (HH s (MC m) D) (NZ 2 m0 s D) := by
  refine wp0 rfl rfl ?_
  refine wp2 rfl rfl ?_
  exact wpL rfl rfl (sb_150_86 hJ hR (0) b0)
set_option maxRecDepth 20000 in
theorem sb_150_30 {m m0 : ms} (hJ : K m) (hR : RL 2 m0 m)   : tb_wp L xs 150 30 [] [] (HH s (MC m) D) (NZ 2 m0 s D) := by
  refine wp0 rfl rfl ?_
  exact wp5z rfl rfl b0 ⟨_, hJ, hR, rfl, _, rfl, b0⟩
set_option maxRecDepth 20000 in
theorem sb_150_0 {m m0 : ms} (hJ : K m) (hR : RL 2 m0 m)   : tb_wp L xs 150 0 [(0, .ref 24)] [] (HH s (MC m) D) (NZ 2 m0 s D) := by
  refine wp1 rfl rfl ?_
  refine wp3 rfl (am_getf rfl rfl) ?_
  refine wp2b rfl rfl (fun c15 => ?_) (fun c15 => ?_)
  · exact wpL rfl rfl (sb_150_30 hJ hR )
  · refine wp1 rfl rfl ?_
    refine wp3 rfl (am_getf rfl rfl) ?_
    refine wp0 rfl rfl ?_
    refine wp2b rfl rfl (fun c16 => ?_) (fun c16 => ?_)
    · exact wpL rfl rfl (sb_150_30 hJ hR )
    · refine wp1 rfl rfl ?_
      refine wp4 rfl rfl (mf_180 hJ ) (fun rv h1 hq => ?_)
      obtain ⟨s18, hJ20, D19, rfl, x21, rfl, hb_x21⟩ := hq
      refine wp2b rfl rfl (fun c22 => ?_) (fun c22 => ?_)
      · exact wpL rfl rfl (sb_150_30 hJ20 (RLt hR D19) )
      · refine wp1 rfl rfl ?_
        refine wp4 rfl rfl (mf_161 hJ20 ) (fun rv h1 hq => ?_)
        obtain ⟨s24, hJ26, D25, rfl, x27, rfl, hb_x27⟩ := hq
        refine wp2b rfl rfl (fun c28 => ?_) (fun c28 => ?_)
        · exact wpL rfl rfl (sb_150_30 hJ26 (RLt (RLt hR D19) D25) )
        · refine wp1 rfl rfl ?_
          refine wp3 rfl (am_getf rfl rfl) ?_
          refine wp0 rfl rfl ?_
          refine wp2b rfl rfl (fun c29 => ?_) (fun c29 => ?_)
          · exact wpL rfl rfl (sb_150_74 hJ26 (RLt (RLt hR D19) D25) )
          · refine wp1 rfl rfl ?_
            refine wp3 rfl (am_getf rfl rfl) ?_
            refine wp0 rfl rfl ?_
            refine wp2b rfl rfl (fun c30 => ?_) (fun c30 => ?_)
            · exact wpL rfl rfl (sb_150_74 hJ26 (RLt (RLt hR D19) D25) )
            · refine wp1 rfl rfl ?_
              refine wp3 rfl (am_getf rfl rfl) ?_
              refine wp2b rfl rfl (fun c31 => ?_) (fun c31 => ?_)
              · exact wpL rfl rfl (sb_150_70 hJ26 (RLt (RLt hR D19) D25) )
              · refine wp1 rfl rfl ?_
                refine wp3 rfl (am_getf rfl rfl) ?_
                refine wp0 rfl rfl ?_
                refine wp2b rfl rfl (fun c32 => ?_) (fun c32 => ?_)
                · exact wpL rfl rfl (sb_150_70 hJ26 (RLt (RLt hR D19) D25) )
                · refine wp0 rfl rfl ?_
                  refine wp2 rfl rfl ?_
                  exact wpL rfl rfl (sb_150_86 hJ26 (RLt (RLt hR D19) D25) (1) b1)
theorem mf_150 {m : ms} (hJ : K m)   : tb_wp L xs 150 0 (lv_args 0 [.ref 24]) [] (HH s (MC m) D) (NZ 2 m s D) := sb_150_0 hJ RLr 
/- 181: FlagMachineModel.spread(II)V -/
set_option maxRecDepth 20000 in
theorem sb_181_60 {m m0 : ms} (hJ : K m) (hR : RL 2 m0 m)   : tb_wp L xs 181 60 [] [] (HH s (MC m) D) (NV 2 m0 s D) := by
  exact wp5 rfl rfl ⟨_, hJ, hR, rfl, rfl⟩
set_option maxRecDepth 20000 in
theorem sb_181_57 {m m0 : ms} (hJ : K m) (hR : RL 2 m0 m) (k2 : Int32) (k3 : Int64)  : tb_wp L xs 181 57 [] [.long k3, .int k2, .int 0, .ref 24] (HH s (MC m) D) (NV 2 m0 s D) := by
  refine wp4 rfl rfl (mf_176 hJ (0) (k2) (k3) (by decide)) (fun rv h1 hq => ?_)
  obtain ⟨s2, hJ4, D3, rfl, rfl⟩ := hq
  exact wpL rfl rfl (sb_181_60 hJ4 (RLt hR D3) )
set_option maxRecDepth 20000 in
theorem sb_181_33 {m m0 : ms} (hJ : K m) (hR : RL 2 m0 m) (k2 : Int32) (k3 : Int64)  : tb_wp L xs 181 33 [] [.long k3, .int k2, .int 2, .ref 24] (HH s (MC m) D) (NV 2 m0 s D) := by
  refine wp4 rfl rfl (mf_176 hJ (2) (k2) (k3) (by decide)) (fun rv h1 hq => ?_)
  obtain ⟨s7, hJ9, D8, rfl, rfl⟩ := hq
  refine wp2 rfl rfl ?_
  exact wpL rfl rfl (sb_181_60 hJ9 (RLt hR D8) )
set_option maxRecDepth 20000 in
theorem sb_181_0 {m m0 : ms} (hJ : K m) (hR : RL 2 m0 m) (l1 : Int32) (l2 : Int32)  : tb_wp L xs 181 0 [(0, .ref 24), (1, .int l1), (2, .int l2)] [] (HH s (MC m) D) (NV 2 m0 s D) := by
  refine wp1 rfl rfl ?_
  refine wp3 rfl (am_getf rfl rfl) ?_
  refine wp0 rfl rfl ?_
  refine wp3 rfl (am_lald rfl (by decide)) ?_
  refine wpTl (fun z11 ez11 => ?_)
  refine wp1 rfl rfl ?_
  refine wpV (lv' := [(0, .ref 24), (1, .int l1), (2, .int l2), (3, .long z11)]) rfl ?_
  refine wp1 rfl rfl ?_
  refine wp0 rfl rfl ?_
  refine wp2b rfl rfl (fun c12 => ?_) (fun c12 => ?_)
  · refine wp1 rfl rfl ?_
    refine wp0 rfl rfl ?_
    refine wp1 rfl rfl ?_
    refine wp1 rfl rfl ?_
    refine wp1 rfl rfl ?_
    refine wp4 rfl rfl (mf_189 hJ (z11) (l2)) (fun rv h1 hq => ?_)
    obtain ⟨s14, hJ16, D15, rfl, x17, rfl⟩ := hq
    refine wp0 rfl rfl ?_
    refine wp0 rfl rfl ?_
    refine wp2b rfl rfl (fun c18 => ?_) (fun c18 => ?_)
    · refine wp0 rfl rfl ?_
      refine wp2 rfl rfl ?_
      exact wpL rfl rfl (sb_181_33 hJ16 (RLt hR D15) (l2) ((-1)))
    · refine wp0 rfl rfl ?_
      exact wpL rfl rfl (sb_181_33 hJ16 (RLt hR D15) (l2) (0))
  · refine wp1 rfl rfl ?_
    refine wp0 rfl rfl ?_
    refine wp1 rfl rfl ?_
    refine wp1 rfl rfl ?_
    refine wp0 rfl rfl ?_
    refine wp2b rfl rfl (fun c19 => ?_) (fun c19 => ?_)
    · refine wp1 rfl rfl ?_
      refine wp0 rfl rfl ?_
      refine wp0 rfl rfl ?_
      refine wp0 rfl rfl ?_
      refine wp2 rfl rfl ?_
      exact wpL rfl rfl (sb_181_57 hJ hR (l2) ((Int32.toInt64 (Int16.toInt32 (Int32.toInt16 (Int64.toInt32 z11))))))
    · refine wp1 rfl rfl ?_
      refine wp0 rfl rfl ?_
      refine wp0 rfl rfl ?_
      exact wpL rfl rfl (sb_181_57 hJ hR (l2) ((Int32.toInt64 (Int64.toInt32 z11))))
theorem mf_181 {m : ms} (hJ : K m) (l1 : Int32) (l2 : Int32)  : tb_wp L xs 181 0 (lv_args 0 [.ref 24, .int l1, .int l2]) [] (HH s (MC m) D) (NV 2 m s D) := sb_181_0 hJ RLr l1 l2
/- 186: FlagMachineModel.subtract(JJZI)J -/
set_option maxRecDepth 20000 in
theorem sb_186_73 {m m0 : ms} (hJ : K m) (hR : RL 2 m0 m) (l6 : Int32) (l7 : Int64) (k1 : Int32) (hb_k1 : b01 k1) : tb_wp L xs 186 73 [(0, .ref 24), (6, .int l6), (7, .long l7)] [.int k1, .ref 24] (HH s (MC m) D) (NJ 2 m0 s D) := by
  refine wp3 rfl (am_putf rfl (Nat.le_of_ble_eq_true rfl) (b01_nar hb_k1) (b01_fit hb_k1)) ?_
  have hJ1 := K_over hJ hb_k1
  refine wpH (h' := HH s (MC (t_over m k1)) D) rfl ?_
  refine wp1 rfl rfl ?_
  refine wp1 rfl rfl ?_
  refine wp1 rfl rfl ?_
  refine wp4 rfl rfl (mf_191 hJ1 (l7) (l6)) (fun rv h1 hq => ?_)
  obtain ⟨s3, hJ5, D4, rfl, rfl⟩ := hq
  refine wp1 rfl rfl ?_
  exact wp5 rfl rfl ⟨_, hJ5, (RLt hR D4), rfl, _, rfl⟩
set_option maxRecDepth 20000 in
theorem sb_186_46 {m m0 : ms} (hJ : K m) (hR : RL 2 m0 m) (l1 : Int64) (l3 : Int64) (l6 : Int32) (l7 : Int64) (k1 : Int32) (hb_k1 : b01 k1) : tb_wp L xs 186 46 [(0, .ref 24), (1, .long l1), (3, .long l3), (6, .int l6), (7, .long l7)] [.int k1, .ref 24] (HH s (MC m) D) (NJ 2 m0 s D) := by
  refine wp3 rfl (am_putf rfl (Nat.le_of_ble_eq_true rfl) (b01_nar hb_k1) (b01_fit hb_k1)) ?_
  have hJ7 := K_carry hJ hb_k1
  refine wpH (h' := HH s (MC (t_carry m k1)) D) rfl ?_
  refine wp1 rfl rfl ?_
  refine wp1 rfl rfl ?_
  refine wp1 rfl rfl ?_
  refine wp0 rfl rfl ?_
  refine wp1 rfl rfl ?_
  refine wp1 rfl rfl ?_
  refine wp0 rfl rfl ?_
  refine wp0 rfl rfl ?_
  refine wp1 rfl rfl ?_
  refine wp4 rfl rfl (mf_189 hJ7 (((l1 ^^^ l3) &&& (l1 ^^^ l7))) (l6)) (fun rv h1 hq => ?_)
  obtain ⟨s9, hJ11, D10, rfl, x12, rfl⟩ := hq
  refine wp0 rfl rfl ?_
  refine wp0 rfl rfl ?_
  refine wp2b rfl rfl (fun c13 => ?_) (fun c13 => ?_)
  · refine wp0 rfl rfl ?_
    refine wp2 rfl rfl ?_
    exact wpL rfl rfl (sb_186_73 hJ11 (RLt hR D10) (l6) (l7) (1) b1)
  · refine wp0 rfl rfl ?_
    exact wpL rfl rfl (sb_186_73 hJ11 (RLt hR D10) (l6) (l7) (0) b0)
set_option maxRecDepth 20000 in
theorem sb_186_45 {m m0 : ms} (hJ : K m) (hR : RL 2 m0 m) (l1 : Int64) (l3 : Int64) (l6 : Int32) (l7 : Int64)  : tb_wp L xs 186 45 [(0, .ref 24), (1, .long l1), (3, .long l3), (6, .int l6), (7, .long l7)] [.ref 24] (HH s (MC m) D) (NJ 2 m0 s D) := by
  refine wp0 rfl rfl ?_
  exact wpL rfl rfl (sb_186_46 hJ hR (l1) (l3) (l6) (l7) (0) b0)
set_option maxRecDepth 20000 in
theorem sb_186_41 {m m0 : ms} (hJ : K m) (hR : RL 2 m0 m) (l1 : Int64) (l3 : Int64) (l6 : Int32) (l7 : Int64)  : tb_wp L xs 186 41 [(0, .ref 24), (1, .long l1), (3, .long l3), (6, .int l6), (7, .long l7)] [.ref 24] (HH s (MC m) D) (NJ 2 m0 s D) := by
  refine wp0 rfl rfl ?_
  refine wp2 rfl rfl ?_
  exact wpL rfl rfl (sb_186_46 hJ hR (l1) (l3) (l6) (l7) (1) b1)
set_option maxRecDepth 20000 in
theorem sb_186_13 {m m0 : ms} (hJ : K m) (hR : RL 2 m0 m) (l1 : Int64) (l3 : Int64) (l5 : Int32) (l6 : Int32) (k0 : Int64) (k1 : Int64) (hb_l5 : b01 l5) : tb_wp L xs 186 13 [(0, .ref 24), (1, .long l1), (3, .long l3), (5, .int l5), (6, .int l6)] [.long k1, .long k0] (HH s (MC m) D) (NJ 2 m0 s D) := by
  refine wp0 rfl rfl ?_
  refine wp1 rfl rfl ?_
  refine wp4 rfl rfl (mf_135 hJ ((k0 - k1)) (l6)) (fun rv h1 hq => ?_)
  obtain ⟨s15, hJ17, D16, rfl, x18, rfl⟩ := hq
  refine wp1 rfl rfl ?_
  refine wpV (lv' := [(0, .ref 24), (1, .long l1), (3, .long l3), (5, .int l5), (6, .int l6), (7, .long x18)]) rfl ?_
  refine wp1 rfl rfl ?_
  refine wp1 rfl rfl ?_
  refine wp1 rfl rfl ?_
  refine wp4 rfl rfl (mf_131 hJ17 (l1) (l3)) (fun rv h1 hq => ?_)
  obtain ⟨s20, hJ22, D21, rfl, x23, rfl, hb_x23⟩ := hq
  refine wp2b rfl rfl (fun c24 => ?_) (fun c24 => ?_)
  · refine wp1 rfl rfl ?_
    refine wp2b rfl rfl (fun c25 => ?_) (fun c25 => ?_)
    · exact wpL rfl rfl (sb_186_45 hJ22 (RLt (RLt hR D16) D21) (l1) (l3) (l6) (x18))
    · refine wp1 rfl rfl ?_
      refine wp1 rfl rfl ?_
      refine wp0 rfl rfl ?_
      refine wp2b rfl rfl (fun c26 => ?_) (fun c26 => ?_)
      · exact wpL rfl rfl (sb_186_41 hJ22 (RLt (RLt hR D16) D21) (l1) (l3) (l6) (x18))
      · exact wpL rfl rfl (sb_186_45 hJ22 (RLt (RLt hR D16) D21) (l1) (l3) (l6) (x18))
  · exact wpL rfl rfl (sb_186_41 hJ22 (RLt (RLt hR D16) D21) (l1) (l3) (l6) (x18))
set_option maxRecDepth 20000 in
theorem sb_186_0 {m m0 : ms} (hJ : K m) (hR : RL 2 m0 m) (l1 : Int64) (l3 : Int64) (l5 : Int32) (l6 : Int32) (hb_l5 : b01 l5) : tb_wp L xs 186 0 [(0, .ref 24), (1, .long l1), (3, .long l3), (5, .int l5), (6, .int l6)] [] (HH s (MC m) D) (NJ 2 m0 s D) := by
  refine wp1 rfl rfl ?_
  refine wp1 rfl rfl ?_
  refine wp0 rfl rfl ?_
  refine wp1 rfl rfl ?_
  refine wp2b rfl rfl (fun c27 => ?_) (fun c27 => ?_)
  · refine wp0 rfl rfl ?_
    exact wpL rfl rfl (sb_186_13 hJ hR (l1) (l3) (l5) (l6) ((l1 - l3)) (0) hb_l5)
  · refine wp0 rfl rfl ?_
    refine wp2 rfl rfl ?_
    exact wpL rfl rfl (sb_186_13 hJ hR (l1) (l3) (l5) (l6) ((l1 - l3)) (1) hb_l5)
theorem mf_186 {m : ms} (hJ : K m) (l1 : Int64) (l3 : Int64) (l5 : Int32) (l6 : Int32) (hb_l5 : b01 l5) : tb_wp L xs 186 0 (lv_args 0 [.ref 24, .long l1, .long l3, .int l5, .int l6]) [] (HH s (MC m) D) (NJ 2 m s D) := sb_186_0 hJ RLr l1 l3 l5 l6 hb_l5
end SM

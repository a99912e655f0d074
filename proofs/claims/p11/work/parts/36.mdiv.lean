theorem am_ldiv {v : Value} {x y : Int64} {st : List Value} (hy : y ≠ 0) : am_pure .ldiv v (.long y :: .long x :: st) = some (.long (x / y) :: st) := by
  simp [am_pure, hy]
section SM6
variable {L : Nat} {xs : Nat → Int32} {s : cs} {D : List pgT}
/- 137: FlagMachineModel.divideSmall(ZIJ)V -/
set_option maxRecDepth 20000 in
theorem sb_137_270 {m m0 : ms} (hJ : K m) (hR : RL 2 m0 m)    : tb_wp L xs 137 270 [] [] (HH s (MC m) D) (NV 2 m0 s D) := by
  exact wp5 rfl rfl ⟨_, hJ, hR, rfl, rfl⟩
set_option maxRecDepth 20000 in
theorem sb_137_197 {m m0 : ms} (hJ : K m) (hR : RL 2 m0 m) (l2 : Int32) (l9 : Int64) (l11 : Int64) (k0 : Int32) (hb_k0 : b01 k0)  : tb_wp L xs 137 197 [(0, .ref 24), (2, .int l2), (9, .long l9), (11, .long l11)] [.int k0] (HH s (MC m) D) (NV 2 m0 s D) := by
  refine wp1 rfl rfl ?_
  refine wpV (lv' := [(0, .ref 24), (2, .int l2), (9, .long l9), (11, .long l11), (13, .int k0)]) rfl ?_
  refine wp1 rfl rfl ?_
  refine wp2b rfl rfl (fun c89 => ?_) (fun c89 => ?_)
  · refine wp1 rfl rfl ?_
    refine wp0 rfl rfl ?_
    refine wp0 rfl rfl ?_
    refine wp4 rfl rfl (mf_183 hJ (5) (0)) (fun rv h1 hq => ?_)
    obtain ⟨s91, hJ93, D92, rfl, rfl⟩ := hq
    refine wp2 rfl rfl ?_
    exact wpL rfl rfl (sb_137_270 hJ93 (RLt hR D92) )
  · refine wp1 rfl rfl ?_
    refine wp0 rfl rfl ?_
    refine wp2b rfl rfl (fun c95 => ?_) (fun c95 => ?_)
    · refine wp1 rfl rfl ?_
      refine wp3 rfl (am_getf rfl rfl) ?_
      refine wp0 rfl rfl ?_
      refine wp1 rfl rfl ?_
      refine wp3 rfl (am_getf rfl rfl) ?_
      refine wp0 rfl rfl ?_
      refine wp3 rfl (am_lald rfl (by decide)) ?_
      refine wp0 rfl rfl ?_
      refine wp0 rfl rfl ?_
      refine wp1 rfl rfl ?_
      refine wp0 rfl rfl ?_
      refine wp0 rfl rfl ?_
      refine wp0 rfl rfl ?_
      refine wp0 rfl rfl ?_
      refine wp0 rfl rfl ?_
      refine wp1 rfl rfl ?_
      refine wp0 rfl rfl ?_
      refine wp0 rfl rfl ?_
      refine wp0 rfl rfl ?_
      refine wp3 rfl (am_last rfl (by decide)) ?_
      have hJ96 : K (t_registers0 m (vp_updL (q_registers0 m) (Int32.toNatClampNeg 0) ((((q_registers0 m (Int32.toNatClampNeg 0)) &&& (-65536)) ||| ((l11 &&& 255) <<< (Int32.toInt64 8 &&& 63))) ||| (l9 &&& 255)))) := hJ
      refine wpH (h' := HH s (MC (t_registers0 m (vp_updL (q_registers0 m) (Int32.toNatClampNeg 0) ((((q_registers0 m (Int32.toNatClampNeg 0)) &&& (-65536)) ||| ((l11 &&& 255) <<< (Int32.toInt64 8 &&& 63))) ||| (l9 &&& 255))))) D) rfl ?_
      refine wp2 rfl rfl ?_
      exact wpL rfl rfl (sb_137_270 hJ96 hR )
    · refine wp1 rfl rfl ?_
      refine wp0 rfl rfl ?_
      refine wp0 rfl rfl ?_
      refine wp1 rfl rfl ?_
      refine wp4 rfl rfl (mf_176 hJ (0) (4) (l9) (by decide)) (fun rv h1 hq => ?_)
      obtain ⟨s98, hJ100, D99, rfl, rfl⟩ := hq
      refine wp1 rfl rfl ?_
      refine wp0 rfl rfl ?_
      refine wp0 rfl rfl ?_
      refine wp1 rfl rfl ?_
      refine wp4 rfl rfl (mf_176 hJ100 (2) (4) (l11) (by decide)) (fun rv h1 hq => ?_)
      obtain ⟨s103, hJ105, D104, rfl, rfl⟩ := hq
      exact wpL rfl rfl (sb_137_270 hJ105 (RLt (RLt hR D99) D104) )
set_option maxRecDepth 20000 in
theorem sb_137_176 {m m0 : ms} (hJ : K m) (hR : RL 2 m0 m) (l2 : Int32) (l9 : Int64) (l11 : Int64)   : tb_wp L xs 137 176 [(0, .ref 24), (2, .int l2), (9, .long l9), (11, .long l11)] [] (HH s (MC m) D) (NV 2 m0 s D) := by
  refine wp0 rfl rfl ?_
  refine wp2 rfl rfl ?_
  exact wpL rfl rfl (sb_137_197 hJ hR (l2) (l9) (l11) (0) b0)
set_option maxRecDepth 20000 in
theorem sb_137_172 {m m0 : ms} (hJ : K m) (hR : RL 2 m0 m) (l2 : Int32) (l9 : Int64) (l11 : Int64)   : tb_wp L xs 137 172 [(0, .ref 24), (2, .int l2), (9, .long l9), (11, .long l11)] [] (HH s (MC m) D) (NV 2 m0 s D) := by
  refine wp0 rfl rfl ?_
  refine wp2 rfl rfl ?_
  exact wpL rfl rfl (sb_137_197 hJ hR (l2) (l9) (l11) (1) b1)
set_option maxRecDepth 20000 in
theorem sb_137_138 {m m0 : ms} (hJ : K m) (hR : RL 2 m0 m) (l1 : Int32) (l2 : Int32) (l5 : Int64) (l7 : Int64) (l9 : Int64) (l11 : Int64) (hb_l1 : b01 l1)  : tb_wp L xs 137 138 [(0, .ref 24), (1, .int l1), (2, .int l2), (5, .long l5), (7, .long l7), (9, .long l9), (11, .long l11)] [] (HH s (MC m) D) (NV 2 m0 s D) := by
  refine wp1 rfl rfl ?_
  refine wp2b rfl rfl (fun c107 => ?_) (fun c107 => ?_)
  · refine wp1 rfl rfl ?_
    refine wp1 rfl rfl ?_
    refine wp1 rfl rfl ?_
    refine wp4 rfl rfl (mf_135 hJ (l9) (l2)) (fun rv h1 hq => ?_)
    obtain ⟨s109, hJ111, D110, rfl, x112, rfl⟩ := hq
    refine wp0 rfl rfl ?_
    refine wp2b rfl rfl (fun c113 => ?_) (fun c113 => ?_)
    · refine wp0 rfl rfl ?_
      refine wp2 rfl rfl ?_
      exact wpL rfl rfl (sb_137_197 hJ111 (RLt hR D110) (l2) (l9) (l11) (1) b1)
    · refine wp0 rfl rfl ?_
      exact wpL rfl rfl (sb_137_197 hJ111 (RLt hR D110) (l2) (l9) (l11) (0) b0)
  · refine wp1 rfl rfl ?_
    refine wp1 rfl rfl ?_
    refine wp1 rfl rfl ?_
    refine wp4 rfl rfl (mf_178 hJ (l9) (l2)) (fun rv h1 hq => ?_)
    obtain ⟨s115, hJ117, D116, rfl, x118, rfl⟩ := hq
    refine wp0 rfl rfl ?_
    refine wp2b rfl rfl (fun c119 => ?_) (fun c119 => ?_)
    · refine wp1 rfl rfl ?_
      refine wp0 rfl rfl ?_
      refine wp0 rfl rfl ?_
      refine wp2b rfl rfl (fun c120 => ?_) (fun c120 => ?_)
      · refine wp1 rfl rfl ?_
        refine wp0 rfl rfl ?_
        refine wp0 rfl rfl ?_
        refine wp2b rfl rfl (fun c121 => ?_) (fun c121 => ?_)
        · exact wpL rfl rfl (sb_137_176 hJ117 (RLt hR D116) (l2) (l9) (l11))
        · exact wpL rfl rfl (sb_137_172 hJ117 (RLt hR D116) (l2) (l9) (l11))
      · exact wpL rfl rfl (sb_137_172 hJ117 (RLt hR D116) (l2) (l9) (l11))
    · exact wpL rfl rfl (sb_137_176 hJ117 (RLt hR D116) (l2) (l9) (l11))
set_option maxRecDepth 20000 in
theorem sb_137_99 {m m0 : ms} (hJ : K m) (hR : RL 2 m0 m) (l1 : Int32) (l2 : Int32) (l5 : Int64) (l7 : Int64) (k0 : Int64) (hb_l1 : b01 l1)  : tb_wp L xs 137 99 [(0, .ref 24), (1, .int l1), (2, .int l2), (5, .long l5), (7, .long l7)] [.long k0] (HH s (MC m) D) (NV 2 m0 s D) := by
  refine wp1 rfl rfl ?_
  refine wpV (lv' := [(0, .ref 24), (1, .int l1), (2, .int l2), (5, .long l5), (7, .long l7), (9, .long k0)]) rfl ?_
  refine wp1 rfl rfl ?_
  refine wp1 rfl rfl ?_
  refine wp1 rfl rfl ?_
  refine wp0 rfl rfl ?_
  refine wp0 rfl rfl ?_
  refine wpTl (fun z122 ez122 => ?_)
  refine wp1 rfl rfl ?_
  refine wpV (lv' := [(0, .ref 24), (1, .int l1), (2, .int l2), (5, .long l5), (7, .long l7), (9, .long k0), (11, .long z122)]) rfl ?_
  refine wp1 rfl rfl ?_
  refine wp2b rfl rfl (fun c123 => ?_) (fun c123 => ?_)
  · refine wp1 rfl rfl ?_
    refine wp1 rfl rfl ?_
    refine wp4 rfl rfl (mf_131 hJ (z122) (l7)) (fun rv h1 hq => ?_)
    obtain ⟨s125, hJ127, D126, rfl, x128, rfl, hb_x128⟩ := hq
    refine wp2b rfl rfl (fun c129 => ?_) (fun c129 => ?_)
    · refine wp1 rfl rfl ?_
      refine wp0 rfl rfl ?_
      refine wp0 rfl rfl ?_
      refine wpTl (fun z130 ez130 => ?_)
      refine wp1 rfl rfl ?_
      refine wpV (lv' := [(0, .ref 24), (1, .int l1), (2, .int l2), (5, .long l5), (7, .long l7), (9, .long z130), (11, .long z122)]) rfl ?_
      refine wp1 rfl rfl ?_
      refine wp1 rfl rfl ?_
      refine wp0 rfl rfl ?_
      refine wpTl (fun z131 ez131 => ?_)
      refine wp1 rfl rfl ?_
      refine wpV (lv' := [(0, .ref 24), (1, .int l1), (2, .int l2), (5, .long l5), (7, .long l7), (9, .long z130), (11, .long z131)]) rfl ?_
      exact wpL rfl rfl (sb_137_138 hJ127 (RLt hR D126) (l1) (l2) (l5) (l7) (z130) (z131) hb_l1)
    · exact wpL rfl rfl (sb_137_138 hJ127 (RLt hR D126) (l1) (l2) (l5) (l7) (k0) (z122) hb_l1)
  · exact wpL rfl rfl (sb_137_138 hJ hR (l1) (l2) (l5) (l7) (k0) (z122) hb_l1)
set_option maxRecDepth 20000 in
theorem sb_137_82 {m m0 : ms} (hJ : K m) (hR : RL 2 m0 m) (l1 : Int32) (l2 : Int32) (l5 : Int64) (l7 : Int64) (hb_l1 : b01 l1) (hz_l7 : l7 ≠ 0)  : tb_wp L xs 137 82 [(0, .ref 24), (1, .int l1), (2, .int l2), (5, .long l5), (7, .long l7)] [] (HH s (MC m) D) (NV 2 m0 s D) := by
  refine wp1 rfl rfl ?_
  refine wp1 rfl rfl ?_
  refine wp0 rfl (am_ldiv hz_l7) ?_
  refine wp2 rfl rfl ?_
  exact wpL rfl rfl (sb_137_99 hJ hR (l1) (l2) (l5) (l7) ((l5 / l7)) hb_l1)
set_option maxRecDepth 20000 in
theorem sb_137_69 {m m0 : ms} (hJ : K m) (hR : RL 2 m0 m) (l1 : Int32) (l2 : Int32) (l5 : Int64) (k0 : Int64) (hb_l1 : b01 l1) (hz_k0 : k0 ≠ 0)  : tb_wp L xs 137 69 [(0, .ref 24), (1, .int l1), (2, .int l2), (5, .long l5)] [.long k0] (HH s (MC m) D) (NV 2 m0 s D) := by
  refine wp1 rfl rfl ?_
  refine wpV (lv' := [(0, .ref 24), (1, .int l1), (2, .int l2), (5, .long l5), (7, .long k0)]) rfl ?_
  refine wp1 rfl rfl ?_
  refine wp2b rfl rfl (fun c132 => ?_) (fun c132 => ?_)
  · refine wp1 rfl rfl ?_
    refine wp0 rfl rfl ?_
    refine wp0 rfl rfl ?_
    refine wp2b rfl rfl (fun c133 => ?_) (fun c133 => ?_)
    · refine wp1 rfl rfl ?_
      refine wp0 rfl rfl ?_
      refine wp0 rfl rfl ?_
      refine wp1 rfl rfl ?_
      refine wp0 rfl (am_ldiv hz_k0) ?_
      refine wp0 rfl rfl ?_
      refine wp0 rfl rfl ?_
      exact wpL rfl rfl (sb_137_99 hJ hR (l1) (l2) (l5) (k0) (((((Int64.toUInt64 l5 >>> ((Int32.toInt64 1).toUInt64 &&& Int64.toUInt64 63)).toInt64) / k0) <<< (Int32.toInt64 1 &&& 63))) hb_l1)
    · exact wpL rfl rfl (sb_137_82 hJ hR (l1) (l2) (l5) (k0) hb_l1 hz_k0)
  · exact wpL rfl rfl (sb_137_82 hJ hR (l1) (l2) (l5) (k0) hb_l1 hz_k0)
set_option maxRecDepth 20000 in
theorem sb_137_56 {m m0 : ms} (hJ : K m) (hR : RL 2 m0 m) (l1 : Int32) (l2 : Int32) (l3 : Int64) (l5 : Int64) (hb_l1 : b01 l1) (hS : l3 ≠ 0 ∧ sgF l3 l2 ≠ 0) : tb_wp L xs 137 56 [(0, .ref 24), (1, .int l1), (2, .int l2), (3, .long l3), (5, .long l5)] [] (HH s (MC m) D) (NV 2 m0 s D) := by
  refine wp1 rfl rfl ?_
  refine wp2b rfl rfl (fun c134 => ?_) (fun c134 => ?_)
  · refine wp1 rfl rfl ?_
    exact wpL rfl rfl (sb_137_69 hJ hR (l1) (l2) (l5) (l3) hb_l1 hS.1)
  · refine wp1 rfl rfl ?_
    refine wp1 rfl rfl ?_
    refine am_ev_at rfl rfl (ev_signed _ _) ?_
    refine wp2 rfl rfl ?_
    exact wpL rfl rfl (sb_137_69 hJ hR (l1) (l2) (l5) ((sgF l3 l2)) hb_l1 hS.2)
set_option maxRecDepth 20000 in
theorem sb_137_38 {m m0 : ms} (hJ : K m) (hR : RL 2 m0 m) (l1 : Int32) (l2 : Int32) (l3 : Int64) (k0 : Int64) (hb_l1 : b01 l1) (hS : l3 ≠ 0 ∧ sgF l3 l2 ≠ 0) : tb_wp L xs 137 38 [(0, .ref 24), (1, .int l1), (2, .int l2), (3, .long l3)] [.long k0] (HH s (MC m) D) (NV 2 m0 s D) := by
  refine wp1 rfl rfl ?_
  refine wpV (lv' := [(0, .ref 24), (1, .int l1), (2, .int l2), (3, .long l3), (5, .long k0)]) rfl ?_
  refine wp1 rfl rfl ?_
  refine wp0 rfl rfl ?_
  refine wp2b rfl rfl (fun c135 => ?_) (fun c135 => ?_)
  · refine wp1 rfl rfl ?_
    refine wp2b rfl rfl (fun c136 => ?_) (fun c136 => ?_)
    · exact wpL rfl rfl (sb_137_56 hJ hR (l1) (l2) (l3) (k0) hb_l1 hS)
    · refine wp1 rfl rfl ?_
      refine wp0 rfl rfl ?_
      refine wp0 rfl rfl ?_
      refine wp0 rfl rfl ?_
      refine wpTl (fun z137 ez137 => ?_)
      refine wp1 rfl rfl ?_
      refine wpV (lv' := [(0, .ref 24), (1, .int l1), (2, .int l2), (3, .long l3), (5, .long z137)]) rfl ?_
      exact wpL rfl rfl (sb_137_56 hJ hR (l1) (l2) (l3) (z137) hb_l1 hS)
  · exact wpL rfl rfl (sb_137_56 hJ hR (l1) (l2) (l3) (k0) hb_l1 hS)
set_option maxRecDepth 20000 in
theorem sb_137_0 {m m0 : ms} (hJ : K m) (hR : RL 2 m0 m) (l1 : Int32) (l2 : Int32) (l3 : Int64) (hb_l1 : b01 l1) (hS : l3 ≠ 0 ∧ sgF l3 l2 ≠ 0) : tb_wp L xs 137 0 [(0, .ref 24), (1, .int l1), (2, .int l2), (3, .long l3)] [] (HH s (MC m) D) (NV 2 m0 s D) := by
  refine wp1 rfl rfl ?_
  refine wp0 rfl rfl ?_
  refine wp2b rfl rfl (fun c138 => ?_) (fun c138 => ?_)
  · refine wp1 rfl rfl ?_
    refine wp3 rfl (am_getf rfl rfl) ?_
    refine wp0 rfl rfl ?_
    refine wp3 rfl (am_lald rfl (by decide)) ?_
    refine wp0 rfl rfl ?_
    refine wp0 rfl rfl ?_
    refine wp2 rfl rfl ?_
    exact wpL rfl rfl (sb_137_38 hJ hR (l1) (l2) (l3) (((q_registers0 m (Int32.toNatClampNeg 0)) &&& 65535)) hb_l1 hS)
  · refine wp1 rfl rfl ?_
    refine wp3 rfl (am_getf rfl rfl) ?_
    refine wp0 rfl rfl ?_
    refine wp3 rfl (am_lald rfl (by decide)) ?_
    refine wp0 rfl rfl ?_
    refine wp0 rfl rfl ?_
    refine wp1 rfl rfl ?_
    refine wp3 rfl (am_getf rfl rfl) ?_
    refine wp0 rfl rfl ?_
    refine wp3 rfl (am_lald rfl (by decide)) ?_
    refine wp0 rfl rfl ?_
    refine wp0 rfl rfl ?_
    refine wp0 rfl rfl ?_
    exact wpL rfl rfl (sb_137_38 hJ hR (l1) (l2) (l3) ((((q_registers0 m (Int32.toNatClampNeg 2)) <<< (Int32.toInt64 32 &&& 63)) ||| ((q_registers0 m (Int32.toNatClampNeg 0)) &&& 4294967295))) hb_l1 hS)
theorem mf_137 {m : ms} (hJ : K m) (l1 : Int32) (l2 : Int32) (l3 : Int64) (hb_l1 : b01 l1) (hS : l3 ≠ 0 ∧ sgF l3 l2 ≠ 0) : tb_wp L xs 137 0 (lv_args 0 [.ref 24, .int l1, .int l2, .long l3]) [] (HH s (MC m) D) (NV 2 m s D) := sb_137_0 hJ RLr l1 l2 l3 hb_l1 hS
end SM6

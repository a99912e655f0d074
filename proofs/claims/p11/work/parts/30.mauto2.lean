section SM2
variable {L : Nat} {xs : Nat → Int32} {s : cs} {D : List pgT}
/- 166: FlagMachineModel.pop()J -/
set_option maxRecDepth 20000 in
theorem sb_166_0 {m m0 : ms} (hJ : K m) (hR : RL 2 m0 m)   : tb_wp L xs 166 0 [(0, .ref 24)] [] (HH s (MC m) D) (NJ 2 m0 s D) := by
  refine wp1 rfl rfl ?_
  refine wp1 rfl rfl ?_
  refine wp3 rfl (am_getf rfl rfl) ?_
  refine wp0 rfl rfl ?_
  refine wp3 rfl (am_lald rfl (by decide)) ?_
  refine wp0 rfl rfl ?_
  refine wp4 rfl rfl (mf_152 hJ ((q_registers0 m (Int32.toNatClampNeg 4))) (8)) (fun rv h1 hq => ?_)
  obtain ⟨s2, hJ4, D3, rfl, x5, rfl⟩ := hq
  refine wp1 rfl rfl ?_
  refine wpV (lv' := [(0, .ref 24), (1, .long x5)]) rfl ?_
  refine wp1 rfl rfl ?_
  refine wp3 rfl (am_getf rfl rfl) ?_
  refine wp0 rfl rfl ?_
  refine wp0 rfl rfl ?_
  refine wp3 rfl (am_lald rfl (by decide)) ?_
  refine wp0 rfl rfl ?_
  refine wp0 rfl rfl ?_
  refine wp3 rfl (am_last rfl (by decide)) ?_
  have hJ6 : K (t_registers0 s2 (vp_updL (q_registers0 s2) (Int32.toNatClampNeg 4) ((q_registers0 s2 (Int32.toNatClampNeg 4)) + 8))) := hJ4
  refine wpH (h' := HH s (MC (t_registers0 s2 (vp_updL (q_registers0 s2) (Int32.toNatClampNeg 4) ((q_registers0 s2 (Int32.toNatClampNeg 4)) + 8)))) D) rfl ?_
  refine wp1 rfl rfl ?_
  exact wp5 rfl rfl ⟨_, hJ6, (RLt hR D3), rfl, _, rfl⟩
theorem mf_166 {m : ms} (hJ : K m)   : tb_wp L xs 166 0 (lv_args 0 [.ref 24]) [] (HH s (MC m) D) (NJ 2 m s D) := sb_166_0 hJ RLr 
/- 168: FlagMachineModel.push(J)V -/
set_option maxRecDepth 20000 in
theorem sb_168_0 {m m0 : ms} (hJ : K m) (hR : RL 2 m0 m) (l1 : Int64)  : tb_wp L xs 168 0 [(0, .ref 24), (1, .long l1)] [] (HH s (MC m) D) (NV 2 m0 s D) := by
  refine wp1 rfl rfl ?_
  refine wp1 rfl rfl ?_
  refine wp3 rfl (am_getf rfl rfl) ?_
  refine wp0 rfl rfl ?_
  refine wp3 rfl (am_lald rfl (by decide)) ?_
  refine wp0 rfl rfl ?_
  refine wp0 rfl rfl ?_
  refine wp0 rfl rfl ?_
  refine wp1 rfl rfl ?_
  refine wp4 rfl rfl (mf_184 hJ (((q_registers0 m (Int32.toNatClampNeg 4)) - 8)) (8) (l1)) (fun rv h1 hq => ?_)
  obtain ⟨s2, hJ4, D3, rfl, rfl⟩ := hq
  refine wp1 rfl rfl ?_
  refine wp3 rfl (am_getf rfl rfl) ?_
  refine wp0 rfl rfl ?_
  refine wp0 rfl rfl ?_
  refine wp3 rfl (am_lald rfl (by decide)) ?_
  refine wp0 rfl rfl ?_
  refine wp0 rfl rfl ?_
  refine wp3 rfl (am_last rfl (by decide)) ?_
  have hJ6 : K (t_registers0 s2 (vp_updL (q_registers0 s2) (Int32.toNatClampNeg 4) ((q_registers0 s2 (Int32.toNatClampNeg 4)) - 8))) := hJ4
  refine wpH (h' := HH s (MC (t_registers0 s2 (vp_updL (q_registers0 s2) (Int32.toNatClampNeg 4) ((q_registers0 s2 (Int32.toNatClampNeg 4)) - 8)))) D) rfl ?_
  exact wp5 rfl rfl ⟨_, hJ6, (RLt hR D3), rfl, rfl⟩
theorem mf_168 {m : ms} (hJ : K m) (l1 : Int64)  : tb_wp L xs 168 0 (lv_args 0 [.ref 24, .long l1]) [] (HH s (MC m) D) (NV 2 m s D) := sb_168_0 hJ RLr l1
/- 169: FlagMachineModel.put(IIJ)V -/
set_option maxRecDepth 20000 in
theorem sb_169_33 {m m0 : ms} (hJ : K m) (hR : RL 2 m0 m)   : tb_wp L xs 169 33 [] [] (HH s (MC m) D) (NV 2 m0 s D) := by
  exact wp5 rfl rfl ⟨_, hJ, hR, rfl, rfl⟩
set_option maxRecDepth 20000 in
theorem sb_169_0 {m m0 : ms} (hJ : K m) (hR : RL 2 m0 m) (l1 : Int32) (l2 : Int32) (l3 : Int64) (hi_l1 : am_in l1 3 = true) : tb_wp L xs 169 0 [(0, .ref 24), (1, .int l1), (2, .int l2), (3, .long l3)] [] (HH s (MC m) D) (NV 2 m0 s D) := by
  refine wp1 rfl rfl ?_
  refine wp1 rfl rfl ?_
  refine am_ev_at rfl rfl (ev_kinds hi_l1) ?_
  refine wp0 rfl rfl ?_
  refine wp2b rfl rfl (fun c1 => ?_) (fun c1 => ?_)
  · refine wp1 rfl rfl ?_
    refine wp1 rfl rfl ?_
    refine wp1 rfl rfl ?_
    refine am_ev_at rfl rfl (ev_places hi_l1) ?_
    refine wp1 rfl rfl ?_
    refine wp1 rfl rfl ?_
    refine wp4 rfl rfl (mf_176 hJ ((q_places m (Int32.toNatClampNeg l1))) (l2) (l3) (K_place hJ hi_l1)) (fun rv h1 hq => ?_)
    obtain ⟨s3, hJ5, D4, rfl, rfl⟩ := hq
    refine wp2 rfl rfl ?_
    exact wpL rfl rfl (sb_169_33 hJ5 (RLt hR D4) )
  · refine wp1 rfl rfl ?_
    refine wp1 rfl rfl ?_
    refine wp3 rfl (am_getf rfl rfl) ?_
    refine wp1 rfl rfl ?_
    refine wp1 rfl rfl ?_
    refine wp4 rfl rfl (mf_184 hJ ((q_operandAt m)) (l2) (l3)) (fun rv h1 hq => ?_)
    obtain ⟨s8, hJ10, D9, rfl, rfl⟩ := hq
    exact wpL rfl rfl (sb_169_33 hJ10 (RLt hR D9) )
theorem mf_169 {m : ms} (hJ : K m) (l1 : Int32) (l2 : Int32) (l3 : Int64) (hi_l1 : am_in l1 3 = true) : tb_wp L xs 169 0 (lv_args 0 [.ref 24, .int l1, .int l2, .long l3]) [] (HH s (MC m) D) (NV 2 m s D) := sb_169_0 hJ RLr l1 l2 l3 hi_l1
/- 185: FlagMachineModel.strings(II)V -/
set_option maxRecDepth 20000 in
theorem sb_185_162 {m m0 : ms} (hJ : K m) (hR : RL 2 m0 m)   : tb_wp L xs 185 162 [] [] (HH s (MC m) D) (NV 2 m0 s D) := by
  exact wp5 rfl rfl ⟨_, hJ, hR, rfl, rfl⟩
set_option maxRecDepth 20000 in
theorem sb_185_110 {m m0 : ms} (hJ : K m) (hR : RL 2 m0 m) (l2 : Int32) (l3 : Int32) (hb_l3 : b01 l3) : tb_wp L xs 185 110 [(0, .ref 24), (2, .int l2), (3, .int l3)] [] (HH s (MC m) D) (NV 2 m0 s D) := by
  refine wp1 rfl rfl ?_
  refine wp3 rfl (am_getf rfl rfl) ?_
  refine wp0 rfl rfl ?_
  refine wp0 rfl rfl ?_
  refine wp3 rfl (am_lald rfl (by decide)) ?_
  refine wp1 rfl rfl ?_
  refine wp0 rfl rfl ?_
  refine wp0 rfl rfl ?_
  refine wp3 rfl (am_last rfl (by decide)) ?_
  have hJ1 : K (t_registers0 m (vp_updL (q_registers0 m) (Int32.toNatClampNeg 7) ((q_registers0 m (Int32.toNatClampNeg 7)) + (Int32.toInt64 l2)))) := hJ
  refine wpH (h' := HH s (MC (t_registers0 m (vp_updL (q_registers0 m) (Int32.toNatClampNeg 7) ((q_registers0 m (Int32.toNatClampNeg 7)) + (Int32.toInt64 l2))))) D) rfl ?_
  refine wp1 rfl rfl ?_
  refine wp2b rfl rfl (fun c2 => ?_) (fun c2 => ?_)
  · exact wp5 rfl rfl ⟨_, hJ1, hR, rfl, rfl⟩
  · refine wp1 rfl rfl ?_
    refine wp3 rfl (am_getf rfl rfl) ?_
    refine wp0 rfl rfl ?_
    refine wp0 rfl rfl ?_
    refine wp3 rfl (am_lald rfl (by decide)) ?_
    refine wp0 rfl rfl ?_
    refine wp0 rfl rfl ?_
    refine wp3 rfl (am_last rfl (by decide)) ?_
    have hJ3 : K (t_registers0 (t_registers0 m (vp_updL (q_registers0 m) (Int32.toNatClampNeg 7) ((q_registers0 m (Int32.toNatClampNeg 7)) + (Int32.toInt64 l2)))) (vp_updL (q_registers0 (t_registers0 m (vp_updL (q_registers0 m) (Int32.toNatClampNeg 7) ((q_registers0 m (Int32.toNatClampNeg 7)) + (Int32.toInt64 l2))))) (Int32.toNatClampNeg 1) ((q_registers0 (t_registers0 m (vp_updL (q_registers0 m) (Int32.toNatClampNeg 7) ((q_registers0 m (Int32.toNatClampNeg 7)) + (Int32.toInt64 l2)))) (Int32.toNatClampNeg 1)) - 1))) := hJ1
    refine wpH (h' := HH s (MC (t_registers0 (t_registers0 m (vp_updL (q_registers0 m) (Int32.toNatClampNeg 7) ((q_registers0 m (Int32.toNatClampNeg 7)) + (Int32.toInt64 l2)))) (vp_updL (q_registers0 (t_registers0 m (vp_updL (q_registers0 m) (Int32.toNatClampNeg 7) ((q_registers0 m (Int32.toNatClampNeg 7)) + (Int32.toInt64 l2))))) (Int32.toNatClampNeg 1) ((q_registers0 (t_registers0 m (vp_updL (q_registers0 m) (Int32.toNatClampNeg 7) ((q_registers0 m (Int32.toNatClampNeg 7)) + (Int32.toInt64 l2)))) (Int32.toNatClampNeg 1)) - 1)))) D) rfl ?_
    refine wp1 rfl rfl ?_
    refine wp3 rfl (am_getf rfl rfl) ?_
    refine wp0 rfl rfl ?_
    refine wp3 rfl (am_lald rfl (by decide)) ?_
    refine wp0 rfl rfl ?_
    refine wp0 rfl rfl ?_
    refine wp2b rfl rfl (fun c4 => ?_) (fun c4 => ?_)
    · exact wpL rfl rfl (sb_185_162 hJ3 hR )
    · refine wp1 rfl rfl ?_
      refine wp0 rfl rfl ?_
      refine wp3 rfl (am_getf rfl rfl) ?_
      refine wp1 rfl rfl ?_
      refine wp3 rfl (am_getf rfl rfl) ?_
      refine wp0 rfl rfl ?_
      refine wp0 rfl rfl ?_
      refine wp3 rfl (am_putf rfl (Nat.le_of_ble_eq_true rfl) rfl rfl) ?_
      have hJ5 : K (t_ip (t_registers0 (t_registers0 m (vp_updL (q_registers0 m) (Int32.toNatClampNeg 7) ((q_registers0 m (Int32.toNatClampNeg 7)) + (Int32.toInt64 l2)))) (vp_updL (q_registers0 (t_registers0 m (vp_updL (q_registers0 m) (Int32.toNatClampNeg 7) ((q_registers0 m (Int32.toNatClampNeg 7)) + (Int32.toInt64 l2))))) (Int32.toNatClampNeg 1) ((q_registers0 (t_registers0 m (vp_updL (q_registers0 m) (Int32.toNatClampNeg 7) ((q_registers0 m (Int32.toNatClampNeg 7)) + (Int32.toInt64 l2)))) (Int32.toNatClampNeg 1)) - 1))) ((q_ip (t_registers0 (t_registers0 m (vp_updL (q_registers0 m) (Int32.toNatClampNeg 7) ((q_registers0 m (Int32.toNatClampNeg 7)) + (Int32.toInt64 l2)))) (vp_updL (q_registers0 (t_registers0 m (vp_updL (q_registers0 m) (Int32.toNatClampNeg 7) ((q_registers0 m (Int32.toNatClampNeg 7)) + (Int32.toInt64 l2))))) (Int32.toNatClampNeg 1) ((q_registers0 (t_registers0 m (vp_updL (q_registers0 m) (Int32.toNatClampNeg 7) ((q_registers0 m (Int32.toNatClampNeg 7)) + (Int32.toInt64 l2)))) (Int32.toNatClampNeg 1)) - 1)))) - (Int32.toInt64 (q_length (t_registers0 (t_registers0 m (vp_updL (q_registers0 m) (Int32.toNatClampNeg 7) ((q_registers0 m (Int32.toNatClampNeg 7)) + (Int32.toInt64 l2)))) (vp_updL (q_registers0 (t_registers0 m (vp_updL (q_registers0 m) (Int32.toNatClampNeg 7) ((q_registers0 m (Int32.toNatClampNeg 7)) + (Int32.toInt64 l2))))) (Int32.toNatClampNeg 1) ((q_registers0 (t_registers0 m (vp_updL (q_registers0 m) (Int32.toNatClampNeg 7) ((q_registers0 m (Int32.toNatClampNeg 7)) + (Int32.toInt64 l2)))) (Int32.toNatClampNeg 1)) - 1))))))) := hJ3
      refine wpH (h' := HH s (MC (t_ip (t_registers0 (t_registers0 m (vp_updL (q_registers0 m) (Int32.toNatClampNeg 7) ((q_registers0 m (Int32.toNatClampNeg 7)) + (Int32.toInt64 l2)))) (vp_updL (q_registers0 (t_registers0 m (vp_updL (q_registers0 m) (Int32.toNatClampNeg 7) ((q_registers0 m (Int32.toNatClampNeg 7)) + (Int32.toInt64 l2))))) (Int32.toNatClampNeg 1) ((q_registers0 (t_registers0 m (vp_updL (q_registers0 m) (Int32.toNatClampNeg 7) ((q_registers0 m (Int32.toNatClampNeg 7)) + (Int32.toInt64 l2)))) (Int32.toNatClampNeg 1)) - 1))) ((q_ip (t_registers0 (t_registers0 m (vp_updL (q_registers0 m) (Int32.toNatClampNeg 7) ((q_registers0 m (Int32.toNatClampNeg 7)) + (Int32.toInt64 l2)))) (vp_updL (q_registers0 (t_registers0 m (vp_updL (q_registers0 m) (Int32.toNatClampNeg 7) ((q_registers0 m (Int32.toNatClampNeg 7)) + (Int32.toInt64 l2))))) (Int32.toNatClampNeg 1) ((q_registers0 (t_registers0 m (vp_updL (q_registers0 m) (Int32.toNatClampNeg 7) ((q_registers0 m (Int32.toNatClampNeg 7)) + (Int32.toInt64 l2)))) (Int32.toNatClampNeg 1)) - 1)))) - (Int32.toInt64 (q_length (t_registers0 (t_registers0 m (vp_updL (q_registers0 m) (Int32.toNatClampNeg 7) ((q_registers0 m (Int32.toNatClampNeg 7)) + (Int32.toInt64 l2)))) (vp_updL (q_registers0 (t_registers0 m (vp_updL (q_registers0 m) (Int32.toNatClampNeg 7) ((q_registers0 m (Int32.toNatClampNeg 7)) + (Int32.toInt64 l2))))) (Int32.toNatClampNeg 1) ((q_registers0 (t_registers0 m (vp_updL (q_registers0 m) (Int32.toNatClampNeg 7) ((q_registers0 m (Int32.toNatClampNeg 7)) + (Int32.toInt64 l2)))) (Int32.toNatClampNeg 1)) - 1)))))))) D) rfl ?_
      exact wpL rfl rfl (sb_185_162 hJ5 hR )
set_option maxRecDepth 20000 in
theorem sb_185_77 {m m0 : ms} (hJ : K m) (hR : RL 2 m0 m) (l2 : Int32) (l3 : Int32) (l4 : Int32) (k0 : Int64) (hb_l3 : b01 l3) (hb_l4 : b01 l4) : tb_wp L xs 185 77 [(0, .ref 24), (2, .int l2), (3, .int l3), (4, .int l4)] [.long k0] (HH s (MC m) D) (NV 2 m0 s D) := by
  refine wp1 rfl rfl ?_
  refine wpV (lv' := [(0, .ref 24), (2, .int l2), (3, .int l3), (4, .int l4), (5, .long k0)]) rfl ?_
  refine wp1 rfl rfl ?_
  refine wp1 rfl rfl ?_
  refine wp3 rfl (am_getf rfl rfl) ?_
  refine wp0 rfl rfl ?_
  refine wp3 rfl (am_lald rfl (by decide)) ?_
  refine wp1 rfl rfl ?_
  refine wp1 rfl rfl ?_
  refine wp4 rfl rfl (mf_184 hJ ((q_registers0 m (Int32.toNatClampNeg 7))) (l2) (k0)) (fun rv h1 hq => ?_)
  obtain ⟨s7, hJ9, D8, rfl, rfl⟩ := hq
  refine wp1 rfl rfl ?_
  refine wp2b rfl rfl (fun c11 => ?_) (fun c11 => ?_)
  · exact wpL rfl rfl (sb_185_110 hJ9 (RLt hR D8) (l2) (l3) hb_l3)
  · refine wp1 rfl rfl ?_
    refine wp3 rfl (am_getf rfl rfl) ?_
    refine wp0 rfl rfl ?_
    refine wp0 rfl rfl ?_
    refine wp3 rfl (am_lald rfl (by decide)) ?_
    refine wp1 rfl rfl ?_
    refine wp0 rfl rfl ?_
    refine wp0 rfl rfl ?_
    refine wp3 rfl (am_last rfl (by decide)) ?_
    have hJ12 : K (t_registers0 s7 (vp_updL (q_registers0 s7) (Int32.toNatClampNeg 6) ((q_registers0 s7 (Int32.toNatClampNeg 6)) + (Int32.toInt64 l2)))) := hJ9
    refine wpH (h' := HH s (MC (t_registers0 s7 (vp_updL (q_registers0 s7) (Int32.toNatClampNeg 6) ((q_registers0 s7 (Int32.toNatClampNeg 6)) + (Int32.toInt64 l2))))) D) rfl ?_
    exact wpL rfl rfl (sb_185_110 hJ12 (RLt hR D8) (l2) (l3) hb_l3)
set_option maxRecDepth 20000 in
theorem sb_185_45 {m m0 : ms} (hJ : K m) (hR : RL 2 m0 m) (l2 : Int32) (l3 : Int32) (k0 : Int32) (hb_l3 : b01 l3) (hb_k0 : b01 k0) : tb_wp L xs 185 45 [(0, .ref 24), (2, .int l2), (3, .int l3)] [.int k0] (HH s (MC m) D) (NV 2 m0 s D) := by
  refine wp1 rfl rfl ?_
  refine wpV (lv' := [(0, .ref 24), (2, .int l2), (3, .int l3), (4, .int k0)]) rfl ?_
  refine wp1 rfl rfl ?_
  refine wp2b rfl rfl (fun c13 => ?_) (fun c13 => ?_)
  · refine wp1 rfl rfl ?_
    refine wp3 rfl (am_getf rfl rfl) ?_
    refine wp0 rfl rfl ?_
    refine wp3 rfl (am_lald rfl (by decide)) ?_
    refine wp1 rfl rfl ?_
    refine wp4 rfl rfl (mf_135 hJ ((q_registers0 m (Int32.toNatClampNeg 0))) (l2)) (fun rv h1 hq => ?_)
    obtain ⟨s15, hJ17, D16, rfl, x18, rfl⟩ := hq
    exact wpL rfl rfl (sb_185_77 hJ17 (RLt hR D16) (l2) (l3) (k0) (x18) hb_l3 hb_k0)
  · refine wp1 rfl rfl ?_
    refine wp1 rfl rfl ?_
    refine wp3 rfl (am_getf rfl rfl) ?_
    refine wp0 rfl rfl ?_
    refine wp3 rfl (am_lald rfl (by decide)) ?_
    refine wp1 rfl rfl ?_
    refine wp4 rfl rfl (mf_152 hJ ((q_registers0 m (Int32.toNatClampNeg 6))) (l2)) (fun rv h1 hq => ?_)
    obtain ⟨s20, hJ22, D21, rfl, x23, rfl⟩ := hq
    refine wp2 rfl rfl ?_
    exact wpL rfl rfl (sb_185_77 hJ22 (RLt hR D21) (l2) (l3) (k0) (x23) hb_l3 hb_k0)
set_option maxRecDepth 20000 in
theorem sb_185_40 {m m0 : ms} (hJ : K m) (hR : RL 2 m0 m) (l2 : Int32) (l3 : Int32) (hb_l3 : b01 l3) : tb_wp L xs 185 40 [(0, .ref 24), (2, .int l2), (3, .int l3)] [] (HH s (MC m) D) (NV 2 m0 s D) := by
  refine wp0 rfl rfl ?_
  refine wp2 rfl rfl ?_
  exact wpL rfl rfl (sb_185_45 hJ hR (l2) (l3) (1) hb_l3 b1)
set_option maxRecDepth 20000 in
theorem sb_185_28 {m m0 : ms} (hJ : K m) (hR : RL 2 m0 m) (l1 : Int32) (l2 : Int32) (l3 : Int32) (hb_l3 : b01 l3) : tb_wp L xs 185 28 [(0, .ref 24), (1, .int l1), (2, .int l2), (3, .int l3)] [] (HH s (MC m) D) (NV 2 m0 s D) := by
  refine wp1 rfl rfl ?_
  refine wp0 rfl rfl ?_
  refine wp2b rfl rfl (fun c24 => ?_) (fun c24 => ?_)
  · exact wpL rfl rfl (sb_185_40 hJ hR (l2) (l3) hb_l3)
  · refine wp1 rfl rfl ?_
    refine wp0 rfl rfl ?_
    refine wp2b rfl rfl (fun c25 => ?_) (fun c25 => ?_)
    · exact wpL rfl rfl (sb_185_40 hJ hR (l2) (l3) hb_l3)
    · refine wp0 rfl rfl ?_
      exact wpL rfl rfl (sb_185_45 hJ hR (l2) (l3) (0) hb_l3 b0)
set_option maxRecDepth 20000 in
theorem sb_185_11 {m m0 : ms} (hJ : K m) (hR : RL 2 m0 m) (l1 : Int32) (l2 : Int32) (k0 : Int32) (hb_k0 : b01 k0) : tb_wp L xs 185 11 [(0, .ref 24), (1, .int l1), (2, .int l2)] [.int k0] (HH s (MC m) D) (NV 2 m0 s D) := by
  refine wp1 rfl rfl ?_
  refine wpV (lv' := [(0, .ref 24), (1, .int l1), (2, .int l2), (3, .int k0)]) rfl ?_
  refine wp1 rfl rfl ?_
  refine wp2b rfl rfl (fun c26 => ?_) (fun c26 => ?_)
  · exact wpL rfl rfl (sb_185_28 hJ hR (l1) (l2) (k0) hb_k0)
  · refine wp1 rfl rfl ?_
    refine wp3 rfl (am_getf rfl rfl) ?_
    refine wp0 rfl rfl ?_
    refine wp3 rfl (am_lald rfl (by decide)) ?_
    refine wp0 rfl rfl ?_
    refine wp0 rfl rfl ?_
    refine wp2b rfl rfl (fun c27 => ?_) (fun c27 => ?_)
    · exact wp5 rfl rfl ⟨_, hJ, hR, rfl, rfl⟩
    · exact wpL rfl rfl (sb_185_28 hJ hR (l1) (l2) (k0) hb_k0)
set_option maxRecDepth 20000 in
theorem sb_185_0 {m m0 : ms} (hJ : K m) (hR : RL 2 m0 m) (l1 : Int32) (l2 : Int32)  : tb_wp L xs 185 0 [(0, .ref 24), (1, .int l1), (2, .int l2)] [] (HH s (MC m) D) (NV 2 m0 s D) := by
  refine wp1 rfl rfl ?_
  refine wp0 rfl rfl ?_
  refine wp2b rfl rfl (fun c28 => ?_) (fun c28 => ?_)
  · refine wp0 rfl rfl ?_
    exact wpL rfl rfl (sb_185_11 hJ hR (l1) (l2) (0) b0)
  · refine wp0 rfl rfl ?_
    refine wp2 rfl rfl ?_
    exact wpL rfl rfl (sb_185_11 hJ hR (l1) (l2) (1) b1)
theorem mf_185 {m : ms} (hJ : K m) (l1 : Int32) (l2 : Int32)  : tb_wp L xs 185 0 (lv_args 0 [.ref 24, .int l1, .int l2]) [] (HH s (MC m) D) (NV 2 m s D) := sb_185_0 hJ RLr l1 l2
/- 187: FlagMachineModel.take(II)J -/
set_option maxRecDepth 20000 in
theorem sb_187_51 {m m0 : ms} (hJ : K m) (hR : RL 2 m0 m) (k0 : Int64)  : tb_wp L xs 187 51 [] [.long k0] (HH s (MC m) D) (NJ 2 m0 s D) := by
  exact wp5 rfl rfl ⟨_, hJ, hR, rfl, _, rfl⟩
set_option maxRecDepth 20000 in
theorem sb_187_0 {m m0 : ms} (hJ : K m) (hR : RL 2 m0 m) (l1 : Int32) (l2 : Int32) (hi_l1 : am_in l1 3 = true) : tb_wp L xs 187 0 [(0, .ref 24), (1, .int l1), (2, .int l2)] [] (HH s (MC m) D) (NJ 2 m0 s D) := by
  refine wp1 rfl rfl ?_
  refine wp1 rfl rfl ?_
  refine am_ev_at rfl rfl (ev_kinds hi_l1) ?_
  refine wpTi (fun z1 ez1 => ?_)
  refine wp1 rfl rfl ?_
  refine wpV (lv' := [(0, .ref 24), (1, .int l1), (2, .int l2), (3, .int z1)]) rfl ?_
  refine wp1 rfl rfl ?_
  refine wp0 rfl rfl ?_
  refine wp2b rfl rfl (fun c2 => ?_) (fun c2 => ?_)
  · refine wp1 rfl rfl ?_
    refine wp3 rfl (am_getf rfl rfl) ?_
    refine wp1 rfl rfl ?_
    refine wp1 rfl rfl ?_
    refine am_ev_at rfl rfl (ev_places hi_l1) ?_
    refine wp3 rfl (am_lald rfl (K_place hJ hi_l1)) ?_
    refine wp1 rfl rfl ?_
    refine wp4 rfl rfl (mf_135 hJ ((q_registers0 m (Int32.toNatClampNeg (q_places m (Int32.toNatClampNeg l1))))) (l2)) (fun rv h1 hq => ?_)
    obtain ⟨s4, hJ6, D5, rfl, x7, rfl⟩ := hq
    exact wp5 rfl rfl ⟨_, hJ6, (RLt hR D5), rfl, _, rfl⟩
  · refine wp1 rfl rfl ?_
    refine wp0 rfl rfl ?_
    refine wp2b rfl rfl (fun c8 => ?_) (fun c8 => ?_)
    · refine wp1 rfl rfl ?_
      refine wp1 rfl rfl ?_
      refine wp3 rfl (am_getf rfl rfl) ?_
      refine wp1 rfl rfl ?_
      refine wp4 rfl rfl (mf_152 hJ ((q_operandAt m)) (l2)) (fun rv h1 hq => ?_)
      obtain ⟨s10, hJ12, D11, rfl, x13, rfl⟩ := hq
      refine wp2 rfl rfl ?_
      exact wpL rfl rfl (sb_187_51 hJ12 (RLt hR D11) (x13))
    · refine wp1 rfl rfl ?_
      refine wp3 rfl (am_getf rfl rfl) ?_
      refine wp1 rfl rfl ?_
      refine wp4 rfl rfl (mf_135 hJ ((q_number m)) (l2)) (fun rv h1 hq => ?_)
      obtain ⟨s15, hJ17, D16, rfl, x18, rfl⟩ := hq
      exact wpL rfl rfl (sb_187_51 hJ17 (RLt hR D16) (x18))
theorem mf_187 {m : ms} (hJ : K m) (l1 : Int32) (l2 : Int32) (hi_l1 : am_in l1 3 = true) : tb_wp L xs 187 0 (lv_args 0 [.ref 24, .int l1, .int l2]) [] (HH s (MC m) D) (NJ 2 m s D) := sb_187_0 hJ RLr l1 l2 hi_l1
/- 188: FlagMachineModel.together(II)V -/
set_option maxRecDepth 20000 in
theorem sb_188_95 {m m0 : ms} (hJ : K m) (hR : RL 2 m0 m)   : tb_wp L xs 188 95 [] [] (HH s (MC m) D) (NV 2 m0 s D) := by
  exact wp5 rfl rfl ⟨_, hJ, hR, rfl, rfl⟩
set_option maxRecDepth 20000 in
theorem sb_188_0 {m m0 : ms} (hJ : K m) (hR : RL 2 m0 m) (l1 : Int32) (l2 : Int32)  : tb_wp L xs 188 0 [(0, .ref 24), (1, .int l1), (2, .int l2)] [] (HH s (MC m) D) (NV 2 m0 s D) := by
  refine wp1 rfl rfl ?_
  refine wp0 rfl rfl ?_
  refine wp1 rfl rfl ?_
  refine wp4 rfl rfl (mf_187 hJ (0) (l2) (by decide)) (fun rv h1 hq => ?_)
  obtain ⟨s2, hJ4, D3, rfl, x5, rfl⟩ := hq
  refine wp1 rfl rfl ?_
  refine wpV (lv' := [(0, .ref 24), (1, .int l1), (2, .int l2), (3, .long x5)]) rfl ?_
  refine wp1 rfl rfl ?_
  refine wp0 rfl rfl ?_
  refine wp1 rfl rfl ?_
  refine wp4 rfl rfl (mf_187 hJ4 (1) (l2) (by decide)) (fun rv h1 hq => ?_)
  obtain ⟨s7, hJ9, D8, rfl, x10, rfl⟩ := hq
  refine wp1 rfl rfl ?_
  refine wpV (lv' := [(0, .ref 24), (1, .int l1), (2, .int l2), (3, .long x5), (5, .long x10)]) rfl ?_
  refine wp1 rfl rfl ?_
  refine wp0 rfl rfl ?_
  refine wp2b rfl rfl (fun c11 => ?_) (fun c11 => ?_)
  · refine wp1 rfl rfl ?_
    refine wp1 rfl rfl ?_
    refine wp1 rfl rfl ?_
    refine wp0 rfl rfl ?_
    refine wp1 rfl rfl ?_
    refine wp4 rfl rfl (mf_126 hJ9 (x5) (x10) (0) (l2) b0) (fun rv h1 hq => ?_)
    obtain ⟨s13, hJ15, D14, rfl, x16, rfl⟩ := hq
    refine wp1 rfl rfl ?_
    refine wpV (lv' := [(0, .ref 24), (1, .int l1), (2, .int l2), (3, .long x5), (5, .long x10), (7, .long x16)]) rfl ?_
    refine wp1 rfl rfl ?_
    refine wp0 rfl rfl ?_
    refine wp1 rfl rfl ?_
    refine wp1 rfl rfl ?_
    refine wp4 rfl rfl (mf_169 hJ15 (1) (l2) (x5) (by decide)) (fun rv h1 hq => ?_)
    obtain ⟨s18, hJ20, D19, rfl, rfl⟩ := hq
    refine wp1 rfl rfl ?_
    refine wp0 rfl rfl ?_
    refine wp1 rfl rfl ?_
    refine wp1 rfl rfl ?_
    refine wp4 rfl rfl (mf_169 hJ20 (0) (l2) (x16) (by decide)) (fun rv h1 hq => ?_)
    obtain ⟨s23, hJ25, D24, rfl, rfl⟩ := hq
    exact wp5 rfl rfl ⟨_, hJ25, (RLt (RLt (RLt (RLt (RLt hR D3) D8) D14) D19) D24), rfl, rfl⟩
  · refine wp1 rfl rfl ?_
    refine wp3 rfl (am_getf rfl rfl) ?_
    refine wp0 rfl rfl ?_
    refine wp3 rfl (am_lald rfl (by decide)) ?_
    refine wp1 rfl rfl ?_
    refine wp4 rfl rfl (mf_135 hJ9 ((q_registers0 s7 (Int32.toNatClampNeg 0))) (l2)) (fun rv h1 hq => ?_)
    obtain ⟨s28, hJ30, D29, rfl, x31, rfl⟩ := hq
    refine wp1 rfl rfl ?_
    refine wpV (lv' := [(0, .ref 24), (1, .int l1), (2, .int l2), (3, .long x5), (5, .long x10), (7, .long x31)]) rfl ?_
    refine wp1 rfl rfl ?_
    refine wp1 rfl rfl ?_
    refine wp1 rfl rfl ?_
    refine wp0 rfl rfl ?_
    refine wp1 rfl rfl ?_
    refine wp4 rfl rfl (mf_186 hJ30 (x31) (x5) (0) (l2) b0) (fun rv h1 hq => ?_)
    obtain ⟨s33, hJ35, D34, rfl, x36, rfl⟩ := hq
    refine wp0 rfl rfl ?_
    refine wp1 rfl rfl ?_
    refine wp1 rfl rfl ?_
    refine wp0 rfl rfl ?_
    refine wp2b rfl rfl (fun c37 => ?_) (fun c37 => ?_)
    · refine wp1 rfl rfl ?_
      refine wp0 rfl rfl ?_
      refine wp1 rfl rfl ?_
      refine wp1 rfl rfl ?_
      refine wp4 rfl rfl (mf_169 hJ35 (0) (l2) (x10) (by decide)) (fun rv h1 hq => ?_)
      obtain ⟨s39, hJ41, D40, rfl, rfl⟩ := hq
      refine wp2 rfl rfl ?_
      exact wpL rfl rfl (sb_188_95 hJ41 (RLt (RLt (RLt (RLt (RLt hR D3) D8) D29) D34) D40) )
    · refine wp1 rfl rfl ?_
      refine wp0 rfl rfl ?_
      refine wp1 rfl rfl ?_
      refine wp1 rfl rfl ?_
      refine wp4 rfl rfl (mf_176 hJ35 (0) (l2) (x5) (by decide)) (fun rv h1 hq => ?_)
      obtain ⟨s44, hJ46, D45, rfl, rfl⟩ := hq
      exact wpL rfl rfl (sb_188_95 hJ46 (RLt (RLt (RLt (RLt (RLt hR D3) D8) D29) D34) D45) )
theorem mf_188 {m : ms} (hJ : K m) (l1 : Int32) (l2 : Int32)  : tb_wp L xs 188 0 (lv_args 0 [.ref 24, .int l1, .int l2]) [] (HH s (MC m) D) (NV 2 m s D) := sb_188_0 hJ RLr l1 l2
/- 129: FlagMachineModel.arithmetic(II)V -/
set_option maxRecDepth 20000 in
theorem sb_129_171 {m m0 : ms} (hJ : K m) (hR : RL 2 m0 m)   : tb_wp L xs 129 171 [] [] (HH s (MC m) D) (NV 2 m0 s D) := by
  exact wp5 rfl rfl ⟨_, hJ, hR, rfl, rfl⟩
set_option maxRecDepth 20000 in
theorem sb_129_151 {m m0 : ms} (hJ : K m) (hR : RL 2 m0 m) (l1 : Int32) (l2 : Int32) (l7 : Int64)  : tb_wp L xs 129 151 [(0, .ref 24), (1, .int l1), (2, .int l2), (7, .long l7)] [] (HH s (MC m) D) (NV 2 m0 s D) := by
  refine wp1 rfl rfl ?_
  refine wp0 rfl rfl ?_
  refine wp2b rfl rfl (fun c1 => ?_) (fun c1 => ?_)
  · exact wpL rfl rfl (sb_129_171 hJ hR )
  · refine wp1 rfl rfl ?_
    refine wp0 rfl rfl ?_
    refine wp2b rfl rfl (fun c2 => ?_) (fun c2 => ?_)
    · exact wpL rfl rfl (sb_129_171 hJ hR )
    · refine wp1 rfl rfl ?_
      refine wp0 rfl rfl ?_
      refine wp1 rfl rfl ?_
      refine wp1 rfl rfl ?_
      refine wp4 rfl rfl (mf_169 hJ (0) (l2) (l7) (by decide)) (fun rv h1 hq => ?_)
      obtain ⟨s4, hJ6, D5, rfl, rfl⟩ := hq
      exact wpL rfl rfl (sb_129_171 hJ6 (RLt hR D5) )
set_option maxRecDepth 20000 in
theorem sb_129_132 {m m0 : ms} (hJ : K m) (hR : RL 2 m0 m) (l1 : Int32) (l2 : Int32) (k0 : Int64)  : tb_wp L xs 129 132 [(0, .ref 24), (1, .int l1), (2, .int l2)] [.long k0] (HH s (MC m) D) (NV 2 m0 s D) := by
  refine wp1 rfl rfl ?_
  refine wpV (lv' := [(0, .ref 24), (1, .int l1), (2, .int l2), (7, .long k0)]) rfl ?_
  refine wp1 rfl rfl ?_
  refine wp0 rfl rfl ?_
  refine wp3 rfl (am_putf rfl (Nat.le_of_ble_eq_true rfl) (b01_nar b0) (b01_fit b0)) ?_
  have hJ8 := K_carry hJ b0
  refine wpH (h' := HH s (MC (t_carry m 0)) D) rfl ?_
  refine wp1 rfl rfl ?_
  refine wp0 rfl rfl ?_
  refine wp3 rfl (am_putf rfl (Nat.le_of_ble_eq_true rfl) (b01_nar b0) (b01_fit b0)) ?_
  have hJ9 := K_over hJ8 b0
  refine wpH (h' := HH s (MC (t_over (t_carry m 0) 0)) D) rfl ?_
  refine wp1 rfl rfl ?_
  refine wp1 rfl rfl ?_
  refine wp1 rfl rfl ?_
  refine wp4 rfl rfl (mf_191 hJ9 (k0) (l2)) (fun rv h1 hq => ?_)
  obtain ⟨s11, hJ13, D12, rfl, rfl⟩ := hq
  exact wpL rfl rfl (sb_129_151 hJ13 (RLt hR D12) (l1) (l2) (k0))
set_option maxRecDepth 20000 in
theorem sb_129_94 {m m0 : ms} (hJ : K m) (hR : RL 2 m0 m) (l1 : Int32) (l2 : Int32) (k1 : Int64) (k2 : Int64) (k3 : Int32) (hb_k3 : b01 k3) : tb_wp L xs 129 94 [(0, .ref 24), (1, .int l1), (2, .int l2)] [.int k3, .long k2, .long k1, .ref 24] (HH s (MC m) D) (NV 2 m0 s D) := by
  refine wp1 rfl rfl ?_
  refine wp4 rfl rfl (mf_186 hJ (k1) (k2) (k3) (l2) hb_k3) (fun rv h1 hq => ?_)
  obtain ⟨s16, hJ18, D17, rfl, x19, rfl⟩ := hq
  refine wp1 rfl rfl ?_
  refine wpV (lv' := [(0, .ref 24), (1, .int l1), (2, .int l2), (7, .long x19)]) rfl ?_
  refine wp2 rfl rfl ?_
  exact wpL rfl rfl (sb_129_151 hJ18 (RLt hR D17) (l1) (l2) (x19))
set_option maxRecDepth 20000 in
theorem sb_129_93 {m m0 : ms} (hJ : K m) (hR : RL 2 m0 m) (l1 : Int32) (l2 : Int32) (k1 : Int64) (k2 : Int64)  : tb_wp L xs 129 93 [(0, .ref 24), (1, .int l1), (2, .int l2)] [.long k2, .long k1, .ref 24] (HH s (MC m) D) (NV 2 m0 s D) := by
  refine wp0 rfl rfl ?_
  exact wpL rfl rfl (sb_129_94 hJ hR (l1) (l2) (k1) (k2) (0) b0)
set_option maxRecDepth 20000 in
theorem sb_129_73 {m m0 : ms} (hJ : K m) (hR : RL 2 m0 m) (l1 : Int32) (l2 : Int32) (l3 : Int64) (l5 : Int64)  : tb_wp L xs 129 73 [(0, .ref 24), (1, .int l1), (2, .int l2), (3, .long l3), (5, .long l5)] [] (HH s (MC m) D) (NV 2 m0 s D) := by
  refine wp1 rfl rfl ?_
  refine wp1 rfl rfl ?_
  refine wp1 rfl rfl ?_
  refine wp1 rfl rfl ?_
  refine wp0 rfl rfl ?_
  refine wp2b rfl rfl (fun c20 => ?_) (fun c20 => ?_)
  · refine wp1 rfl rfl ?_
    refine wp3 rfl (am_getf rfl rfl) ?_
    refine wp2b rfl rfl (fun c21 => ?_) (fun c21 => ?_)
    · exact wpL rfl rfl (sb_129_93 hJ hR (l1) (l2) (l3) (l5))
    · refine wp0 rfl rfl ?_
      refine wp2 rfl rfl ?_
      exact wpL rfl rfl (sb_129_94 hJ hR (l1) (l2) (l3) (l5) (1) b1)
  · exact wpL rfl rfl (sb_129_93 hJ hR (l1) (l2) (l3) (l5))
set_option maxRecDepth 20000 in
theorem sb_129_48 {m m0 : ms} (hJ : K m) (hR : RL 2 m0 m) (l1 : Int32) (l2 : Int32) (k1 : Int64) (k2 : Int64) (k3 : Int32) (hb_k3 : b01 k3) : tb_wp L xs 129 48 [(0, .ref 24), (1, .int l1), (2, .int l2)] [.int k3, .long k2, .long k1, .ref 24] (HH s (MC m) D) (NV 2 m0 s D) := by
  refine wp1 rfl rfl ?_
  refine wp4 rfl rfl (mf_126 hJ (k1) (k2) (k3) (l2) hb_k3) (fun rv h1 hq => ?_)
  obtain ⟨s23, hJ25, D24, rfl, x26, rfl⟩ := hq
  refine wp1 rfl rfl ?_
  refine wpV (lv' := [(0, .ref 24), (1, .int l1), (2, .int l2), (7, .long x26)]) rfl ?_
  refine wp2 rfl rfl ?_
  exact wpL rfl rfl (sb_129_151 hJ25 (RLt hR D24) (l1) (l2) (x26))
set_option maxRecDepth 20000 in
theorem sb_129_47 {m m0 : ms} (hJ : K m) (hR : RL 2 m0 m) (l1 : Int32) (l2 : Int32) (k1 : Int64) (k2 : Int64)  : tb_wp L xs 129 47 [(0, .ref 24), (1, .int l1), (2, .int l2)] [.long k2, .long k1, .ref 24] (HH s (MC m) D) (NV 2 m0 s D) := by
  refine wp0 rfl rfl ?_
  exact wpL rfl rfl (sb_129_48 hJ hR (l1) (l2) (k1) (k2) (0) b0)
set_option maxRecDepth 20000 in
theorem sb_129_27 {m m0 : ms} (hJ : K m) (hR : RL 2 m0 m) (l1 : Int32) (l2 : Int32) (l3 : Int64) (l5 : Int64)  : tb_wp L xs 129 27 [(0, .ref 24), (1, .int l1), (2, .int l2), (3, .long l3), (5, .long l5)] [] (HH s (MC m) D) (NV 2 m0 s D) := by
  refine wp1 rfl rfl ?_
  refine wp1 rfl rfl ?_
  refine wp1 rfl rfl ?_
  refine wp1 rfl rfl ?_
  refine wp0 rfl rfl ?_
  refine wp2b rfl rfl (fun c27 => ?_) (fun c27 => ?_)
  · refine wp1 rfl rfl ?_
    refine wp3 rfl (am_getf rfl rfl) ?_
    refine wp2b rfl rfl (fun c28 => ?_) (fun c28 => ?_)
    · exact wpL rfl rfl (sb_129_47 hJ hR (l1) (l2) (l3) (l5))
    · refine wp0 rfl rfl ?_
      refine wp2 rfl rfl ?_
      exact wpL rfl rfl (sb_129_48 hJ hR (l1) (l2) (l3) (l5) (1) b1)
  · exact wpL rfl rfl (sb_129_47 hJ hR (l1) (l2) (l3) (l5))
set_option maxRecDepth 20000 in
theorem sb_129_0 {m m0 : ms} (hJ : K m) (hR : RL 2 m0 m) (l1 : Int32) (l2 : Int32)  : tb_wp L xs 129 0 [(0, .ref 24), (1, .int l1), (2, .int l2)] [] (HH s (MC m) D) (NV 2 m0 s D) := by
  refine wp1 rfl rfl ?_
  refine wp0 rfl rfl ?_
  refine wp1 rfl rfl ?_
  refine wp4 rfl rfl (mf_187 hJ (0) (l2) (by decide)) (fun rv h1 hq => ?_)
  obtain ⟨s30, hJ32, D31, rfl, x33, rfl⟩ := hq
  refine wp1 rfl rfl ?_
  refine wpV (lv' := [(0, .ref 24), (1, .int l1), (2, .int l2), (3, .long x33)]) rfl ?_
  refine wp1 rfl rfl ?_
  refine wp0 rfl rfl ?_
  refine wp1 rfl rfl ?_
  refine wp4 rfl rfl (mf_187 hJ32 (1) (l2) (by decide)) (fun rv h1 hq => ?_)
  obtain ⟨s35, hJ37, D36, rfl, x38, rfl⟩ := hq
  refine wp1 rfl rfl ?_
  refine wpV (lv' := [(0, .ref 24), (1, .int l1), (2, .int l2), (3, .long x33), (5, .long x38)]) rfl ?_
  refine wp0 rfl rfl ?_
  refine wp1 rfl rfl ?_
  refine wpV (lv' := [(0, .ref 24), (1, .int l1), (2, .int l2), (3, .long x33), (5, .long x38), (7, .long 0)]) rfl ?_
  refine wp1 rfl rfl ?_
  refine wp2b rfl rfl (fun c39 => ?_) (fun c39 => ?_)
  · exact wpL rfl rfl (sb_129_27 hJ37 (RLt (RLt hR D31) D36) (l1) (l2) (x33) (x38))
  · refine wp1 rfl rfl ?_
    refine wp0 rfl rfl ?_
    refine wp2b rfl rfl (fun c40 => ?_) (fun c40 => ?_)
    · exact wpL rfl rfl (sb_129_27 hJ37 (RLt (RLt hR D31) D36) (l1) (l2) (x33) (x38))
    · refine wp1 rfl rfl ?_
      refine wp0 rfl rfl ?_
      refine wp2b rfl rfl (fun c41 => ?_) (fun c41 => ?_)
      · exact wpL rfl rfl (sb_129_73 hJ37 (RLt (RLt hR D31) D36) (l1) (l2) (x33) (x38))
      · refine wp1 rfl rfl ?_
        refine wp0 rfl rfl ?_
        refine wp2b rfl rfl (fun c42 => ?_) (fun c42 => ?_)
        · exact wpL rfl rfl (sb_129_73 hJ37 (RLt (RLt hR D31) D36) (l1) (l2) (x33) (x38))
        · refine wp1 rfl rfl ?_
          refine wp0 rfl rfl ?_
          refine wp2b rfl rfl (fun c43 => ?_) (fun c43 => ?_)
          · exact wpL rfl rfl (sb_129_73 hJ37 (RLt (RLt hR D31) D36) (l1) (l2) (x33) (x38))
          · refine wp1 rfl rfl ?_
            refine wp0 rfl rfl ?_
            refine wp2b rfl rfl (fun c44 => ?_) (fun c44 => ?_)
            · refine wp1 rfl rfl ?_
              refine wp1 rfl rfl ?_
              refine wp0 rfl rfl ?_
              refine wp2 rfl rfl ?_
              exact wpL rfl rfl (sb_129_132 hJ37 (RLt (RLt hR D31) D36) (l1) (l2) ((x33 ||| x38)))
            · refine wp1 rfl rfl ?_
              refine wp0 rfl rfl ?_
              refine wp2b rfl rfl (fun c45 => ?_) (fun c45 => ?_)
              · refine wp1 rfl rfl ?_
                refine wp1 rfl rfl ?_
                refine wp0 rfl rfl ?_
                refine wp2 rfl rfl ?_
                exact wpL rfl rfl (sb_129_132 hJ37 (RLt (RLt hR D31) D36) (l1) (l2) ((x33 ^^^ x38)))
              · refine wp1 rfl rfl ?_
                refine wp1 rfl rfl ?_
                refine wp0 rfl rfl ?_
                exact wpL rfl rfl (sb_129_132 hJ37 (RLt (RLt hR D31) D36) (l1) (l2) ((x33 &&& x38)))
theorem mf_129 {m : ms} (hJ : K m) (l1 : Int32) (l2 : Int32)  : tb_wp L xs 129 0 (lv_args 0 [.ref 24, .int l1, .int l2]) [] (HH s (MC m) D) (NV 2 m s D) := sb_129_0 hJ RLr l1 l2
/- 132: FlagMachineModel.bits(II)V -/
set_option maxRecDepth 20000 in
theorem sb_132_190 {m m0 : ms} (hJ : K m) (hR : RL 2 m0 m) (l2 : Int32) (l5 : Int32)  : tb_wp L xs 132 190 [(0, .ref 24), (2, .int l2), (5, .int l5)] [] (HH s (MC m) D) (NV 2 m0 s D) := by
  refine wp1 rfl rfl ?_
  refine wp0 rfl rfl ?_
  refine wp1 rfl rfl ?_
  refine wp1 rfl rfl ?_
  refine wp0 rfl rfl ?_
  refine wp4 rfl rfl (mf_169 hJ (0) (l2) ((Int32.toInt64 l5)) (by decide)) (fun rv h1 hq => ?_)
  obtain ⟨s2, hJ4, D3, rfl, rfl⟩ := hq
  exact wp5 rfl rfl ⟨_, hJ4, (RLt hR D3), rfl, rfl⟩
set_option maxRecDepth 20000 in
theorem sb_132_150 (n : Nat) : ∀ {m m0 : ms} (hJ : K m) (hR : RL 2 m0 m) (l1 : Int32) (l2 : Int32) (l3 : Int64) (l5 : Int32) (l6 : Int32) (hn_l6 : 0 ≤ Int32.toInt l6) (hm : ((64 : Int32).toInt - (l6 : Int32).toInt).toNat < n), tb_wp L xs 132 150 [(0, .ref 24), (1, .int l1), (2, .int l2), (3, .long l3), (5, .int l5), (6, .int l6)] [] (HH s (MC m) D) (NV 2 m0 s D) := by
  induction n with
  | zero => intro m m0 hJ hR l1 l2 l3 l5 l6 hn_l6 hm; exact absurd hm (Nat.not_lt_zero _)
  | succ n ih =>
    intro m m0 hJ hR l1 l2 l3 l5 l6 hn_l6 hm
    refine wp1 rfl rfl ?_
    refine wp0 rfl rfl ?_
    refine wp2b rfl rfl (fun c6 => ?_) (fun c6 => ?_)
    · exact wpL rfl rfl (sb_132_190 hJ hR (l2) (l5))
    · refine wp1 rfl rfl ?_
      refine wp1 rfl rfl ?_
      refine wp0 rfl rfl ?_
      refine wp0 rfl rfl ?_
      refine wp0 rfl rfl ?_
      refine wp0 rfl rfl ?_
      refine wp0 rfl rfl ?_
      refine wp2b rfl rfl (fun c7 => ?_) (fun c7 => ?_)
      · refine wp1 rfl rfl ?_
        refine wp1 rfl rfl ?_
        refine wp0 rfl rfl ?_
        refine wp2b rfl rfl (fun c8 => ?_) (fun c8 => ?_)
        · refine wp0 rfl rfl ?_
          refine wp2 rfl rfl ?_
          refine wp0 rfl rfl ?_
          refine wpTi (fun z9 ez9 => ?_)
          refine wp1 rfl rfl ?_
          refine wpV (lv' := [(0, .ref 24), (1, .int l1), (2, .int l2), (3, .long l3), (5, .int z9), (6, .int l6)]) rfl ?_
          refine wp1 rfl rfl ?_
          refine wpV (lv' := [(0, .ref 24), (1, .int l1), (2, .int l2), (3, .long l3), (5, .int z9), (6, .int (l6 + 1))]) rfl ?_
          refine wp2 rfl rfl ?_
          exact wpL rfl rfl (ih hJ hR (l1) (l2) (l3) (z9) ((l6 + 1)) (i32_upp c6 hn_l6) (i32_up c6 hm))
        · refine wp0 rfl rfl ?_
          refine wp0 rfl rfl ?_
          refine wpTi (fun z10 ez10 => ?_)
          refine wp1 rfl rfl ?_
          refine wpV (lv' := [(0, .ref 24), (1, .int l1), (2, .int l2), (3, .long l3), (5, .int z10), (6, .int l6)]) rfl ?_
          refine wp1 rfl rfl ?_
          refine wpV (lv' := [(0, .ref 24), (1, .int l1), (2, .int l2), (3, .long l3), (5, .int z10), (6, .int (l6 + 1))]) rfl ?_
          refine wp2 rfl rfl ?_
          exact wpL rfl rfl (ih hJ hR (l1) (l2) (l3) (z10) ((l6 + 1)) (i32_upp c6 hn_l6) (i32_up c6 hm))
      · exact wpL rfl rfl (sb_132_190 hJ hR (l2) (l5))
set_option maxRecDepth 20000 in
theorem sb_132_145 {m m0 : ms} (hJ : K m) (hR : RL 2 m0 m) (l1 : Int32) (l2 : Int32) (l3 : Int64) (k0 : Int32) (hn_k0 : 0 ≤ Int32.toInt k0) : tb_wp L xs 132 145 [(0, .ref 24), (1, .int l1), (2, .int l2), (3, .long l3)] [.int k0] (HH s (MC m) D) (NV 2 m0 s D) := by
  refine wp1 rfl rfl ?_
  refine wpV (lv' := [(0, .ref 24), (1, .int l1), (2, .int l2), (3, .long l3), (5, .int k0)]) rfl ?_
  refine wp0 rfl rfl ?_
  refine wp1 rfl rfl ?_
  refine wpV (lv' := [(0, .ref 24), (1, .int l1), (2, .int l2), (3, .long l3), (5, .int k0), (6, .int 0)]) rfl ?_
  exact wpL rfl rfl (sb_132_150 _ hJ hR (l1) (l2) (l3) (k0) (0) (by decide) (Nat.lt_succ_self _))
set_option maxRecDepth 20000 in
theorem sb_132_122 {m m0 : ms} (hJ : K m) (hR : RL 2 m0 m) (l1 : Int32) (l2 : Int32) (l3 : Int64) (k1 : Int32) (hb_k1 : b01 k1) : tb_wp L xs 132 122 [(0, .ref 24), (1, .int l1), (2, .int l2), (3, .long l3)] [.int k1, .ref 24] (HH s (MC m) D) (NV 2 m0 s D) := by
  refine wp3 rfl (am_putf rfl (Nat.le_of_ble_eq_true rfl) (b01_nar hb_k1) (b01_fit hb_k1)) ?_
  have hJ11 := K_zero hJ hb_k1
  refine wpH (h' := HH s (MC (t_zero m k1)) D) rfl ?_
  refine wp1 rfl rfl ?_
  refine wp3 rfl (am_getf rfl rfl) ?_
  refine wp2b rfl rfl (fun c12 => ?_) (fun c12 => ?_)
  · refine wp1 rfl rfl ?_
    refine wp0 rfl rfl ?_
    refine wp2b rfl rfl (fun c13 => ?_) (fun c13 => ?_)
    · refine wp0 rfl rfl ?_
      refine wp2 rfl rfl ?_
      exact wpL rfl rfl (sb_132_145 hJ11 hR (l1) (l2) (l3) (0) (by decide))
    · refine wp0 rfl rfl ?_
      exact wpL rfl rfl (sb_132_145 hJ11 hR (l1) (l2) (l3) (63) (by decide))
  · exact wp5 rfl rfl ⟨_, hJ11, hR, rfl, rfl⟩
set_option maxRecDepth 20000 in
theorem sb_132_106 {m m0 : ms} (hJ : K m) (hR : RL 2 m0 m) (k1 : Int32) (hb_k1 : b01 k1) : tb_wp L xs 132 106 [] [.int k1, .ref 24] (HH s (MC m) D) (NV 2 m0 s D) := by
  refine wp3 rfl (am_putf rfl (Nat.le_of_ble_eq_true rfl) (b01_nar hb_k1) (b01_fit hb_k1)) ?_
  have hJ14 := K_carry hJ hb_k1
  refine wpH (h' := HH s (MC (t_carry m k1)) D) rfl ?_
  exact wp5 rfl rfl ⟨_, hJ14, hR, rfl, rfl⟩
set_option maxRecDepth 20000 in
theorem sb_132_19 (n : Nat) : ∀ {m m0 : ms} (hJ : K m) (hR : RL 2 m0 m) (l2 : Int32) (l3 : Int64) (l5 : Int64) (l7 : Int32) (hn_l7 : 0 ≤ Int32.toInt l7) (hm : ((l2 : Int32).toInt - (l7 : Int32).toInt).toNat < n), tb_wp L xs 132 19 [(0, .ref 24), (2, .int l2), (3, .long l3), (5, .long l5), (7, .int l7)] [] (HH s (MC m) D) (NV 2 m0 s D) := by
  induction n with
  | zero => intro m m0 hJ hR l2 l3 l5 l7 hn_l7 hm; exact absurd hm (Nat.not_lt_zero _)
  | succ n ih =>
    intro m m0 hJ hR l2 l3 l5 l7 hn_l7 hm
    refine wp1 rfl rfl ?_
    refine wp1 rfl rfl ?_
    refine wp2b rfl rfl (fun c15 => ?_) (fun c15 => ?_)
    · refine wp1 rfl rfl ?_
      refine wp0 rfl rfl ?_
      refine wp1 rfl rfl ?_
      refine wp1 rfl rfl ?_
      refine wp4 rfl rfl (mf_169 hJ (0) (l2) (l5) (by decide)) (fun rv h1 hq => ?_)
      obtain ⟨s17, hJ19, D18, rfl, rfl⟩ := hq
      exact wp5 rfl rfl ⟨_, hJ19, (RLt hR D18), rfl, rfl⟩
    · refine wp1 rfl rfl ?_
      refine wp0 rfl rfl ?_
      refine wp0 rfl rfl ?_
      refine wp1 rfl rfl ?_
      refine wp0 rfl rfl ?_
      refine wp1 rfl rfl ?_
      refine wp0 rfl rfl ?_
      refine wp0 rfl rfl ?_
      refine wp0 rfl rfl ?_
      refine wp0 rfl rfl ?_
      refine wp0 rfl rfl ?_
      refine wpTl (fun z21 ez21 => ?_)
      refine wp1 rfl rfl ?_
      refine wpV (lv' := [(0, .ref 24), (2, .int l2), (3, .long l3), (5, .long z21), (7, .int l7)]) rfl ?_
      refine wp1 rfl rfl ?_
      refine wpV (lv' := [(0, .ref 24), (2, .int l2), (3, .long l3), (5, .long z21), (7, .int (l7 + 1))]) rfl ?_
      refine wp2 rfl rfl ?_
      exact wpL rfl rfl (ih hJ hR (l2) (l3) (z21) ((l7 + 1)) (i32_upp c15 hn_l7) (i32_up c15 hm))
set_option maxRecDepth 20000 in
theorem sb_132_0 {m m0 : ms} (hJ : K m) (hR : RL 2 m0 m) (l1 : Int32) (l2 : Int32)  : tb_wp L xs 132 0 [(0, .ref 24), (1, .int l1), (2, .int l2)] [] (HH s (MC m) D) (NV 2 m0 s D) := by
  refine wp1 rfl rfl ?_
  refine wp0 rfl rfl ?_
  refine wp2b rfl rfl (fun c22 => ?_) (fun c22 => ?_)
  · refine wp1 rfl rfl ?_
    refine wp0 rfl rfl ?_
    refine wp1 rfl rfl ?_
    refine wp4 rfl rfl (mf_187 hJ (0) (l2) (by decide)) (fun rv h1 hq => ?_)
    obtain ⟨s24, hJ26, D25, rfl, x27, rfl⟩ := hq
    refine wp1 rfl rfl ?_
    refine wpV (lv' := [(0, .ref 24), (1, .int l1), (2, .int l2), (3, .long x27)]) rfl ?_
    refine wp0 rfl rfl ?_
    refine wp1 rfl rfl ?_
    refine wpV (lv' := [(0, .ref 24), (1, .int l1), (2, .int l2), (3, .long x27), (5, .long 0)]) rfl ?_
    refine wp0 rfl rfl ?_
    refine wp1 rfl rfl ?_
    refine wpV (lv' := [(0, .ref 24), (1, .int l1), (2, .int l2), (3, .long x27), (5, .long 0), (7, .int 0)]) rfl ?_
    exact wpL rfl rfl (sb_132_19 _ hJ26 (RLt hR D25) (l2) (x27) (0) (0) (by decide) (Nat.lt_succ_self _))
  · refine wp1 rfl rfl ?_
    refine wp0 rfl rfl ?_
    refine wp1 rfl rfl ?_
    refine wp4 rfl rfl (mf_187 hJ (1) (l2) (by decide)) (fun rv h1 hq => ?_)
    obtain ⟨s29, hJ31, D30, rfl, x32, rfl⟩ := hq
    refine wp1 rfl rfl ?_
    refine wpV (lv' := [(0, .ref 24), (1, .int l1), (2, .int l2), (3, .long x32)]) rfl ?_
    refine wp1 rfl rfl ?_
    refine wp0 rfl rfl ?_
    refine wp2b rfl rfl (fun c33 => ?_) (fun c33 => ?_)
    · refine wp1 rfl rfl ?_
      refine wp0 rfl rfl ?_
      refine wp1 rfl rfl ?_
      refine wp4 rfl rfl (mf_187 hJ31 (0) (l2) (by decide)) (fun rv h1 hq => ?_)
      obtain ⟨s35, hJ37, D36, rfl, x38, rfl⟩ := hq
      refine wp1 rfl rfl ?_
      refine wpV (lv' := [(0, .ref 24), (1, .int l1), (2, .int l2), (3, .long x32), (5, .long x38)]) rfl ?_
      refine wp1 rfl rfl ?_
      refine wp1 rfl rfl ?_
      refine wp1 rfl rfl ?_
      refine wp0 rfl rfl ?_
      refine wp1 rfl rfl ?_
      refine wp0 rfl rfl ?_
      refine wp0 rfl rfl ?_
      refine wp0 rfl rfl ?_
      refine wp0 rfl rfl ?_
      refine wp0 rfl rfl ?_
      refine wp0 rfl rfl ?_
      refine wp0 rfl rfl ?_
      refine wp0 rfl rfl ?_
      refine wp0 rfl rfl ?_
      refine wp0 rfl rfl ?_
      refine wp0 rfl rfl ?_
      refine wp2b rfl rfl (fun c39 => ?_) (fun c39 => ?_)
      · refine wp0 rfl rfl ?_
        refine wp2 rfl rfl ?_
        exact wpL rfl rfl (sb_132_106 hJ37 (RLt (RLt hR D30) D36) (1) b1)
      · refine wp0 rfl rfl ?_
        exact wpL rfl rfl (sb_132_106 hJ37 (RLt (RLt hR D30) D36) (0) b0)
    · refine wp1 rfl rfl ?_
      refine wp1 rfl rfl ?_
      refine wp0 rfl rfl ?_
      refine wp0 rfl rfl ?_
      refine wp2b rfl rfl (fun c40 => ?_) (fun c40 => ?_)
      · refine wp0 rfl rfl ?_
        refine wp2 rfl rfl ?_
        exact wpL rfl rfl (sb_132_122 hJ31 (RLt hR D30) (l1) (l2) (x32) (1) b1)
      · refine wp0 rfl rfl ?_
        exact wpL rfl rfl (sb_132_122 hJ31 (RLt hR D30) (l1) (l2) (x32) (0) b0)
theorem mf_132 {m : ms} (hJ : K m) (l1 : Int32) (l2 : Int32)  : tb_wp L xs 132 0 (lv_args 0 [.ref 24, .int l1, .int l2]) [] (HH s (MC m) D) (NV 2 m s D) := sb_132_0 hJ RLr l1 l2
/- 134: FlagMachineModel.choose(I)V -/
set_option maxRecDepth 20000 in
theorem sb_134_35 {m m0 : ms} (hJ : K m) (hR : RL 2 m0 m) (k2 : Int32) (k3 : Int64)  : tb_wp L xs 134 35 [] [.long k3, .int k2, .int 0, .ref 24] (HH s (MC m) D) (NV 2 m0 s D) := by
  refine wp4 rfl rfl (mf_169 hJ (0) (k2) (k3) (by decide)) (fun rv h1 hq => ?_)
  obtain ⟨s2, hJ4, D3, rfl, rfl⟩ := hq
  exact wp5 rfl rfl ⟨_, hJ4, (RLt hR D3), rfl, rfl⟩
set_option maxRecDepth 20000 in
theorem sb_134_0 {m m0 : ms} (hJ : K m) (hR : RL 2 m0 m) (l1 : Int32)  : tb_wp L xs 134 0 [(0, .ref 24), (1, .int l1)] [] (HH s (MC m) D) (NV 2 m0 s D) := by
  refine wp1 rfl rfl ?_
  refine wp0 rfl rfl ?_
  refine wp1 rfl rfl ?_
  refine wp4 rfl rfl (mf_187 hJ (1) (l1) (by decide)) (fun rv h1 hq => ?_)
  obtain ⟨s7, hJ9, D8, rfl, x10, rfl⟩ := hq
  refine wp1 rfl rfl ?_
  refine wpV (lv' := [(0, .ref 24), (1, .int l1), (2, .long x10)]) rfl ?_
  refine wp1 rfl rfl ?_
  refine wp0 rfl rfl ?_
  refine wp1 rfl rfl ?_
  refine wp4 rfl rfl (mf_187 hJ9 (0) (l1) (by decide)) (fun rv h1 hq => ?_)
  obtain ⟨s12, hJ14, D13, rfl, x15, rfl⟩ := hq
  refine wp1 rfl rfl ?_
  refine wpV (lv' := [(0, .ref 24), (1, .int l1), (2, .long x10), (4, .long x15)]) rfl ?_
  refine wp1 rfl rfl ?_
  refine wp0 rfl rfl ?_
  refine wp1 rfl rfl ?_
  refine wp1 rfl rfl ?_
  refine wp1 rfl rfl ?_
  refine wp3 rfl (am_getf rfl rfl) ?_
  refine wp4 rfl rfl (mf_147 hJ14 ((q_condition s12))) (fun rv h1 hq => ?_)
  obtain ⟨s17, hJ19, D18, rfl, x20, rfl, hb_x20⟩ := hq
  refine wp2b rfl rfl (fun c21 => ?_) (fun c21 => ?_)
  · refine wp1 rfl rfl ?_
    exact wpL rfl rfl (sb_134_35 hJ19 (RLt (RLt (RLt hR D8) D13) D18) (l1) (x15))
  · refine wp1 rfl rfl ?_
    refine wp2 rfl rfl ?_
    exact wpL rfl rfl (sb_134_35 hJ19 (RLt (RLt (RLt hR D8) D13) D18) (l1) (x10))
theorem mf_134 {m : ms} (hJ : K m) (l1 : Int32)  : tb_wp L xs 134 0 (lv_args 0 [.ref 24, .int l1]) [] (HH s (MC m) D) (NV 2 m s D) := sb_134_0 hJ RLr l1
/- 157: FlagMachineModel.multiply(ZI)V -/
set_option maxRecDepth 20000 in
theorem sb_157_260 {m m0 : ms} (hJ : K m) (hR : RL 2 m0 m)   : tb_wp L xs 157 260 [(0, .ref 24)] [] (HH s (MC m) D) (NV 2 m0 s D) := by
  refine wp1 rfl rfl ?_
  refine wp1 rfl rfl ?_
  refine wp3 rfl (am_getf rfl rfl) ?_
  refine wp3 rfl (am_putf rfl (Nat.le_of_ble_eq_true rfl) (b01_nar hJ.1) (b01_fit hJ.1)) ?_
  have hJ1 := K_over hJ hJ.1
  refine wpH (h' := HH s (MC (t_over m (q_carry m))) D) rfl ?_
  exact wp5 rfl rfl ⟨_, hJ1, hR, rfl, rfl⟩
set_option maxRecDepth 20000 in
theorem sb_157_257 {m m0 : ms} (hJ : K m) (hR : RL 2 m0 m) (k1 : Int32) (hb_k1 : b01 k1) : tb_wp L xs 157 257 [(0, .ref 24)] [.int k1, .ref 24] (HH s (MC m) D) (NV 2 m0 s D) := by
  refine wp3 rfl (am_putf rfl (Nat.le_of_ble_eq_true rfl) (b01_nar hb_k1) (b01_fit hb_k1)) ?_
  have hJ2 := K_carry hJ hb_k1
  refine wpH (h' := HH s (MC (t_carry m k1)) D) rfl ?_
  exact wpL rfl rfl (sb_157_260 hJ2 hR )
set_option maxRecDepth 20000 in
theorem sb_157_203 {m m0 : ms} (hJ : K m) (hR : RL 2 m0 m) (l1 : Int32) (l7 : Int64) (k0 : Int64) (hb_l1 : b01 l1) : tb_wp L xs 157 203 [(0, .ref 24), (1, .int l1), (7, .long l7)] [.long k0] (HH s (MC m) D) (NV 2 m0 s D) := by
  refine wp1 rfl rfl ?_
  refine wpV (lv' := [(0, .ref 24), (1, .int l1), (7, .long l7), (9, .long k0)]) rfl ?_
  refine wp1 rfl rfl ?_
  refine wp3 rfl (am_getf rfl rfl) ?_
  refine wp0 rfl rfl ?_
  refine wp1 rfl rfl ?_
  refine wp3 rfl (am_last rfl (by decide)) ?_
  have hJ3 : K (t_registers0 m (vp_updL (q_registers0 m) (Int32.toNatClampNeg 0) l7)) := hJ
  refine wpH (h' := HH s (MC (t_registers0 m (vp_updL (q_registers0 m) (Int32.toNatClampNeg 0) l7))) D) rfl ?_
  refine wp1 rfl rfl ?_
  refine wp3 rfl (am_getf rfl rfl) ?_
  refine wp0 rfl rfl ?_
  refine wp1 rfl rfl ?_
  refine wp3 rfl (am_last rfl (by decide)) ?_
  have hJ4 : K (t_registers0 (t_registers0 m (vp_updL (q_registers0 m) (Int32.toNatClampNeg 0) l7)) (vp_updL (q_registers0 (t_registers0 m (vp_updL (q_registers0 m) (Int32.toNatClampNeg 0) l7))) (Int32.toNatClampNeg 2) k0)) := hJ3
  refine wpH (h' := HH s (MC (t_registers0 (t_registers0 m (vp_updL (q_registers0 m) (Int32.toNatClampNeg 0) l7)) (vp_updL (q_registers0 (t_registers0 m (vp_updL (q_registers0 m) (Int32.toNatClampNeg 0) l7))) (Int32.toNatClampNeg 2) k0))) D) rfl ?_
  refine wp1 rfl rfl ?_
  refine wp1 rfl rfl ?_
  refine wp2b rfl rfl (fun c5 => ?_) (fun c5 => ?_)
  · refine wp1 rfl rfl ?_
    refine wp0 rfl rfl ?_
    refine wp0 rfl rfl ?_
    refine wp2b rfl rfl (fun c6 => ?_) (fun c6 => ?_)
    · refine wp0 rfl rfl ?_
      exact wpL rfl rfl (sb_157_257 hJ4 hR (0) b0)
    · refine wp0 rfl rfl ?_
      refine wp2 rfl rfl ?_
      exact wpL rfl rfl (sb_157_257 hJ4 hR (1) b1)
  · refine wp1 rfl rfl ?_
    refine wp1 rfl rfl ?_
    refine wp0 rfl rfl ?_
    refine wp0 rfl rfl ?_
    refine wp0 rfl rfl ?_
    refine wp2b rfl rfl (fun c7 => ?_) (fun c7 => ?_)
    · refine wp0 rfl rfl ?_
      refine wp2 rfl rfl ?_
      exact wpL rfl rfl (sb_157_257 hJ4 hR (0) b0)
    · refine wp0 rfl rfl ?_
      refine wp2 rfl rfl ?_
      exact wpL rfl rfl (sb_157_257 hJ4 hR (1) b1)
set_option maxRecDepth 20000 in
theorem sb_157_178 {m m0 : ms} (hJ : K m) (hR : RL 2 m0 m) (k1 : Int32) (hb_k1 : b01 k1) : tb_wp L xs 157 178 [(0, .ref 24)] [.int k1, .ref 24] (HH s (MC m) D) (NV 2 m0 s D) := by
  refine wp3 rfl (am_putf rfl (Nat.le_of_ble_eq_true rfl) (b01_nar hb_k1) (b01_fit hb_k1)) ?_
  have hJ8 := K_carry hJ hb_k1
  refine wpH (h' := HH s (MC (t_carry m k1)) D) rfl ?_
  refine wp2 rfl rfl ?_
  exact wpL rfl rfl (sb_157_260 hJ8 hR )
set_option maxRecDepth 20000 in
theorem sb_157_110 {m m0 : ms} (hJ : K m) (hR : RL 2 m0 m) (k1 : Int32) (hb_k1 : b01 k1) : tb_wp L xs 157 110 [(0, .ref 24)] [.int k1, .ref 24] (HH s (MC m) D) (NV 2 m0 s D) := by
  refine wp3 rfl (am_putf rfl (Nat.le_of_ble_eq_true rfl) (b01_nar hb_k1) (b01_fit hb_k1)) ?_
  have hJ9 := K_carry hJ hb_k1
  refine wpH (h' := HH s (MC (t_carry m k1)) D) rfl ?_
  refine wp2 rfl rfl ?_
  exact wpL rfl rfl (sb_157_260 hJ9 hR )
set_option maxRecDepth 20000 in
theorem sb_157_42 {m m0 : ms} (hJ : K m) (hR : RL 2 m0 m) (l1 : Int32) (l2 : Int32) (l3 : Int64) (l5 : Int64) (k0 : Int64) (hb_l1 : b01 l1) : tb_wp L xs 157 42 [(0, .ref 24), (1, .int l1), (2, .int l2), (3, .long l3), (5, .long l5)] [.long k0] (HH s (MC m) D) (NV 2 m0 s D) := by
  refine wp1 rfl rfl ?_
  refine wpV (lv' := [(0, .ref 24), (1, .int l1), (2, .int l2), (3, .long l3), (5, .long l5), (7, .long k0)]) rfl ?_
  refine wp1 rfl rfl ?_
  refine wp0 rfl rfl ?_
  refine wp2b rfl rfl (fun c10 => ?_) (fun c10 => ?_)
  · refine wp1 rfl rfl ?_
    refine wp3 rfl (am_getf rfl rfl) ?_
    refine wp0 rfl rfl ?_
    refine wp1 rfl rfl ?_
    refine wp3 rfl (am_getf rfl rfl) ?_
    refine wp0 rfl rfl ?_
    refine wp3 rfl (am_lald rfl (by decide)) ?_
    refine wp0 rfl rfl ?_
    refine wp0 rfl rfl ?_
    refine wp1 rfl rfl ?_
    refine wp0 rfl rfl ?_
    refine wp0 rfl rfl ?_
    refine wp0 rfl rfl ?_
    refine wp3 rfl (am_last rfl (by decide)) ?_
    have hJ11 : K (t_registers0 m (vp_updL (q_registers0 m) (Int32.toNatClampNeg 0) (((q_registers0 m (Int32.toNatClampNeg 0)) &&& (-65536)) ||| (k0 &&& 65535)))) := hJ
    refine wpH (h' := HH s (MC (t_registers0 m (vp_updL (q_registers0 m) (Int32.toNatClampNeg 0) (((q_registers0 m (Int32.toNatClampNeg 0)) &&& (-65536)) ||| (k0 &&& 65535))))) D) rfl ?_
    refine wp1 rfl rfl ?_
    refine wp1 rfl rfl ?_
    refine wp2b rfl rfl (fun c12 => ?_) (fun c12 => ?_)
    · refine wp1 rfl rfl ?_
      refine wp0 rfl rfl ?_
      refine wp0 rfl rfl ?_
      refine wp2b rfl rfl (fun c13 => ?_) (fun c13 => ?_)
      · refine wp0 rfl rfl ?_
        exact wpL rfl rfl (sb_157_110 hJ11 hR (0) b0)
      · refine wp0 rfl rfl ?_
        refine wp2 rfl rfl ?_
        exact wpL rfl rfl (sb_157_110 hJ11 hR (1) b1)
    · refine wp1 rfl rfl ?_
      refine wp1 rfl rfl ?_
      refine wp0 rfl rfl ?_
      refine wp0 rfl rfl ?_
      refine wp0 rfl rfl ?_
      refine wp0 rfl rfl ?_
      refine wp2b rfl rfl (fun c14 => ?_) (fun c14 => ?_)
      · refine wp0 rfl rfl ?_
        refine wp2 rfl rfl ?_
        exact wpL rfl rfl (sb_157_110 hJ11 hR (0) b0)
      · refine wp0 rfl rfl ?_
        refine wp2 rfl rfl ?_
        exact wpL rfl rfl (sb_157_110 hJ11 hR (1) b1)
  · refine wp1 rfl rfl ?_
    refine wp0 rfl rfl ?_
    refine wp2b rfl rfl (fun c15 => ?_) (fun c15 => ?_)
    · refine wp1 rfl rfl ?_
      refine wp0 rfl rfl ?_
      refine wp0 rfl rfl ?_
      refine wp1 rfl rfl ?_
      refine wp4 rfl rfl (mf_176 hJ (0) (4) (k0) (by decide)) (fun rv h1 hq => ?_)
      obtain ⟨s17, hJ19, D18, rfl, rfl⟩ := hq
      refine wp1 rfl rfl ?_
      refine wp0 rfl rfl ?_
      refine wp0 rfl rfl ?_
      refine wp1 rfl rfl ?_
      refine wp0 rfl rfl ?_
      refine wp0 rfl rfl ?_
      refine wp4 rfl rfl (mf_176 hJ19 (2) (4) (((Int64.toUInt64 k0 >>> ((Int32.toInt64 32).toUInt64 &&& Int64.toUInt64 63)).toInt64)) (by decide)) (fun rv h1 hq => ?_)
      obtain ⟨s22, hJ24, D23, rfl, rfl⟩ := hq
      refine wp1 rfl rfl ?_
      refine wp1 rfl rfl ?_
      refine wp2b rfl rfl (fun c26 => ?_) (fun c26 => ?_)
      · refine wp1 rfl rfl ?_
        refine wp0 rfl rfl ?_
        refine wp0 rfl rfl ?_
        refine wp0 rfl rfl ?_
        refine wp0 rfl rfl ?_
        refine wp2b rfl rfl (fun c27 => ?_) (fun c27 => ?_)
        · refine wp0 rfl rfl ?_
          exact wpL rfl rfl (sb_157_178 hJ24 (RLt (RLt hR D18) D23) (0) b0)
        · refine wp0 rfl rfl ?_
          refine wp2 rfl rfl ?_
          exact wpL rfl rfl (sb_157_178 hJ24 (RLt (RLt hR D18) D23) (1) b1)
      · refine wp1 rfl rfl ?_
        refine wp1 rfl rfl ?_
        refine wp0 rfl rfl ?_
        refine wp0 rfl rfl ?_
        refine wp0 rfl rfl ?_
        refine wp2b rfl rfl (fun c28 => ?_) (fun c28 => ?_)
        · refine wp0 rfl rfl ?_
          refine wp2 rfl rfl ?_
          exact wpL rfl rfl (sb_157_178 hJ24 (RLt (RLt hR D18) D23) (0) b0)
        · refine wp0 rfl rfl ?_
          refine wp2 rfl rfl ?_
          exact wpL rfl rfl (sb_157_178 hJ24 (RLt (RLt hR D18) D23) (1) b1)
    · refine wp1 rfl rfl ?_
      refine wp2b rfl rfl (fun c29 => ?_) (fun c29 => ?_)
      · refine wp1 rfl rfl ?_
        refine wp1 rfl rfl ?_
        refine wp4 rfl rfl (mf_144 hJ (l5) (l3)) (fun rv h1 hq => ?_)
        obtain ⟨s31, hJ33, D32, rfl, x34, rfl⟩ := hq
        exact wpL rfl rfl (sb_157_203 hJ33 (RLt hR D32) (l1) (k0) (x34) hb_l1)
      · refine wp1 rfl rfl ?_
        refine wp1 rfl rfl ?_
        refine wp4 rfl rfl (mf_143 hJ (l5) (l3)) (fun rv h1 hq => ?_)
        obtain ⟨s36, hJ38, D37, rfl, x39, rfl⟩ := hq
        refine wp2 rfl rfl ?_
        exact wpL rfl rfl (sb_157_203 hJ38 (RLt hR D37) (l1) (k0) (x39) hb_l1)
set_option maxRecDepth 20000 in
theorem sb_157_0 {m m0 : ms} (hJ : K m) (hR : RL 2 m0 m) (l1 : Int32) (l2 : Int32) (hb_l1 : b01 l1) : tb_wp L xs 157 0 [(0, .ref 24), (1, .int l1), (2, .int l2)] [] (HH s (MC m) D) (NV 2 m0 s D) := by
  refine wp1 rfl rfl ?_
  refine wp0 rfl rfl ?_
  refine wp1 rfl rfl ?_
  refine wp4 rfl rfl (mf_187 hJ (0) (l2) (by decide)) (fun rv h1 hq => ?_)
  obtain ⟨s41, hJ43, D42, rfl, x44, rfl⟩ := hq
  refine wp1 rfl rfl ?_
  refine wpV (lv' := [(0, .ref 24), (1, .int l1), (2, .int l2), (3, .long x44)]) rfl ?_
  refine wp1 rfl rfl ?_
  refine wp3 rfl (am_getf rfl rfl) ?_
  refine wp0 rfl rfl ?_
  refine wp3 rfl (am_lald rfl (by decide)) ?_
  refine wp1 rfl rfl ?_
  refine wp4 rfl rfl (mf_135 hJ43 ((q_registers0 s41 (Int32.toNatClampNeg 0))) (l2)) (fun rv h1 hq => ?_)
  obtain ⟨s46, hJ48, D47, rfl, x49, rfl⟩ := hq
  refine wp1 rfl rfl ?_
  refine wpV (lv' := [(0, .ref 24), (1, .int l1), (2, .int l2), (3, .long x44), (5, .long x49)]) rfl ?_
  refine wp1 rfl rfl ?_
  refine wp2b rfl rfl (fun c50 => ?_) (fun c50 => ?_)
  · refine wp1 rfl rfl ?_
    refine wp1 rfl rfl ?_
    refine wp0 rfl rfl ?_
    exact wpL rfl rfl (sb_157_42 hJ48 (RLt (RLt hR D42) D47) (l1) (l2) (x44) (x49) ((x49 * x44)) hb_l1)
  · refine wp1 rfl rfl ?_
    refine wp1 rfl rfl ?_
    refine wp4 rfl rfl (mf_178 hJ48 (x49) (l2)) (fun rv h1 hq => ?_)
    obtain ⟨s52, hJ54, D53, rfl, x55, rfl⟩ := hq
    refine wp1 rfl rfl ?_
    refine wp1 rfl rfl ?_
    refine wp4 rfl rfl (mf_178 hJ54 (x44) (l2)) (fun rv h1 hq => ?_)
    obtain ⟨s57, hJ59, D58, rfl, x60, rfl⟩ := hq
    refine wp0 rfl rfl ?_
    refine wp2 rfl rfl ?_
    exact wpL rfl rfl (sb_157_42 hJ59 (RLt (RLt (RLt (RLt hR D42) D47) D53) D58) (l1) (l2) (x44) (x49) ((x55 * x60)) hb_l1)
theorem mf_157 {m : ms} (hJ : K m) (l1 : Int32) (l2 : Int32) (hb_l1 : b01 l1) : tb_wp L xs 157 0 (lv_args 0 [.ref 24, .int l1, .int l2]) [] (HH s (MC m) D) (NV 2 m s D) := sb_157_0 hJ RLr l1 l2 hb_l1
/- 167: FlagMachineModel.product(I)V -/
set_option maxRecDepth 20000 in
theorem sb_167_106 {m m0 : ms} (hJ : K m) (hR : RL 2 m0 m) (l1 : Int32) (l7 : Int64) (k1 : Int32) (hb_k1 : b01 k1) : tb_wp L xs 167 106 [(0, .ref 24), (1, .int l1), (7, .long l7)] [.int k1, .ref 24] (HH s (MC m) D) (NV 2 m0 s D) := by
  refine wp3 rfl (am_putf rfl (Nat.le_of_ble_eq_true rfl) (b01_nar hb_k1) (b01_fit hb_k1)) ?_
  have hJ1 := K_carry hJ hb_k1
  refine wpH (h' := HH s (MC (t_carry m k1)) D) rfl ?_
  refine wp1 rfl rfl ?_
  refine wp1 rfl rfl ?_
  refine wp3 rfl (am_getf rfl rfl) ?_
  refine wp3 rfl (am_putf rfl (Nat.le_of_ble_eq_true rfl) (b01_nar hJ1.1) (b01_fit hJ1.1)) ?_
  have hJ2 := K_over hJ1 hJ1.1
  refine wpH (h' := HH s (MC (t_over (t_carry m k1) (q_carry (t_carry m k1)))) D) rfl ?_
  refine wp1 rfl rfl ?_
  refine wp0 rfl rfl ?_
  refine wp1 rfl rfl ?_
  refine wp1 rfl rfl ?_
  refine wp1 rfl rfl ?_
  refine wp4 rfl rfl (mf_135 hJ2 (l7) (l1)) (fun rv h1 hq => ?_)
  obtain ⟨s4, hJ6, D5, rfl, x7, rfl⟩ := hq
  refine wp4 rfl rfl (mf_169 hJ6 (0) (l1) (x7) (by decide)) (fun rv h1 hq => ?_)
  obtain ⟨s9, hJ11, D10, rfl, rfl⟩ := hq
  exact wp5 rfl rfl ⟨_, hJ11, (RLt (RLt hR D5) D10), rfl, rfl⟩
set_option maxRecDepth 20000 in
theorem sb_167_54 {m m0 : ms} (hJ : K m) (hR : RL 2 m0 m) (l1 : Int32) (l3 : Int64) (k0 : Int64)  : tb_wp L xs 167 54 [(0, .ref 24), (1, .int l1), (3, .long l3)] [.long k0] (HH s (MC m) D) (NV 2 m0 s D) := by
  refine wp1 rfl rfl ?_
  refine wpV (lv' := [(0, .ref 24), (1, .int l1), (3, .long l3), (5, .long k0)]) rfl ?_
  refine wp1 rfl rfl ?_
  refine wp1 rfl rfl ?_
  refine wp0 rfl rfl ?_
  refine wpTl (fun z13 ez13 => ?_)
  refine wp1 rfl rfl ?_
  refine wpV (lv' := [(0, .ref 24), (1, .int l1), (3, .long l3), (5, .long k0), (7, .long z13)]) rfl ?_
  refine wp1 rfl rfl ?_
  refine wp1 rfl rfl ?_
  refine wp0 rfl rfl ?_
  refine wp2b rfl rfl (fun c14 => ?_) (fun c14 => ?_)
  · refine wp1 rfl rfl ?_
    refine wp1 rfl rfl ?_
    refine wp0 rfl rfl ?_
    refine wp0 rfl rfl ?_
    refine wp0 rfl rfl ?_
    refine wp2b rfl rfl (fun c15 => ?_) (fun c15 => ?_)
    · refine wp0 rfl rfl ?_
      refine wp2 rfl rfl ?_
      exact wpL rfl rfl (sb_167_106 hJ hR (l1) (z13) (0) b0)
    · refine wp0 rfl rfl ?_
      refine wp2 rfl rfl ?_
      exact wpL rfl rfl (sb_167_106 hJ hR (l1) (z13) (1) b1)
  · refine wp1 rfl rfl ?_
    refine wp1 rfl rfl ?_
    refine wp4 rfl rfl (mf_143 hJ (l3) (k0)) (fun rv h1 hq => ?_)
    obtain ⟨s17, hJ19, D18, rfl, x20, rfl⟩ := hq
    refine wp1 rfl rfl ?_
    refine wp0 rfl rfl ?_
    refine wp0 rfl rfl ?_
    refine wp0 rfl rfl ?_
    refine wp2b rfl rfl (fun c21 => ?_) (fun c21 => ?_)
    · refine wp0 rfl rfl ?_
      exact wpL rfl rfl (sb_167_106 hJ19 (RLt hR D18) (l1) (z13) (0) b0)
    · refine wp0 rfl rfl ?_
      refine wp2 rfl rfl ?_
      exact wpL rfl rfl (sb_167_106 hJ19 (RLt hR D18) (l1) (z13) (1) b1)
set_option maxRecDepth 20000 in
theorem sb_167_24 {m m0 : ms} (hJ : K m) (hR : RL 2 m0 m) (l1 : Int32) (l2 : Int32) (k1 : Int32) (hb_l2 : b01 l2) (hb_k1 : b01 k1) : tb_wp L xs 167 24 [(0, .ref 24), (1, .int l1), (2, .int l2)] [.int k1, .ref 24] (HH s (MC m) D) (NV 2 m0 s D) := by
  refine wp1 rfl rfl ?_
  refine wp4 rfl rfl (mf_187 hJ (k1) (l1) (b01_in hb_k1)) (fun rv h1 hq => ?_)
  obtain ⟨s23, hJ25, D24, rfl, x26, rfl⟩ := hq
  refine wp1 rfl rfl ?_
  refine wp4 rfl rfl (mf_178 hJ25 (x26) (l1)) (fun rv h1 hq => ?_)
  obtain ⟨s28, hJ30, D29, rfl, x31, rfl⟩ := hq
  refine wp1 rfl rfl ?_
  refine wpV (lv' := [(0, .ref 24), (1, .int l1), (2, .int l2), (3, .long x31)]) rfl ?_
  refine wp1 rfl rfl ?_
  refine wp2b rfl rfl (fun c32 => ?_) (fun c32 => ?_)
  · refine wp1 rfl rfl ?_
    refine wp0 rfl rfl ?_
    refine wp1 rfl rfl ?_
    refine wp4 rfl rfl (mf_187 hJ30 (1) (l1) (by decide)) (fun rv h1 hq => ?_)
    obtain ⟨s34, hJ36, D35, rfl, x37, rfl⟩ := hq
    refine wp1 rfl rfl ?_
    refine wp4 rfl rfl (mf_178 hJ36 (x37) (l1)) (fun rv h1 hq => ?_)
    obtain ⟨s39, hJ41, D40, rfl, x42, rfl⟩ := hq
    exact wpL rfl rfl (sb_167_54 hJ41 (RLt (RLt (RLt (RLt hR D24) D29) D35) D40) (l1) (x31) (x42))
  · refine wp1 rfl rfl ?_
    refine wp3 rfl (am_getf rfl rfl) ?_
    refine wp2 rfl rfl ?_
    exact wpL rfl rfl (sb_167_54 hJ30 (RLt (RLt hR D24) D29) (l1) (x31) ((q_number s28)))
set_option maxRecDepth 20000 in
theorem sb_167_13 {m m0 : ms} (hJ : K m) (hR : RL 2 m0 m) (l1 : Int32) (k0 : Int32) (hb_k0 : b01 k0) : tb_wp L xs 167 13 [(0, .ref 24), (1, .int l1)] [.int k0] (HH s (MC m) D) (NV 2 m0 s D) := by
  refine wp1 rfl rfl ?_
  refine wpV (lv' := [(0, .ref 24), (1, .int l1), (2, .int k0)]) rfl ?_
  refine wp1 rfl rfl ?_
  refine wp1 rfl rfl ?_
  refine wp2b rfl rfl (fun c43 => ?_) (fun c43 => ?_)
  · refine wp0 rfl rfl ?_
    exact wpL rfl rfl (sb_167_24 hJ hR (l1) (k0) (0) hb_k0 b0)
  · refine wp0 rfl rfl ?_
    refine wp2 rfl rfl ?_
    exact wpL rfl rfl (sb_167_24 hJ hR (l1) (k0) (1) hb_k0 b1)
set_option maxRecDepth 20000 in
theorem sb_167_0 {m m0 : ms} (hJ : K m) (hR : RL 2 m0 m) (l1 : Int32)  : tb_wp L xs 167 0 [(0, .ref 24), (1, .int l1)] [] (HH s (MC m) D) (NV 2 m0 s D) := by
  refine wp1 rfl rfl ?_
  refine wp0 rfl rfl ?_
  refine am_ev_at rfl rfl (ev_kinds (by decide)) ?_
  refine wp2b rfl rfl (fun c44 => ?_) (fun c44 => ?_)
  · refine wp0 rfl rfl ?_
    exact wpL rfl rfl (sb_167_13 hJ hR (l1) (0) b0)
  · refine wp0 rfl rfl ?_
    refine wp2 rfl rfl ?_
    exact wpL rfl rfl (sb_167_13 hJ hR (l1) (1) b1)
theorem mf_167 {m : ms} (hJ : K m) (l1 : Int32)  : tb_wp L xs 167 0 (lv_args 0 [.ref 24, .int l1]) [] (HH s (MC m) D) (NV 2 m s D) := sb_167_0 hJ RLr l1
/- 177: FlagMachineModel.shift(II)V -/
set_option maxRecDepth 20000 in
theorem sb_177_312 {m m0 : ms} (hJ : K m) (hR : RL 2 m0 m) (l2 : Int32) (l6 : Int64)  : tb_wp L xs 177 312 [(0, .ref 24), (2, .int l2), (6, .long l6)] [] (HH s (MC m) D) (NV 2 m0 s D) := by
  refine wp1 rfl rfl ?_
  refine wp0 rfl rfl ?_
  refine wp1 rfl rfl ?_
  refine wp1 rfl rfl ?_
  refine wp4 rfl rfl (mf_169 hJ (0) (l2) (l6) (by decide)) (fun rv h1 hq => ?_)
  obtain ⟨s2, hJ4, D3, rfl, rfl⟩ := hq
  exact wp5 rfl rfl ⟨_, hJ4, (RLt hR D3), rfl, rfl⟩
set_option maxRecDepth 20000 in
theorem sb_177_299 {m m0 : ms} (hJ : K m) (hR : RL 2 m0 m) (l1 : Int32) (l2 : Int32) (l6 : Int64)  : tb_wp L xs 177 299 [(0, .ref 24), (1, .int l1), (2, .int l2), (6, .long l6)] [] (HH s (MC m) D) (NV 2 m0 s D) := by
  refine wp1 rfl rfl ?_
  refine wp0 rfl rfl ?_
  refine wp2b rfl rfl (fun c6 => ?_) (fun c6 => ?_)
  · exact wpL rfl rfl (sb_177_312 hJ hR (l2) (l6))
  · refine wp1 rfl rfl ?_
    refine wp1 rfl rfl ?_
    refine wp1 rfl rfl ?_
    refine wp4 rfl rfl (mf_191 hJ (l6) (l2)) (fun rv h1 hq => ?_)
    obtain ⟨s8, hJ10, D9, rfl, rfl⟩ := hq
    exact wpL rfl rfl (sb_177_312 hJ10 (RLt hR D9) (l2) (l6))
set_option maxRecDepth 20000 in
theorem sb_177_296 {m m0 : ms} (hJ : K m) (hR : RL 2 m0 m) (l1 : Int32) (l2 : Int32) (l6 : Int64) (k1 : Int32) (hb_k1 : b01 k1) : tb_wp L xs 177 296 [(0, .ref 24), (1, .int l1), (2, .int l2), (6, .long l6)] [.int k1, .ref 24] (HH s (MC m) D) (NV 2 m0 s D) := by
  refine wp3 rfl (am_putf rfl (Nat.le_of_ble_eq_true rfl) (b01_nar hb_k1) (b01_fit hb_k1)) ?_
  have hJ12 := K_over hJ hb_k1
  refine wpH (h' := HH s (MC (t_over m k1)) D) rfl ?_
  exact wpL rfl rfl (sb_177_299 hJ12 hR (l1) (l2) (l6))
set_option maxRecDepth 20000 in
theorem sb_177_295 {m m0 : ms} (hJ : K m) (hR : RL 2 m0 m) (l1 : Int32) (l2 : Int32) (l6 : Int64)  : tb_wp L xs 177 295 [(0, .ref 24), (1, .int l1), (2, .int l2), (6, .long l6)] [.ref 24] (HH s (MC m) D) (NV 2 m0 s D) := by
  refine wp0 rfl rfl ?_
  exact wpL rfl rfl (sb_177_296 hJ hR (l1) (l2) (l6) (0) b0)
set_option maxRecDepth 20000 in
theorem sb_177_238 {m m0 : ms} (hJ : K m) (hR : RL 2 m0 m) (l1 : Int32) (l2 : Int32) (l6 : Int64) (k1 : Int32) (k2 : Int32) (hb_k1 : b01 k1) (hb_k2 : b01 k2) : tb_wp L xs 177 238 [(0, .ref 24), (1, .int l1), (2, .int l2), (6, .long l6)] [.int k2, .int k1, .ref 24] (HH s (MC m) D) (NV 2 m0 s D) := by
  refine wp2b rfl rfl (fun c13 => ?_) (fun c13 => ?_)
  · refine wp0 rfl rfl ?_
    refine wp2 rfl rfl ?_
    exact wpL rfl rfl (sb_177_296 hJ hR (l1) (l2) (l6) (0) b0)
  · refine wp0 rfl rfl ?_
    refine wp2 rfl rfl ?_
    exact wpL rfl rfl (sb_177_296 hJ hR (l1) (l2) (l6) (1) b1)
set_option maxRecDepth 20000 in
theorem sb_177_222 {m m0 : ms} (hJ : K m) (hR : RL 2 m0 m) (l1 : Int32) (l2 : Int32) (l6 : Int64) (l11 : Int64)  : tb_wp L xs 177 222 [(0, .ref 24), (1, .int l1), (2, .int l2), (6, .long l6), (11, .long l11)] [.ref 24] (HH s (MC m) D) (NV 2 m0 s D) := by
  refine wp1 rfl rfl ?_
  refine wp3 rfl (am_getf rfl rfl) ?_
  refine wp1 rfl rfl ?_
  refine wp0 rfl rfl ?_
  refine wp0 rfl rfl ?_
  refine wp2b rfl rfl (fun c14 => ?_) (fun c14 => ?_)
  · refine wp0 rfl rfl ?_
    refine wp2 rfl rfl ?_
    exact wpL rfl rfl (sb_177_238 hJ hR (l1) (l2) (l6) ((q_carry m)) (1) hJ.1 b1)
  · refine wp0 rfl rfl ?_
    exact wpL rfl rfl (sb_177_238 hJ hR (l1) (l2) (l6) ((q_carry m)) (0) hJ.1 b0)
set_option maxRecDepth 20000 in
theorem sb_177_57 (n : Nat) : ∀ {m m0 : ms} (hJ : K m) (hR : RL 2 m0 m) (l1 : Int32) (l2 : Int32) (l5 : Int32) (l6 : Int64) (l8 : Int64) (l10 : Int32) (l11 : Int32) (hn_l11 : 0 ≤ Int32.toInt l11) (hm : ((l5 : Int32).toInt - (l11 : Int32).toInt).toNat < n), tb_wp L xs 177 57 [(0, .ref 24), (1, .int l1), (2, .int l2), (5, .int l5), (6, .long l6), (8, .long l8), (10, .int l10), (11, .int l11)] [] (HH s (MC m) D) (NV 2 m0 s D) := by
  induction n with
  | zero => intro m m0 hJ hR l1 l2 l5 l6 l8 l10 l11 hn_l11 hm; exact absurd hm (Nat.not_lt_zero _)
  | succ n ih =>
    intro m m0 hJ hR l1 l2 l5 l6 l8 l10 l11 hn_l11 hm
    refine wp1 rfl rfl ?_
    refine wp1 rfl rfl ?_
    refine wp2b rfl rfl (fun c15 => ?_) (fun c15 => ?_)
    · refine wp1 rfl rfl ?_
      refine wp1 rfl rfl ?_
      refine wp4 rfl rfl (mf_189 hJ (l6) (l2)) (fun rv h1 hq => ?_)
      obtain ⟨s17, hJ19, D18, rfl, x20, rfl⟩ := hq
      refine wp1 rfl rfl ?_
      refine wpV (lv' := [(0, .ref 24), (1, .int l1), (2, .int l2), (5, .int l5), (6, .long l6), (8, .long l8), (10, .int l10), (11, .long x20)]) rfl ?_
      refine wp1 rfl rfl ?_
      refine wp0 rfl rfl ?_
      refine wp2b rfl rfl (fun c21 => ?_) (fun c21 => ?_)
      · refine wp1 rfl rfl ?_
        refine wp1 rfl rfl ?_
        refine wp0 rfl rfl ?_
        refine wp2b rfl rfl (fun c22 => ?_) (fun c22 => ?_)
        · exact wpL rfl rfl (sb_177_222 hJ19 (RLt hR D18) (l1) (l2) (l6) (x20))
        · refine wp1 rfl rfl ?_
          refine wp0 rfl rfl ?_
          refine wp2b rfl rfl (fun c23 => ?_) (fun c23 => ?_)
          · exact wpL rfl rfl (sb_177_222 hJ19 (RLt hR D18) (l1) (l2) (l6) (x20))
          · refine wp1 rfl rfl ?_
            refine wp0 rfl rfl ?_
            refine wp2b rfl rfl (fun c24 => ?_) (fun c24 => ?_)
            · refine wp1 rfl rfl ?_
              refine wp1 rfl rfl ?_
              refine wp1 rfl rfl ?_
              refine wp0 rfl rfl ?_
              refine wp0 rfl rfl ?_
              refine wp0 rfl rfl ?_
              refine wp0 rfl rfl ?_
              refine wp0 rfl rfl ?_
              refine wp0 rfl rfl ?_
              refine wp2b rfl rfl (fun c25 => ?_) (fun c25 => ?_)
              · refine wp0 rfl rfl ?_
                refine wp2 rfl rfl ?_
                exact wpL rfl rfl (sb_177_296 hJ19 (RLt hR D18) (l1) (l2) (l6) (0) b0)
              · refine wp0 rfl rfl ?_
                refine wp2 rfl rfl ?_
                exact wpL rfl rfl (sb_177_296 hJ19 (RLt hR D18) (l1) (l2) (l6) (1) b1)
            · refine wp1 rfl rfl ?_
              refine wp0 rfl rfl ?_
              refine wp2b rfl rfl (fun c26 => ?_) (fun c26 => ?_)
              · refine wp1 rfl rfl ?_
                refine wp0 rfl rfl ?_
                refine wp0 rfl rfl ?_
                refine wp2b rfl rfl (fun c27 => ?_) (fun c27 => ?_)
                · refine wp0 rfl rfl ?_
                  refine wp2 rfl rfl ?_
                  exact wpL rfl rfl (sb_177_296 hJ19 (RLt hR D18) (l1) (l2) (l6) (1) b1)
                · exact wpL rfl rfl (sb_177_295 hJ19 (RLt hR D18) (l1) (l2) (l6))
              · exact wpL rfl rfl (sb_177_295 hJ19 (RLt hR D18) (l1) (l2) (l6))
      · exact wpL rfl rfl (sb_177_299 hJ19 (RLt hR D18) (l1) (l2) (l6))
    · refine wp1 rfl rfl ?_
      refine wp0 rfl rfl ?_
      refine wp2b rfl rfl (fun c28 => ?_) (fun c28 => ?_)
      · refine wp0 rfl rfl ?_
        refine wp2 rfl rfl ?_
        refine wp1 rfl rfl ?_
        refine wpV (lv' := [(0, .ref 24), (1, .int l1), (2, .int l2), (5, .int l5), (6, .long l6), (8, .long l8), (10, .int l10), (11, .int l11), (12, .int 1)]) rfl ?_
        refine wp1 rfl rfl ?_
        refine wp2b rfl rfl (fun c29 => ?_) (fun c29 => ?_)
        · refine wp1 rfl rfl ?_
          refine wp0 rfl rfl ?_
          refine wp0 rfl rfl ?_
          refine wpTl (fun z30 ez30 => ?_)
          refine wp1 rfl rfl ?_
          refine wpV (lv' := [(0, .ref 24), (1, .int l1), (2, .int l2), (5, .int l5), (6, .long l6), (8, .long l8), (10, .int l10), (11, .int l11), (12, .int 1), (13, .long z30)]) rfl ?_
          refine wp1 rfl rfl ?_
          refine wp1 rfl rfl ?_
          refine wp0 rfl rfl ?_
          refine wp0 rfl rfl ?_
          refine wp2b rfl rfl (fun c31 => ?_) (fun c31 => ?_)
          · refine wp0 rfl rfl ?_
            refine wp2 rfl rfl ?_
            refine wp3 rfl (am_putf rfl (Nat.le_of_ble_eq_true rfl) (b01_nar b1) (b01_fit b1)) ?_
            have hJ32 := K_carry hJ b1
            refine wpH (h' := HH s (MC (t_carry m 1)) D) rfl ?_
            refine wp1 rfl rfl ?_
            refine wp2b rfl rfl (fun c33 => ?_) (fun c33 => ?_)
            · refine wp1 rfl rfl ?_
              refine wp0 rfl rfl ?_
              refine wp0 rfl rfl ?_
              refine wp1 rfl rfl ?_
              refine wp0 rfl rfl ?_
              refine wp2b rfl rfl (fun c34 => ?_) (fun c34 => ?_)
              · refine wp1 rfl rfl ?_
                refine wp2 rfl rfl ?_
                refine wp1 rfl rfl ?_
                refine wp0 rfl rfl ?_
                refine wp0 rfl rfl ?_
                refine wpTl (fun z35 ez35 => ?_)
                refine wp1 rfl rfl ?_
                refine wpV (lv' := [(0, .ref 24), (1, .int l1), (2, .int l2), (5, .int l5), (6, .long z35), (8, .long l8), (10, .int l10), (11, .int l11)]) rfl ?_
                refine wp1 rfl rfl ?_
                refine wpV (lv' := [(0, .ref 24), (1, .int l1), (2, .int l2), (5, .int l5), (6, .long z35), (8, .long l8), (10, .int l10), (11, .int (l11 + 1))]) rfl ?_
                refine wp2 rfl rfl ?_
                exact wpL rfl rfl (ih hJ32 hR (l1) (l2) (l5) (z35) (l8) (l10) ((l11 + 1)) (i32_upp c15 hn_l11) (i32_up c15 hm))
              · refine wp1 rfl rfl ?_
                refine wp0 rfl rfl ?_
                refine wp2b rfl rfl (fun c36 => ?_) (fun c36 => ?_)
                · refine wp1 rfl rfl ?_
                  refine wp1 rfl rfl ?_
                  refine wp0 rfl rfl ?_
                  refine wp0 rfl rfl ?_
                  refine wp0 rfl rfl ?_
                  refine wp2 rfl rfl ?_
                  refine wp1 rfl rfl ?_
                  refine wp0 rfl rfl ?_
                  refine wp0 rfl rfl ?_
                  refine wpTl (fun z37 ez37 => ?_)
                  refine wp1 rfl rfl ?_
                  refine wpV (lv' := [(0, .ref 24), (1, .int l1), (2, .int l2), (5, .int l5), (6, .long z37), (8, .long l8), (10, .int l10), (11, .int l11)]) rfl ?_
                  refine wp1 rfl rfl ?_
                  refine wpV (lv' := [(0, .ref 24), (1, .int l1), (2, .int l2), (5, .int l5), (6, .long z37), (8, .long l8), (10, .int l10), (11, .int (l11 + 1))]) rfl ?_
                  refine wp2 rfl rfl ?_
                  exact wpL rfl rfl (ih hJ32 hR (l1) (l2) (l5) (z37) (l8) (l10) ((l11 + 1)) (i32_upp c15 hn_l11) (i32_up c15 hm))
                · refine wp0 rfl rfl ?_
                  refine wp1 rfl rfl ?_
                  refine wp0 rfl rfl ?_
                  refine wp0 rfl rfl ?_
                  refine wpTl (fun z38 ez38 => ?_)
                  refine wp1 rfl rfl ?_
                  refine wpV (lv' := [(0, .ref 24), (1, .int l1), (2, .int l2), (5, .int l5), (6, .long z38), (8, .long l8), (10, .int l10), (11, .int l11)]) rfl ?_
                  refine wp1 rfl rfl ?_
                  refine wpV (lv' := [(0, .ref 24), (1, .int l1), (2, .int l2), (5, .int l5), (6, .long z38), (8, .long l8), (10, .int l10), (11, .int (l11 + 1))]) rfl ?_
                  refine wp2 rfl rfl ?_
                  exact wpL rfl rfl (ih hJ32 hR (l1) (l2) (l5) (z38) (l8) (l10) ((l11 + 1)) (i32_upp c15 hn_l11) (i32_up c15 hm))
            · refine wp1 rfl rfl ?_
              refine wp0 rfl rfl ?_
              refine wp0 rfl rfl ?_
              refine wp1 rfl rfl ?_
              refine wp4 rfl rfl (mf_135 hJ32 ((l6 <<< (Int32.toInt64 1 &&& 63))) (l2)) (fun rv h1 hq => ?_)
              obtain ⟨s40, hJ42, D41, rfl, x43, rfl⟩ := hq
              refine wp1 rfl rfl ?_
              refine wp0 rfl rfl ?_
              refine wp2b rfl rfl (fun c44 => ?_) (fun c44 => ?_)
              · refine wp1 rfl rfl ?_
                refine wp2 rfl rfl ?_
                refine wp0 rfl rfl ?_
                refine wpTl (fun z45 ez45 => ?_)
                refine wp1 rfl rfl ?_
                refine wpV (lv' := [(0, .ref 24), (1, .int l1), (2, .int l2), (5, .int l5), (6, .long z45), (8, .long l8), (10, .int l10), (11, .int l11)]) rfl ?_
                refine wp2 rfl rfl ?_
                refine wp1 rfl rfl ?_
                refine wpV (lv' := [(0, .ref 24), (1, .int l1), (2, .int l2), (5, .int l5), (6, .long z45), (8, .long l8), (10, .int l10), (11, .int (l11 + 1))]) rfl ?_
                refine wp2 rfl rfl ?_
                exact wpL rfl rfl (ih hJ42 (RLt hR D41) (l1) (l2) (l5) (z45) (l8) (l10) ((l11 + 1)) (i32_upp c15 hn_l11) (i32_up c15 hm))
              · refine wp0 rfl rfl ?_
                refine wp0 rfl rfl ?_
                refine wpTl (fun z46 ez46 => ?_)
                refine wp1 rfl rfl ?_
                refine wpV (lv' := [(0, .ref 24), (1, .int l1), (2, .int l2), (5, .int l5), (6, .long z46), (8, .long l8), (10, .int l10), (11, .int l11)]) rfl ?_
                refine wp2 rfl rfl ?_
                refine wp1 rfl rfl ?_
                refine wpV (lv' := [(0, .ref 24), (1, .int l1), (2, .int l2), (5, .int l5), (6, .long z46), (8, .long l8), (10, .int l10), (11, .int (l11 + 1))]) rfl ?_
                refine wp2 rfl rfl ?_
                exact wpL rfl rfl (ih hJ42 (RLt hR D41) (l1) (l2) (l5) (z46) (l8) (l10) ((l11 + 1)) (i32_upp c15 hn_l11) (i32_up c15 hm))
          · refine wp0 rfl rfl ?_
            refine wp3 rfl (am_putf rfl (Nat.le_of_ble_eq_true rfl) (b01_nar b0) (b01_fit b0)) ?_
            have hJ47 := K_carry hJ b0
            refine wpH (h' := HH s (MC (t_carry m 0)) D) rfl ?_
            refine wp1 rfl rfl ?_
            refine wp2b rfl rfl (fun c48 => ?_) (fun c48 => ?_)
            · refine wp1 rfl rfl ?_
              refine wp0 rfl rfl ?_
              refine wp0 rfl rfl ?_
              refine wp1 rfl rfl ?_
              refine wp0 rfl rfl ?_
              refine wp2b rfl rfl (fun c49 => ?_) (fun c49 => ?_)
              · refine wp1 rfl rfl ?_
                refine wp2 rfl rfl ?_
                refine wp1 rfl rfl ?_
                refine wp0 rfl rfl ?_
                refine wp0 rfl rfl ?_
                refine wpTl (fun z50 ez50 => ?_)
                refine wp1 rfl rfl ?_
                refine wpV (lv' := [(0, .ref 24), (1, .int l1), (2, .int l2), (5, .int l5), (6, .long z50), (8, .long l8), (10, .int l10), (11, .int l11)]) rfl ?_
                refine wp1 rfl rfl ?_
                refine wpV (lv' := [(0, .ref 24), (1, .int l1), (2, .int l2), (5, .int l5), (6, .long z50), (8, .long l8), (10, .int l10), (11, .int (l11 + 1))]) rfl ?_
                refine wp2 rfl rfl ?_
                exact wpL rfl rfl (ih hJ47 hR (l1) (l2) (l5) (z50) (l8) (l10) ((l11 + 1)) (i32_upp c15 hn_l11) (i32_up c15 hm))
              · refine wp1 rfl rfl ?_
                refine wp0 rfl rfl ?_
                refine wp2b rfl rfl (fun c51 => ?_) (fun c51 => ?_)
                · refine wp1 rfl rfl ?_
                  refine wp1 rfl rfl ?_
                  refine wp0 rfl rfl ?_
                  refine wp0 rfl rfl ?_
                  refine wp0 rfl rfl ?_
                  refine wp2 rfl rfl ?_
                  refine wp1 rfl rfl ?_
                  refine wp0 rfl rfl ?_
                  refine wp0 rfl rfl ?_
                  refine wpTl (fun z52 ez52 => ?_)
                  refine wp1 rfl rfl ?_
                  refine wpV (lv' := [(0, .ref 24), (1, .int l1), (2, .int l2), (5, .int l5), (6, .long z52), (8, .long l8), (10, .int l10), (11, .int l11)]) rfl ?_
                  refine wp1 rfl rfl ?_
                  refine wpV (lv' := [(0, .ref 24), (1, .int l1), (2, .int l2), (5, .int l5), (6, .long z52), (8, .long l8), (10, .int l10), (11, .int (l11 + 1))]) rfl ?_
                  refine wp2 rfl rfl ?_
                  exact wpL rfl rfl (ih hJ47 hR (l1) (l2) (l5) (z52) (l8) (l10) ((l11 + 1)) (i32_upp c15 hn_l11) (i32_up c15 hm))
                · refine wp0 rfl rfl ?_
                  refine wp1 rfl rfl ?_
                  refine wp0 rfl rfl ?_
                  refine wp0 rfl rfl ?_
                  refine wpTl (fun z53 ez53 => ?_)
                  refine wp1 rfl rfl ?_
                  refine wpV (lv' := [(0, .ref 24), (1, .int l1), (2, .int l2), (5, .int l5), (6, .long z53), (8, .long l8), (10, .int l10), (11, .int l11)]) rfl ?_
                  refine wp1 rfl rfl ?_
                  refine wpV (lv' := [(0, .ref 24), (1, .int l1), (2, .int l2), (5, .int l5), (6, .long z53), (8, .long l8), (10, .int l10), (11, .int (l11 + 1))]) rfl ?_
                  refine wp2 rfl rfl ?_
                  exact wpL rfl rfl (ih hJ47 hR (l1) (l2) (l5) (z53) (l8) (l10) ((l11 + 1)) (i32_upp c15 hn_l11) (i32_up c15 hm))
            · refine wp1 rfl rfl ?_
              refine wp0 rfl rfl ?_
              refine wp0 rfl rfl ?_
              refine wp1 rfl rfl ?_
              refine wp4 rfl rfl (mf_135 hJ47 ((l6 <<< (Int32.toInt64 1 &&& 63))) (l2)) (fun rv h1 hq => ?_)
              obtain ⟨s55, hJ57, D56, rfl, x58, rfl⟩ := hq
              refine wp1 rfl rfl ?_
              refine wp0 rfl rfl ?_
              refine wp2b rfl rfl (fun c59 => ?_) (fun c59 => ?_)
              · refine wp1 rfl rfl ?_
                refine wp2 rfl rfl ?_
                refine wp0 rfl rfl ?_
                refine wpTl (fun z60 ez60 => ?_)
                refine wp1 rfl rfl ?_
                refine wpV (lv' := [(0, .ref 24), (1, .int l1), (2, .int l2), (5, .int l5), (6, .long z60), (8, .long l8), (10, .int l10), (11, .int l11)]) rfl ?_
                refine wp2 rfl rfl ?_
                refine wp1 rfl rfl ?_
                refine wpV (lv' := [(0, .ref 24), (1, .int l1), (2, .int l2), (5, .int l5), (6, .long z60), (8, .long l8), (10, .int l10), (11, .int (l11 + 1))]) rfl ?_
                refine wp2 rfl rfl ?_
                exact wpL rfl rfl (ih hJ57 (RLt hR D56) (l1) (l2) (l5) (z60) (l8) (l10) ((l11 + 1)) (i32_upp c15 hn_l11) (i32_up c15 hm))
              · refine wp0 rfl rfl ?_
                refine wp0 rfl rfl ?_
                refine wpTl (fun z61 ez61 => ?_)
                refine wp1 rfl rfl ?_
                refine wpV (lv' := [(0, .ref 24), (1, .int l1), (2, .int l2), (5, .int l5), (6, .long z61), (8, .long l8), (10, .int l10), (11, .int l11)]) rfl ?_
                refine wp2 rfl rfl ?_
                refine wp1 rfl rfl ?_
                refine wpV (lv' := [(0, .ref 24), (1, .int l1), (2, .int l2), (5, .int l5), (6, .long z61), (8, .long l8), (10, .int l10), (11, .int (l11 + 1))]) rfl ?_
                refine wp2 rfl rfl ?_
                exact wpL rfl rfl (ih hJ57 (RLt hR D56) (l1) (l2) (l5) (z61) (l8) (l10) ((l11 + 1)) (i32_upp c15 hn_l11) (i32_up c15 hm))
        · refine wp1 rfl rfl ?_
          refine wp1 rfl rfl ?_
          refine wp0 rfl rfl ?_
          refine wp0 rfl rfl ?_
          refine wp0 rfl rfl ?_
          refine wp2 rfl rfl ?_
          refine wpTl (fun z62 ez62 => ?_)
          refine wp1 rfl rfl ?_
          refine wpV (lv' := [(0, .ref 24), (1, .int l1), (2, .int l2), (5, .int l5), (6, .long l6), (8, .long l8), (10, .int l10), (11, .int l11), (12, .int 1), (13, .long z62)]) rfl ?_
          refine wp1 rfl rfl ?_
          refine wp1 rfl rfl ?_
          refine wp0 rfl rfl ?_
          refine wp0 rfl rfl ?_
          refine wp2b rfl rfl (fun c63 => ?_) (fun c63 => ?_)
          · refine wp0 rfl rfl ?_
            refine wp2 rfl rfl ?_
            refine wp3 rfl (am_putf rfl (Nat.le_of_ble_eq_true rfl) (b01_nar b1) (b01_fit b1)) ?_
            have hJ64 := K_carry hJ b1
            refine wpH (h' := HH s (MC (t_carry m 1)) D) rfl ?_
            refine wp1 rfl rfl ?_
            refine wp2b rfl rfl (fun c65 => ?_) (fun c65 => ?_)
            · refine wp1 rfl rfl ?_
              refine wp0 rfl rfl ?_
              refine wp0 rfl rfl ?_
              refine wp1 rfl rfl ?_
              refine wp0 rfl rfl ?_
              refine wp2b rfl rfl (fun c66 => ?_) (fun c66 => ?_)
              · refine wp1 rfl rfl ?_
                refine wp2 rfl rfl ?_
                refine wp1 rfl rfl ?_
                refine wp0 rfl rfl ?_
                refine wp0 rfl rfl ?_
                refine wpTl (fun z67 ez67 => ?_)
                refine wp1 rfl rfl ?_
                refine wpV (lv' := [(0, .ref 24), (1, .int l1), (2, .int l2), (5, .int l5), (6, .long z67), (8, .long l8), (10, .int l10), (11, .int l11)]) rfl ?_
                refine wp1 rfl rfl ?_
                refine wpV (lv' := [(0, .ref 24), (1, .int l1), (2, .int l2), (5, .int l5), (6, .long z67), (8, .long l8), (10, .int l10), (11, .int (l11 + 1))]) rfl ?_
                refine wp2 rfl rfl ?_
                exact wpL rfl rfl (ih hJ64 hR (l1) (l2) (l5) (z67) (l8) (l10) ((l11 + 1)) (i32_upp c15 hn_l11) (i32_up c15 hm))
              · refine wp1 rfl rfl ?_
                refine wp0 rfl rfl ?_
                refine wp2b rfl rfl (fun c68 => ?_) (fun c68 => ?_)
                · refine wp1 rfl rfl ?_
                  refine wp1 rfl rfl ?_
                  refine wp0 rfl rfl ?_
                  refine wp0 rfl rfl ?_
                  refine wp0 rfl rfl ?_
                  refine wp2 rfl rfl ?_
                  refine wp1 rfl rfl ?_
                  refine wp0 rfl rfl ?_
                  refine wp0 rfl rfl ?_
                  refine wpTl (fun z69 ez69 => ?_)
                  refine wp1 rfl rfl ?_
                  refine wpV (lv' := [(0, .ref 24), (1, .int l1), (2, .int l2), (5, .int l5), (6, .long z69), (8, .long l8), (10, .int l10), (11, .int l11)]) rfl ?_
                  refine wp1 rfl rfl ?_
                  refine wpV (lv' := [(0, .ref 24), (1, .int l1), (2, .int l2), (5, .int l5), (6, .long z69), (8, .long l8), (10, .int l10), (11, .int (l11 + 1))]) rfl ?_
                  refine wp2 rfl rfl ?_
                  exact wpL rfl rfl (ih hJ64 hR (l1) (l2) (l5) (z69) (l8) (l10) ((l11 + 1)) (i32_upp c15 hn_l11) (i32_up c15 hm))
                · refine wp0 rfl rfl ?_
                  refine wp1 rfl rfl ?_
                  refine wp0 rfl rfl ?_
                  refine wp0 rfl rfl ?_
                  refine wpTl (fun z70 ez70 => ?_)
                  refine wp1 rfl rfl ?_
                  refine wpV (lv' := [(0, .ref 24), (1, .int l1), (2, .int l2), (5, .int l5), (6, .long z70), (8, .long l8), (10, .int l10), (11, .int l11)]) rfl ?_
                  refine wp1 rfl rfl ?_
                  refine wpV (lv' := [(0, .ref 24), (1, .int l1), (2, .int l2), (5, .int l5), (6, .long z70), (8, .long l8), (10, .int l10), (11, .int (l11 + 1))]) rfl ?_
                  refine wp2 rfl rfl ?_
                  exact wpL rfl rfl (ih hJ64 hR (l1) (l2) (l5) (z70) (l8) (l10) ((l11 + 1)) (i32_upp c15 hn_l11) (i32_up c15 hm))
            · refine wp1 rfl rfl ?_
              refine wp0 rfl rfl ?_
              refine wp0 rfl rfl ?_
              refine wp1 rfl rfl ?_
              refine wp4 rfl rfl (mf_135 hJ64 ((l6 <<< (Int32.toInt64 1 &&& 63))) (l2)) (fun rv h1 hq => ?_)
              obtain ⟨s72, hJ74, D73, rfl, x75, rfl⟩ := hq
              refine wp1 rfl rfl ?_
              refine wp0 rfl rfl ?_
              refine wp2b rfl rfl (fun c76 => ?_) (fun c76 => ?_)
              · refine wp1 rfl rfl ?_
                refine wp2 rfl rfl ?_
                refine wp0 rfl rfl ?_
                refine wpTl (fun z77 ez77 => ?_)
                refine wp1 rfl rfl ?_
                refine wpV (lv' := [(0, .ref 24), (1, .int l1), (2, .int l2), (5, .int l5), (6, .long z77), (8, .long l8), (10, .int l10), (11, .int l11)]) rfl ?_
                refine wp2 rfl rfl ?_
                refine wp1 rfl rfl ?_
                refine wpV (lv' := [(0, .ref 24), (1, .int l1), (2, .int l2), (5, .int l5), (6, .long z77), (8, .long l8), (10, .int l10), (11, .int (l11 + 1))]) rfl ?_
                refine wp2 rfl rfl ?_
                exact wpL rfl rfl (ih hJ74 (RLt hR D73) (l1) (l2) (l5) (z77) (l8) (l10) ((l11 + 1)) (i32_upp c15 hn_l11) (i32_up c15 hm))
              · refine wp0 rfl rfl ?_
                refine wp0 rfl rfl ?_
                refine wpTl (fun z78 ez78 => ?_)
                refine wp1 rfl rfl ?_
                refine wpV (lv' := [(0, .ref 24), (1, .int l1), (2, .int l2), (5, .int l5), (6, .long z78), (8, .long l8), (10, .int l10), (11, .int l11)]) rfl ?_
                refine wp2 rfl rfl ?_
                refine wp1 rfl rfl ?_
                refine wpV (lv' := [(0, .ref 24), (1, .int l1), (2, .int l2), (5, .int l5), (6, .long z78), (8, .long l8), (10, .int l10), (11, .int (l11 + 1))]) rfl ?_
                refine wp2 rfl rfl ?_
                exact wpL rfl rfl (ih hJ74 (RLt hR D73) (l1) (l2) (l5) (z78) (l8) (l10) ((l11 + 1)) (i32_upp c15 hn_l11) (i32_up c15 hm))
          · refine wp0 rfl rfl ?_
            refine wp3 rfl (am_putf rfl (Nat.le_of_ble_eq_true rfl) (b01_nar b0) (b01_fit b0)) ?_
            have hJ79 := K_carry hJ b0
            refine wpH (h' := HH s (MC (t_carry m 0)) D) rfl ?_
            refine wp1 rfl rfl ?_
            refine wp2b rfl rfl (fun c80 => ?_) (fun c80 => ?_)
            · refine wp1 rfl rfl ?_
              refine wp0 rfl rfl ?_
              refine wp0 rfl rfl ?_
              refine wp1 rfl rfl ?_
              refine wp0 rfl rfl ?_
              refine wp2b rfl rfl (fun c81 => ?_) (fun c81 => ?_)
              · refine wp1 rfl rfl ?_
                refine wp2 rfl rfl ?_
                refine wp1 rfl rfl ?_
                refine wp0 rfl rfl ?_
                refine wp0 rfl rfl ?_
                refine wpTl (fun z82 ez82 => ?_)
                refine wp1 rfl rfl ?_
                refine wpV (lv' := [(0, .ref 24), (1, .int l1), (2, .int l2), (5, .int l5), (6, .long z82), (8, .long l8), (10, .int l10), (11, .int l11)]) rfl ?_
                refine wp1 rfl rfl ?_
                refine wpV (lv' := [(0, .ref 24), (1, .int l1), (2, .int l2), (5, .int l5), (6, .long z82), (8, .long l8), (10, .int l10), (11, .int (l11 + 1))]) rfl ?_
                refine wp2 rfl rfl ?_
                exact wpL rfl rfl (ih hJ79 hR (l1) (l2) (l5) (z82) (l8) (l10) ((l11 + 1)) (i32_upp c15 hn_l11) (i32_up c15 hm))
              · refine wp1 rfl rfl ?_
                refine wp0 rfl rfl ?_
                refine wp2b rfl rfl (fun c83 => ?_) (fun c83 => ?_)
                · refine wp1 rfl rfl ?_
                  refine wp1 rfl rfl ?_
                  refine wp0 rfl rfl ?_
                  refine wp0 rfl rfl ?_
                  refine wp0 rfl rfl ?_
                  refine wp2 rfl rfl ?_
                  refine wp1 rfl rfl ?_
                  refine wp0 rfl rfl ?_
                  refine wp0 rfl rfl ?_
                  refine wpTl (fun z84 ez84 => ?_)
                  refine wp1 rfl rfl ?_
                  refine wpV (lv' := [(0, .ref 24), (1, .int l1), (2, .int l2), (5, .int l5), (6, .long z84), (8, .long l8), (10, .int l10), (11, .int l11)]) rfl ?_
                  refine wp1 rfl rfl ?_
                  refine wpV (lv' := [(0, .ref 24), (1, .int l1), (2, .int l2), (5, .int l5), (6, .long z84), (8, .long l8), (10, .int l10), (11, .int (l11 + 1))]) rfl ?_
                  refine wp2 rfl rfl ?_
                  exact wpL rfl rfl (ih hJ79 hR (l1) (l2) (l5) (z84) (l8) (l10) ((l11 + 1)) (i32_upp c15 hn_l11) (i32_up c15 hm))
                · refine wp0 rfl rfl ?_
                  refine wp1 rfl rfl ?_
                  refine wp0 rfl rfl ?_
                  refine wp0 rfl rfl ?_
                  refine wpTl (fun z85 ez85 => ?_)
                  refine wp1 rfl rfl ?_
                  refine wpV (lv' := [(0, .ref 24), (1, .int l1), (2, .int l2), (5, .int l5), (6, .long z85), (8, .long l8), (10, .int l10), (11, .int l11)]) rfl ?_
                  refine wp1 rfl rfl ?_
                  refine wpV (lv' := [(0, .ref 24), (1, .int l1), (2, .int l2), (5, .int l5), (6, .long z85), (8, .long l8), (10, .int l10), (11, .int (l11 + 1))]) rfl ?_
                  refine wp2 rfl rfl ?_
                  exact wpL rfl rfl (ih hJ79 hR (l1) (l2) (l5) (z85) (l8) (l10) ((l11 + 1)) (i32_upp c15 hn_l11) (i32_up c15 hm))
            · refine wp1 rfl rfl ?_
              refine wp0 rfl rfl ?_
              refine wp0 rfl rfl ?_
              refine wp1 rfl rfl ?_
              refine wp4 rfl rfl (mf_135 hJ79 ((l6 <<< (Int32.toInt64 1 &&& 63))) (l2)) (fun rv h1 hq => ?_)
              obtain ⟨s87, hJ89, D88, rfl, x90, rfl⟩ := hq
              refine wp1 rfl rfl ?_
              refine wp0 rfl rfl ?_
              refine wp2b rfl rfl (fun c91 => ?_) (fun c91 => ?_)
              · refine wp1 rfl rfl ?_
                refine wp2 rfl rfl ?_
                refine wp0 rfl rfl ?_
                refine wpTl (fun z92 ez92 => ?_)
                refine wp1 rfl rfl ?_
                refine wpV (lv' := [(0, .ref 24), (1, .int l1), (2, .int l2), (5, .int l5), (6, .long z92), (8, .long l8), (10, .int l10), (11, .int l11)]) rfl ?_
                refine wp2 rfl rfl ?_
                refine wp1 rfl rfl ?_
                refine wpV (lv' := [(0, .ref 24), (1, .int l1), (2, .int l2), (5, .int l5), (6, .long z92), (8, .long l8), (10, .int l10), (11, .int (l11 + 1))]) rfl ?_
                refine wp2 rfl rfl ?_
                exact wpL rfl rfl (ih hJ89 (RLt hR D88) (l1) (l2) (l5) (z92) (l8) (l10) ((l11 + 1)) (i32_upp c15 hn_l11) (i32_up c15 hm))
              · refine wp0 rfl rfl ?_
                refine wp0 rfl rfl ?_
                refine wpTl (fun z93 ez93 => ?_)
                refine wp1 rfl rfl ?_
                refine wpV (lv' := [(0, .ref 24), (1, .int l1), (2, .int l2), (5, .int l5), (6, .long z93), (8, .long l8), (10, .int l10), (11, .int l11)]) rfl ?_
                refine wp2 rfl rfl ?_
                refine wp1 rfl rfl ?_
                refine wpV (lv' := [(0, .ref 24), (1, .int l1), (2, .int l2), (5, .int l5), (6, .long z93), (8, .long l8), (10, .int l10), (11, .int (l11 + 1))]) rfl ?_
                refine wp2 rfl rfl ?_
                exact wpL rfl rfl (ih hJ89 (RLt hR D88) (l1) (l2) (l5) (z93) (l8) (l10) ((l11 + 1)) (i32_upp c15 hn_l11) (i32_up c15 hm))
      · refine wp1 rfl rfl ?_
        refine wp0 rfl rfl ?_
        refine wp2b rfl rfl (fun c94 => ?_) (fun c94 => ?_)
        · refine wp0 rfl rfl ?_
          refine wp2 rfl rfl ?_
          refine wp1 rfl rfl ?_
          refine wpV (lv' := [(0, .ref 24), (1, .int l1), (2, .int l2), (5, .int l5), (6, .long l6), (8, .long l8), (10, .int l10), (11, .int l11), (12, .int 1)]) rfl ?_
          refine wp1 rfl rfl ?_
          refine wp2b rfl rfl (fun c95 => ?_) (fun c95 => ?_)
          · refine wp1 rfl rfl ?_
            refine wp0 rfl rfl ?_
            refine wp0 rfl rfl ?_
            refine wpTl (fun z96 ez96 => ?_)
            refine wp1 rfl rfl ?_
            refine wpV (lv' := [(0, .ref 24), (1, .int l1), (2, .int l2), (5, .int l5), (6, .long l6), (8, .long l8), (10, .int l10), (11, .int l11), (12, .int 1), (13, .long z96)]) rfl ?_
            refine wp1 rfl rfl ?_
            refine wp1 rfl rfl ?_
            refine wp0 rfl rfl ?_
            refine wp0 rfl rfl ?_
            refine wp2b rfl rfl (fun c97 => ?_) (fun c97 => ?_)
            · refine wp0 rfl rfl ?_
              refine wp2 rfl rfl ?_
              refine wp3 rfl (am_putf rfl (Nat.le_of_ble_eq_true rfl) (b01_nar b1) (b01_fit b1)) ?_
              have hJ98 := K_carry hJ b1
              refine wpH (h' := HH s (MC (t_carry m 1)) D) rfl ?_
              refine wp1 rfl rfl ?_
              refine wp2b rfl rfl (fun c99 => ?_) (fun c99 => ?_)
              · refine wp1 rfl rfl ?_
                refine wp0 rfl rfl ?_
                refine wp0 rfl rfl ?_
                refine wp1 rfl rfl ?_
                refine wp0 rfl rfl ?_
                refine wp2b rfl rfl (fun c100 => ?_) (fun c100 => ?_)
                · refine wp1 rfl rfl ?_
                  refine wp2 rfl rfl ?_
                  refine wp1 rfl rfl ?_
                  refine wp0 rfl rfl ?_
                  refine wp0 rfl rfl ?_
                  refine wpTl (fun z101 ez101 => ?_)
                  refine wp1 rfl rfl ?_
                  refine wpV (lv' := [(0, .ref 24), (1, .int l1), (2, .int l2), (5, .int l5), (6, .long z101), (8, .long l8), (10, .int l10), (11, .int l11)]) rfl ?_
                  refine wp1 rfl rfl ?_
                  refine wpV (lv' := [(0, .ref 24), (1, .int l1), (2, .int l2), (5, .int l5), (6, .long z101), (8, .long l8), (10, .int l10), (11, .int (l11 + 1))]) rfl ?_
                  refine wp2 rfl rfl ?_
                  exact wpL rfl rfl (ih hJ98 hR (l1) (l2) (l5) (z101) (l8) (l10) ((l11 + 1)) (i32_upp c15 hn_l11) (i32_up c15 hm))
                · refine wp1 rfl rfl ?_
                  refine wp0 rfl rfl ?_
                  refine wp2b rfl rfl (fun c102 => ?_) (fun c102 => ?_)
                  · refine wp1 rfl rfl ?_
                    refine wp1 rfl rfl ?_
                    refine wp0 rfl rfl ?_
                    refine wp0 rfl rfl ?_
                    refine wp0 rfl rfl ?_
                    refine wp2 rfl rfl ?_
                    refine wp1 rfl rfl ?_
                    refine wp0 rfl rfl ?_
                    refine wp0 rfl rfl ?_
                    refine wpTl (fun z103 ez103 => ?_)
                    refine wp1 rfl rfl ?_
                    refine wpV (lv' := [(0, .ref 24), (1, .int l1), (2, .int l2), (5, .int l5), (6, .long z103), (8, .long l8), (10, .int l10), (11, .int l11)]) rfl ?_
                    refine wp1 rfl rfl ?_
                    refine wpV (lv' := [(0, .ref 24), (1, .int l1), (2, .int l2), (5, .int l5), (6, .long z103), (8, .long l8), (10, .int l10), (11, .int (l11 + 1))]) rfl ?_
                    refine wp2 rfl rfl ?_
                    exact wpL rfl rfl (ih hJ98 hR (l1) (l2) (l5) (z103) (l8) (l10) ((l11 + 1)) (i32_upp c15 hn_l11) (i32_up c15 hm))
                  · refine wp0 rfl rfl ?_
                    refine wp1 rfl rfl ?_
                    refine wp0 rfl rfl ?_
                    refine wp0 rfl rfl ?_
                    refine wpTl (fun z104 ez104 => ?_)
                    refine wp1 rfl rfl ?_
                    refine wpV (lv' := [(0, .ref 24), (1, .int l1), (2, .int l2), (5, .int l5), (6, .long z104), (8, .long l8), (10, .int l10), (11, .int l11)]) rfl ?_
                    refine wp1 rfl rfl ?_
                    refine wpV (lv' := [(0, .ref 24), (1, .int l1), (2, .int l2), (5, .int l5), (6, .long z104), (8, .long l8), (10, .int l10), (11, .int (l11 + 1))]) rfl ?_
                    refine wp2 rfl rfl ?_
                    exact wpL rfl rfl (ih hJ98 hR (l1) (l2) (l5) (z104) (l8) (l10) ((l11 + 1)) (i32_upp c15 hn_l11) (i32_up c15 hm))
              · refine wp1 rfl rfl ?_
                refine wp0 rfl rfl ?_
                refine wp0 rfl rfl ?_
                refine wp1 rfl rfl ?_
                refine wp4 rfl rfl (mf_135 hJ98 ((l6 <<< (Int32.toInt64 1 &&& 63))) (l2)) (fun rv h1 hq => ?_)
                obtain ⟨s106, hJ108, D107, rfl, x109, rfl⟩ := hq
                refine wp1 rfl rfl ?_
                refine wp0 rfl rfl ?_
                refine wp2b rfl rfl (fun c110 => ?_) (fun c110 => ?_)
                · refine wp1 rfl rfl ?_
                  refine wp2 rfl rfl ?_
                  refine wp0 rfl rfl ?_
                  refine wpTl (fun z111 ez111 => ?_)
                  refine wp1 rfl rfl ?_
                  refine wpV (lv' := [(0, .ref 24), (1, .int l1), (2, .int l2), (5, .int l5), (6, .long z111), (8, .long l8), (10, .int l10), (11, .int l11)]) rfl ?_
                  refine wp2 rfl rfl ?_
                  refine wp1 rfl rfl ?_
                  refine wpV (lv' := [(0, .ref 24), (1, .int l1), (2, .int l2), (5, .int l5), (6, .long z111), (8, .long l8), (10, .int l10), (11, .int (l11 + 1))]) rfl ?_
                  refine wp2 rfl rfl ?_
                  exact wpL rfl rfl (ih hJ108 (RLt hR D107) (l1) (l2) (l5) (z111) (l8) (l10) ((l11 + 1)) (i32_upp c15 hn_l11) (i32_up c15 hm))
                · refine wp0 rfl rfl ?_
                  refine wp0 rfl rfl ?_
                  refine wpTl (fun z112 ez112 => ?_)
                  refine wp1 rfl rfl ?_
                  refine wpV (lv' := [(0, .ref 24), (1, .int l1), (2, .int l2), (5, .int l5), (6, .long z112), (8, .long l8), (10, .int l10), (11, .int l11)]) rfl ?_
                  refine wp2 rfl rfl ?_
                  refine wp1 rfl rfl ?_
                  refine wpV (lv' := [(0, .ref 24), (1, .int l1), (2, .int l2), (5, .int l5), (6, .long z112), (8, .long l8), (10, .int l10), (11, .int (l11 + 1))]) rfl ?_
                  refine wp2 rfl rfl ?_
                  exact wpL rfl rfl (ih hJ108 (RLt hR D107) (l1) (l2) (l5) (z112) (l8) (l10) ((l11 + 1)) (i32_upp c15 hn_l11) (i32_up c15 hm))
            · refine wp0 rfl rfl ?_
              refine wp3 rfl (am_putf rfl (Nat.le_of_ble_eq_true rfl) (b01_nar b0) (b01_fit b0)) ?_
              have hJ113 := K_carry hJ b0
              refine wpH (h' := HH s (MC (t_carry m 0)) D) rfl ?_
              refine wp1 rfl rfl ?_
              refine wp2b rfl rfl (fun c114 => ?_) (fun c114 => ?_)
              · refine wp1 rfl rfl ?_
                refine wp0 rfl rfl ?_
                refine wp0 rfl rfl ?_
                refine wp1 rfl rfl ?_
                refine wp0 rfl rfl ?_
                refine wp2b rfl rfl (fun c115 => ?_) (fun c115 => ?_)
                · refine wp1 rfl rfl ?_
                  refine wp2 rfl rfl ?_
                  refine wp1 rfl rfl ?_
                  refine wp0 rfl rfl ?_
                  refine wp0 rfl rfl ?_
                  refine wpTl (fun z116 ez116 => ?_)
                  refine wp1 rfl rfl ?_
                  refine wpV (lv' := [(0, .ref 24), (1, .int l1), (2, .int l2), (5, .int l5), (6, .long z116), (8, .long l8), (10, .int l10), (11, .int l11)]) rfl ?_
                  refine wp1 rfl rfl ?_
                  refine wpV (lv' := [(0, .ref 24), (1, .int l1), (2, .int l2), (5, .int l5), (6, .long z116), (8, .long l8), (10, .int l10), (11, .int (l11 + 1))]) rfl ?_
                  refine wp2 rfl rfl ?_
                  exact wpL rfl rfl (ih hJ113 hR (l1) (l2) (l5) (z116) (l8) (l10) ((l11 + 1)) (i32_upp c15 hn_l11) (i32_up c15 hm))
                · refine wp1 rfl rfl ?_
                  refine wp0 rfl rfl ?_
                  refine wp2b rfl rfl (fun c117 => ?_) (fun c117 => ?_)
                  · refine wp1 rfl rfl ?_
                    refine wp1 rfl rfl ?_
                    refine wp0 rfl rfl ?_
                    refine wp0 rfl rfl ?_
                    refine wp0 rfl rfl ?_
                    refine wp2 rfl rfl ?_
                    refine wp1 rfl rfl ?_
                    refine wp0 rfl rfl ?_
                    refine wp0 rfl rfl ?_
                    refine wpTl (fun z118 ez118 => ?_)
                    refine wp1 rfl rfl ?_
                    refine wpV (lv' := [(0, .ref 24), (1, .int l1), (2, .int l2), (5, .int l5), (6, .long z118), (8, .long l8), (10, .int l10), (11, .int l11)]) rfl ?_
                    refine wp1 rfl rfl ?_
                    refine wpV (lv' := [(0, .ref 24), (1, .int l1), (2, .int l2), (5, .int l5), (6, .long z118), (8, .long l8), (10, .int l10), (11, .int (l11 + 1))]) rfl ?_
                    refine wp2 rfl rfl ?_
                    exact wpL rfl rfl (ih hJ113 hR (l1) (l2) (l5) (z118) (l8) (l10) ((l11 + 1)) (i32_upp c15 hn_l11) (i32_up c15 hm))
                  · refine wp0 rfl rfl ?_
                    refine wp1 rfl rfl ?_
                    refine wp0 rfl rfl ?_
                    refine wp0 rfl rfl ?_
                    refine wpTl (fun z119 ez119 => ?_)
                    refine wp1 rfl rfl ?_
                    refine wpV (lv' := [(0, .ref 24), (1, .int l1), (2, .int l2), (5, .int l5), (6, .long z119), (8, .long l8), (10, .int l10), (11, .int l11)]) rfl ?_
                    refine wp1 rfl rfl ?_
                    refine wpV (lv' := [(0, .ref 24), (1, .int l1), (2, .int l2), (5, .int l5), (6, .long z119), (8, .long l8), (10, .int l10), (11, .int (l11 + 1))]) rfl ?_
                    refine wp2 rfl rfl ?_
                    exact wpL rfl rfl (ih hJ113 hR (l1) (l2) (l5) (z119) (l8) (l10) ((l11 + 1)) (i32_upp c15 hn_l11) (i32_up c15 hm))
              · refine wp1 rfl rfl ?_
                refine wp0 rfl rfl ?_
                refine wp0 rfl rfl ?_
                refine wp1 rfl rfl ?_
                refine wp4 rfl rfl (mf_135 hJ113 ((l6 <<< (Int32.toInt64 1 &&& 63))) (l2)) (fun rv h1 hq => ?_)
                obtain ⟨s121, hJ123, D122, rfl, x124, rfl⟩ := hq
                refine wp1 rfl rfl ?_
                refine wp0 rfl rfl ?_
                refine wp2b rfl rfl (fun c125 => ?_) (fun c125 => ?_)
                · refine wp1 rfl rfl ?_
                  refine wp2 rfl rfl ?_
                  refine wp0 rfl rfl ?_
                  refine wpTl (fun z126 ez126 => ?_)
                  refine wp1 rfl rfl ?_
                  refine wpV (lv' := [(0, .ref 24), (1, .int l1), (2, .int l2), (5, .int l5), (6, .long z126), (8, .long l8), (10, .int l10), (11, .int l11)]) rfl ?_
                  refine wp2 rfl rfl ?_
                  refine wp1 rfl rfl ?_
                  refine wpV (lv' := [(0, .ref 24), (1, .int l1), (2, .int l2), (5, .int l5), (6, .long z126), (8, .long l8), (10, .int l10), (11, .int (l11 + 1))]) rfl ?_
                  refine wp2 rfl rfl ?_
                  exact wpL rfl rfl (ih hJ123 (RLt hR D122) (l1) (l2) (l5) (z126) (l8) (l10) ((l11 + 1)) (i32_upp c15 hn_l11) (i32_up c15 hm))
                · refine wp0 rfl rfl ?_
                  refine wp0 rfl rfl ?_
                  refine wpTl (fun z127 ez127 => ?_)
                  refine wp1 rfl rfl ?_
                  refine wpV (lv' := [(0, .ref 24), (1, .int l1), (2, .int l2), (5, .int l5), (6, .long z127), (8, .long l8), (10, .int l10), (11, .int l11)]) rfl ?_
                  refine wp2 rfl rfl ?_
                  refine wp1 rfl rfl ?_
                  refine wpV (lv' := [(0, .ref 24), (1, .int l1), (2, .int l2), (5, .int l5), (6, .long z127), (8, .long l8), (10, .int l10), (11, .int (l11 + 1))]) rfl ?_
                  refine wp2 rfl rfl ?_
                  exact wpL rfl rfl (ih hJ123 (RLt hR D122) (l1) (l2) (l5) (z127) (l8) (l10) ((l11 + 1)) (i32_upp c15 hn_l11) (i32_up c15 hm))
          · refine wp1 rfl rfl ?_
            refine wp1 rfl rfl ?_
            refine wp0 rfl rfl ?_
            refine wp0 rfl rfl ?_
            refine wp0 rfl rfl ?_
            refine wp2 rfl rfl ?_
            refine wpTl (fun z128 ez128 => ?_)
            refine wp1 rfl rfl ?_
            refine wpV (lv' := [(0, .ref 24), (1, .int l1), (2, .int l2), (5, .int l5), (6, .long l6), (8, .long l8), (10, .int l10), (11, .int l11), (12, .int 1), (13, .long z128)]) rfl ?_
            refine wp1 rfl rfl ?_
            refine wp1 rfl rfl ?_
            refine wp0 rfl rfl ?_
            refine wp0 rfl rfl ?_
            refine wp2b rfl rfl (fun c129 => ?_) (fun c129 => ?_)
            · refine wp0 rfl rfl ?_
              refine wp2 rfl rfl ?_
              refine wp3 rfl (am_putf rfl (Nat.le_of_ble_eq_true rfl) (b01_nar b1) (b01_fit b1)) ?_
              have hJ130 := K_carry hJ b1
              refine wpH (h' := HH s (MC (t_carry m 1)) D) rfl ?_
              refine wp1 rfl rfl ?_
              refine wp2b rfl rfl (fun c131 => ?_) (fun c131 => ?_)
              · refine wp1 rfl rfl ?_
                refine wp0 rfl rfl ?_
                refine wp0 rfl rfl ?_
                refine wp1 rfl rfl ?_
                refine wp0 rfl rfl ?_
                refine wp2b rfl rfl (fun c132 => ?_) (fun c132 => ?_)
                · refine wp1 rfl rfl ?_
                  refine wp2 rfl rfl ?_
                  refine wp1 rfl rfl ?_
                  refine wp0 rfl rfl ?_
                  refine wp0 rfl rfl ?_
                  refine wpTl (fun z133 ez133 => ?_)
                  refine wp1 rfl rfl ?_
                  refine wpV (lv' := [(0, .ref 24), (1, .int l1), (2, .int l2), (5, .int l5), (6, .long z133), (8, .long l8), (10, .int l10), (11, .int l11)]) rfl ?_
                  refine wp1 rfl rfl ?_
                  refine wpV (lv' := [(0, .ref 24), (1, .int l1), (2, .int l2), (5, .int l5), (6, .long z133), (8, .long l8), (10, .int l10), (11, .int (l11 + 1))]) rfl ?_
                  refine wp2 rfl rfl ?_
                  exact wpL rfl rfl (ih hJ130 hR (l1) (l2) (l5) (z133) (l8) (l10) ((l11 + 1)) (i32_upp c15 hn_l11) (i32_up c15 hm))
                · refine wp1 rfl rfl ?_
                  refine wp0 rfl rfl ?_
                  refine wp2b rfl rfl (fun c134 => ?_) (fun c134 => ?_)
                  · refine wp1 rfl rfl ?_
                    refine wp1 rfl rfl ?_
                    refine wp0 rfl rfl ?_
                    refine wp0 rfl rfl ?_
                    refine wp0 rfl rfl ?_
                    refine wp2 rfl rfl ?_
                    refine wp1 rfl rfl ?_
                    refine wp0 rfl rfl ?_
                    refine wp0 rfl rfl ?_
                    refine wpTl (fun z135 ez135 => ?_)
                    refine wp1 rfl rfl ?_
                    refine wpV (lv' := [(0, .ref 24), (1, .int l1), (2, .int l2), (5, .int l5), (6, .long z135), (8, .long l8), (10, .int l10), (11, .int l11)]) rfl ?_
                    refine wp1 rfl rfl ?_
                    refine wpV (lv' := [(0, .ref 24), (1, .int l1), (2, .int l2), (5, .int l5), (6, .long z135), (8, .long l8), (10, .int l10), (11, .int (l11 + 1))]) rfl ?_
                    refine wp2 rfl rfl ?_
                    exact wpL rfl rfl (ih hJ130 hR (l1) (l2) (l5) (z135) (l8) (l10) ((l11 + 1)) (i32_upp c15 hn_l11) (i32_up c15 hm))
                  · refine wp0 rfl rfl ?_
                    refine wp1 rfl rfl ?_
                    refine wp0 rfl rfl ?_
                    refine wp0 rfl rfl ?_
                    refine wpTl (fun z136 ez136 => ?_)
                    refine wp1 rfl rfl ?_
                    refine wpV (lv' := [(0, .ref 24), (1, .int l1), (2, .int l2), (5, .int l5), (6, .long z136), (8, .long l8), (10, .int l10), (11, .int l11)]) rfl ?_
                    refine wp1 rfl rfl ?_
                    refine wpV (lv' := [(0, .ref 24), (1, .int l1), (2, .int l2), (5, .int l5), (6, .long z136), (8, .long l8), (10, .int l10), (11, .int (l11 + 1))]) rfl ?_
                    refine wp2 rfl rfl ?_
                    exact wpL rfl rfl (ih hJ130 hR (l1) (l2) (l5) (z136) (l8) (l10) ((l11 + 1)) (i32_upp c15 hn_l11) (i32_up c15 hm))
              · refine wp1 rfl rfl ?_
                refine wp0 rfl rfl ?_
                refine wp0 rfl rfl ?_
                refine wp1 rfl rfl ?_
                refine wp4 rfl rfl (mf_135 hJ130 ((l6 <<< (Int32.toInt64 1 &&& 63))) (l2)) (fun rv h1 hq => ?_)
                obtain ⟨s138, hJ140, D139, rfl, x141, rfl⟩ := hq
                refine wp1 rfl rfl ?_
                refine wp0 rfl rfl ?_
                refine wp2b rfl rfl (fun c142 => ?_) (fun c142 => ?_)
                · refine wp1 rfl rfl ?_
                  refine wp2 rfl rfl ?_
                  refine wp0 rfl rfl ?_
                  refine wpTl (fun z143 ez143 => ?_)
                  refine wp1 rfl rfl ?_
                  refine wpV (lv' := [(0, .ref 24), (1, .int l1), (2, .int l2), (5, .int l5), (6, .long z143), (8, .long l8), (10, .int l10), (11, .int l11)]) rfl ?_
                  refine wp2 rfl rfl ?_
                  refine wp1 rfl rfl ?_
                  refine wpV (lv' := [(0, .ref 24), (1, .int l1), (2, .int l2), (5, .int l5), (6, .long z143), (8, .long l8), (10, .int l10), (11, .int (l11 + 1))]) rfl ?_
                  refine wp2 rfl rfl ?_
                  exact wpL rfl rfl (ih hJ140 (RLt hR D139) (l1) (l2) (l5) (z143) (l8) (l10) ((l11 + 1)) (i32_upp c15 hn_l11) (i32_up c15 hm))
                · refine wp0 rfl rfl ?_
                  refine wp0 rfl rfl ?_
                  refine wpTl (fun z144 ez144 => ?_)
                  refine wp1 rfl rfl ?_
                  refine wpV (lv' := [(0, .ref 24), (1, .int l1), (2, .int l2), (5, .int l5), (6, .long z144), (8, .long l8), (10, .int l10), (11, .int l11)]) rfl ?_
                  refine wp2 rfl rfl ?_
                  refine wp1 rfl rfl ?_
                  refine wpV (lv' := [(0, .ref 24), (1, .int l1), (2, .int l2), (5, .int l5), (6, .long z144), (8, .long l8), (10, .int l10), (11, .int (l11 + 1))]) rfl ?_
                  refine wp2 rfl rfl ?_
                  exact wpL rfl rfl (ih hJ140 (RLt hR D139) (l1) (l2) (l5) (z144) (l8) (l10) ((l11 + 1)) (i32_upp c15 hn_l11) (i32_up c15 hm))
            · refine wp0 rfl rfl ?_
              refine wp3 rfl (am_putf rfl (Nat.le_of_ble_eq_true rfl) (b01_nar b0) (b01_fit b0)) ?_
              have hJ145 := K_carry hJ b0
              refine wpH (h' := HH s (MC (t_carry m 0)) D) rfl ?_
              refine wp1 rfl rfl ?_
              refine wp2b rfl rfl (fun c146 => ?_) (fun c146 => ?_)
              · refine wp1 rfl rfl ?_
                refine wp0 rfl rfl ?_
                refine wp0 rfl rfl ?_
                refine wp1 rfl rfl ?_
                refine wp0 rfl rfl ?_
                refine wp2b rfl rfl (fun c147 => ?_) (fun c147 => ?_)
                · refine wp1 rfl rfl ?_
                  refine wp2 rfl rfl ?_
                  refine wp1 rfl rfl ?_
                  refine wp0 rfl rfl ?_
                  refine wp0 rfl rfl ?_
                  refine wpTl (fun z148 ez148 => ?_)
                  refine wp1 rfl rfl ?_
                  refine wpV (lv' := [(0, .ref 24), (1, .int l1), (2, .int l2), (5, .int l5), (6, .long z148), (8, .long l8), (10, .int l10), (11, .int l11)]) rfl ?_
                  refine wp1 rfl rfl ?_
                  refine wpV (lv' := [(0, .ref 24), (1, .int l1), (2, .int l2), (5, .int l5), (6, .long z148), (8, .long l8), (10, .int l10), (11, .int (l11 + 1))]) rfl ?_
                  refine wp2 rfl rfl ?_
                  exact wpL rfl rfl (ih hJ145 hR (l1) (l2) (l5) (z148) (l8) (l10) ((l11 + 1)) (i32_upp c15 hn_l11) (i32_up c15 hm))
                · refine wp1 rfl rfl ?_
                  refine wp0 rfl rfl ?_
                  refine wp2b rfl rfl (fun c149 => ?_) (fun c149 => ?_)
                  · refine wp1 rfl rfl ?_
                    refine wp1 rfl rfl ?_
                    refine wp0 rfl rfl ?_
                    refine wp0 rfl rfl ?_
                    refine wp0 rfl rfl ?_
                    refine wp2 rfl rfl ?_
                    refine wp1 rfl rfl ?_
                    refine wp0 rfl rfl ?_
                    refine wp0 rfl rfl ?_
                    refine wpTl (fun z150 ez150 => ?_)
                    refine wp1 rfl rfl ?_
                    refine wpV (lv' := [(0, .ref 24), (1, .int l1), (2, .int l2), (5, .int l5), (6, .long z150), (8, .long l8), (10, .int l10), (11, .int l11)]) rfl ?_
                    refine wp1 rfl rfl ?_
                    refine wpV (lv' := [(0, .ref 24), (1, .int l1), (2, .int l2), (5, .int l5), (6, .long z150), (8, .long l8), (10, .int l10), (11, .int (l11 + 1))]) rfl ?_
                    refine wp2 rfl rfl ?_
                    exact wpL rfl rfl (ih hJ145 hR (l1) (l2) (l5) (z150) (l8) (l10) ((l11 + 1)) (i32_upp c15 hn_l11) (i32_up c15 hm))
                  · refine wp0 rfl rfl ?_
                    refine wp1 rfl rfl ?_
                    refine wp0 rfl rfl ?_
                    refine wp0 rfl rfl ?_
                    refine wpTl (fun z151 ez151 => ?_)
                    refine wp1 rfl rfl ?_
                    refine wpV (lv' := [(0, .ref 24), (1, .int l1), (2, .int l2), (5, .int l5), (6, .long z151), (8, .long l8), (10, .int l10), (11, .int l11)]) rfl ?_
                    refine wp1 rfl rfl ?_
                    refine wpV (lv' := [(0, .ref 24), (1, .int l1), (2, .int l2), (5, .int l5), (6, .long z151), (8, .long l8), (10, .int l10), (11, .int (l11 + 1))]) rfl ?_
                    refine wp2 rfl rfl ?_
                    exact wpL rfl rfl (ih hJ145 hR (l1) (l2) (l5) (z151) (l8) (l10) ((l11 + 1)) (i32_upp c15 hn_l11) (i32_up c15 hm))
              · refine wp1 rfl rfl ?_
                refine wp0 rfl rfl ?_
                refine wp0 rfl rfl ?_
                refine wp1 rfl rfl ?_
                refine wp4 rfl rfl (mf_135 hJ145 ((l6 <<< (Int32.toInt64 1 &&& 63))) (l2)) (fun rv h1 hq => ?_)
                obtain ⟨s153, hJ155, D154, rfl, x156, rfl⟩ := hq
                refine wp1 rfl rfl ?_
                refine wp0 rfl rfl ?_
                refine wp2b rfl rfl (fun c157 => ?_) (fun c157 => ?_)
                · refine wp1 rfl rfl ?_
                  refine wp2 rfl rfl ?_
                  refine wp0 rfl rfl ?_
                  refine wpTl (fun z158 ez158 => ?_)
                  refine wp1 rfl rfl ?_
                  refine wpV (lv' := [(0, .ref 24), (1, .int l1), (2, .int l2), (5, .int l5), (6, .long z158), (8, .long l8), (10, .int l10), (11, .int l11)]) rfl ?_
                  refine wp2 rfl rfl ?_
                  refine wp1 rfl rfl ?_
                  refine wpV (lv' := [(0, .ref 24), (1, .int l1), (2, .int l2), (5, .int l5), (6, .long z158), (8, .long l8), (10, .int l10), (11, .int (l11 + 1))]) rfl ?_
                  refine wp2 rfl rfl ?_
                  exact wpL rfl rfl (ih hJ155 (RLt hR D154) (l1) (l2) (l5) (z158) (l8) (l10) ((l11 + 1)) (i32_upp c15 hn_l11) (i32_up c15 hm))
                · refine wp0 rfl rfl ?_
                  refine wp0 rfl rfl ?_
                  refine wpTl (fun z159 ez159 => ?_)
                  refine wp1 rfl rfl ?_
                  refine wpV (lv' := [(0, .ref 24), (1, .int l1), (2, .int l2), (5, .int l5), (6, .long z159), (8, .long l8), (10, .int l10), (11, .int l11)]) rfl ?_
                  refine wp2 rfl rfl ?_
                  refine wp1 rfl rfl ?_
                  refine wpV (lv' := [(0, .ref 24), (1, .int l1), (2, .int l2), (5, .int l5), (6, .long z159), (8, .long l8), (10, .int l10), (11, .int (l11 + 1))]) rfl ?_
                  refine wp2 rfl rfl ?_
                  exact wpL rfl rfl (ih hJ155 (RLt hR D154) (l1) (l2) (l5) (z159) (l8) (l10) ((l11 + 1)) (i32_upp c15 hn_l11) (i32_up c15 hm))
        · refine wp0 rfl rfl ?_
          refine wp1 rfl rfl ?_
          refine wpV (lv' := [(0, .ref 24), (1, .int l1), (2, .int l2), (5, .int l5), (6, .long l6), (8, .long l8), (10, .int l10), (11, .int l11), (12, .int 0)]) rfl ?_
          refine wp1 rfl rfl ?_
          refine wp2b rfl rfl (fun c160 => ?_) (fun c160 => ?_)
          · refine wp1 rfl rfl ?_
            refine wp0 rfl rfl ?_
            refine wp0 rfl rfl ?_
            refine wpTl (fun z161 ez161 => ?_)
            refine wp1 rfl rfl ?_
            refine wpV (lv' := [(0, .ref 24), (1, .int l1), (2, .int l2), (5, .int l5), (6, .long l6), (8, .long l8), (10, .int l10), (11, .int l11), (12, .int 0), (13, .long z161)]) rfl ?_
            refine wp1 rfl rfl ?_
            refine wp1 rfl rfl ?_
            refine wp0 rfl rfl ?_
            refine wp0 rfl rfl ?_
            refine wp2b rfl rfl (fun c162 => ?_) (fun c162 => ?_)
            · refine wp0 rfl rfl ?_
              refine wp2 rfl rfl ?_
              refine wp3 rfl (am_putf rfl (Nat.le_of_ble_eq_true rfl) (b01_nar b1) (b01_fit b1)) ?_
              have hJ163 := K_carry hJ b1
              refine wpH (h' := HH s (MC (t_carry m 1)) D) rfl ?_
              refine wp1 rfl rfl ?_
              refine wp2b rfl rfl (fun c164 => ?_) (fun c164 => ?_)
              · refine wp1 rfl rfl ?_
                refine wp0 rfl rfl ?_
                refine wp0 rfl rfl ?_
                refine wp1 rfl rfl ?_
                refine wp0 rfl rfl ?_
                refine wp2b rfl rfl (fun c165 => ?_) (fun c165 => ?_)
                · refine wp1 rfl rfl ?_
                  refine wp2 rfl rfl ?_
                  refine wp1 rfl rfl ?_
                  refine wp0 rfl rfl ?_
                  refine wp0 rfl rfl ?_
                  refine wpTl (fun z166 ez166 => ?_)
                  refine wp1 rfl rfl ?_
                  refine wpV (lv' := [(0, .ref 24), (1, .int l1), (2, .int l2), (5, .int l5), (6, .long z166), (8, .long l8), (10, .int l10), (11, .int l11)]) rfl ?_
                  refine wp1 rfl rfl ?_
                  refine wpV (lv' := [(0, .ref 24), (1, .int l1), (2, .int l2), (5, .int l5), (6, .long z166), (8, .long l8), (10, .int l10), (11, .int (l11 + 1))]) rfl ?_
                  refine wp2 rfl rfl ?_
                  exact wpL rfl rfl (ih hJ163 hR (l1) (l2) (l5) (z166) (l8) (l10) ((l11 + 1)) (i32_upp c15 hn_l11) (i32_up c15 hm))
                · refine wp1 rfl rfl ?_
                  refine wp0 rfl rfl ?_
                  refine wp2b rfl rfl (fun c167 => ?_) (fun c167 => ?_)
                  · refine wp1 rfl rfl ?_
                    refine wp1 rfl rfl ?_
                    refine wp0 rfl rfl ?_
                    refine wp0 rfl rfl ?_
                    refine wp0 rfl rfl ?_
                    refine wp2 rfl rfl ?_
                    refine wp1 rfl rfl ?_
                    refine wp0 rfl rfl ?_
                    refine wp0 rfl rfl ?_
                    refine wpTl (fun z168 ez168 => ?_)
                    refine wp1 rfl rfl ?_
                    refine wpV (lv' := [(0, .ref 24), (1, .int l1), (2, .int l2), (5, .int l5), (6, .long z168), (8, .long l8), (10, .int l10), (11, .int l11)]) rfl ?_
                    refine wp1 rfl rfl ?_
                    refine wpV (lv' := [(0, .ref 24), (1, .int l1), (2, .int l2), (5, .int l5), (6, .long z168), (8, .long l8), (10, .int l10), (11, .int (l11 + 1))]) rfl ?_
                    refine wp2 rfl rfl ?_
                    exact wpL rfl rfl (ih hJ163 hR (l1) (l2) (l5) (z168) (l8) (l10) ((l11 + 1)) (i32_upp c15 hn_l11) (i32_up c15 hm))
                  · refine wp0 rfl rfl ?_
                    refine wp1 rfl rfl ?_
                    refine wp0 rfl rfl ?_
                    refine wp0 rfl rfl ?_
                    refine wpTl (fun z169 ez169 => ?_)
                    refine wp1 rfl rfl ?_
                    refine wpV (lv' := [(0, .ref 24), (1, .int l1), (2, .int l2), (5, .int l5), (6, .long z169), (8, .long l8), (10, .int l10), (11, .int l11)]) rfl ?_
                    refine wp1 rfl rfl ?_
                    refine wpV (lv' := [(0, .ref 24), (1, .int l1), (2, .int l2), (5, .int l5), (6, .long z169), (8, .long l8), (10, .int l10), (11, .int (l11 + 1))]) rfl ?_
                    refine wp2 rfl rfl ?_
                    exact wpL rfl rfl (ih hJ163 hR (l1) (l2) (l5) (z169) (l8) (l10) ((l11 + 1)) (i32_upp c15 hn_l11) (i32_up c15 hm))
              · refine wp1 rfl rfl ?_
                refine wp0 rfl rfl ?_
                refine wp0 rfl rfl ?_
                refine wp1 rfl rfl ?_
                refine wp4 rfl rfl (mf_135 hJ163 ((l6 <<< (Int32.toInt64 1 &&& 63))) (l2)) (fun rv h1 hq => ?_)
                obtain ⟨s171, hJ173, D172, rfl, x174, rfl⟩ := hq
                refine wp1 rfl rfl ?_
                refine wp0 rfl rfl ?_
                refine wp2b rfl rfl (fun c175 => ?_) (fun c175 => ?_)
                · refine wp1 rfl rfl ?_
                  refine wp2 rfl rfl ?_
                  refine wp0 rfl rfl ?_
                  refine wpTl (fun z176 ez176 => ?_)
                  refine wp1 rfl rfl ?_
                  refine wpV (lv' := [(0, .ref 24), (1, .int l1), (2, .int l2), (5, .int l5), (6, .long z176), (8, .long l8), (10, .int l10), (11, .int l11)]) rfl ?_
                  refine wp2 rfl rfl ?_
                  refine wp1 rfl rfl ?_
                  refine wpV (lv' := [(0, .ref 24), (1, .int l1), (2, .int l2), (5, .int l5), (6, .long z176), (8, .long l8), (10, .int l10), (11, .int (l11 + 1))]) rfl ?_
                  refine wp2 rfl rfl ?_
                  exact wpL rfl rfl (ih hJ173 (RLt hR D172) (l1) (l2) (l5) (z176) (l8) (l10) ((l11 + 1)) (i32_upp c15 hn_l11) (i32_up c15 hm))
                · refine wp0 rfl rfl ?_
                  refine wp0 rfl rfl ?_
                  refine wpTl (fun z177 ez177 => ?_)
                  refine wp1 rfl rfl ?_
                  refine wpV (lv' := [(0, .ref 24), (1, .int l1), (2, .int l2), (5, .int l5), (6, .long z177), (8, .long l8), (10, .int l10), (11, .int l11)]) rfl ?_
                  refine wp2 rfl rfl ?_
                  refine wp1 rfl rfl ?_
                  refine wpV (lv' := [(0, .ref 24), (1, .int l1), (2, .int l2), (5, .int l5), (6, .long z177), (8, .long l8), (10, .int l10), (11, .int (l11 + 1))]) rfl ?_
                  refine wp2 rfl rfl ?_
                  exact wpL rfl rfl (ih hJ173 (RLt hR D172) (l1) (l2) (l5) (z177) (l8) (l10) ((l11 + 1)) (i32_upp c15 hn_l11) (i32_up c15 hm))
            · refine wp0 rfl rfl ?_
              refine wp3 rfl (am_putf rfl (Nat.le_of_ble_eq_true rfl) (b01_nar b0) (b01_fit b0)) ?_
              have hJ178 := K_carry hJ b0
              refine wpH (h' := HH s (MC (t_carry m 0)) D) rfl ?_
              refine wp1 rfl rfl ?_
              refine wp2b rfl rfl (fun c179 => ?_) (fun c179 => ?_)
              · refine wp1 rfl rfl ?_
                refine wp0 rfl rfl ?_
                refine wp0 rfl rfl ?_
                refine wp1 rfl rfl ?_
                refine wp0 rfl rfl ?_
                refine wp2b rfl rfl (fun c180 => ?_) (fun c180 => ?_)
                · refine wp1 rfl rfl ?_
                  refine wp2 rfl rfl ?_
                  refine wp1 rfl rfl ?_
                  refine wp0 rfl rfl ?_
                  refine wp0 rfl rfl ?_
                  refine wpTl (fun z181 ez181 => ?_)
                  refine wp1 rfl rfl ?_
                  refine wpV (lv' := [(0, .ref 24), (1, .int l1), (2, .int l2), (5, .int l5), (6, .long z181), (8, .long l8), (10, .int l10), (11, .int l11)]) rfl ?_
                  refine wp1 rfl rfl ?_
                  refine wpV (lv' := [(0, .ref 24), (1, .int l1), (2, .int l2), (5, .int l5), (6, .long z181), (8, .long l8), (10, .int l10), (11, .int (l11 + 1))]) rfl ?_
                  refine wp2 rfl rfl ?_
                  exact wpL rfl rfl (ih hJ178 hR (l1) (l2) (l5) (z181) (l8) (l10) ((l11 + 1)) (i32_upp c15 hn_l11) (i32_up c15 hm))
                · refine wp1 rfl rfl ?_
                  refine wp0 rfl rfl ?_
                  refine wp2b rfl rfl (fun c182 => ?_) (fun c182 => ?_)
                  · refine wp1 rfl rfl ?_
                    refine wp1 rfl rfl ?_
                    refine wp0 rfl rfl ?_
                    refine wp0 rfl rfl ?_
                    refine wp0 rfl rfl ?_
                    refine wp2 rfl rfl ?_
                    refine wp1 rfl rfl ?_
                    refine wp0 rfl rfl ?_
                    refine wp0 rfl rfl ?_
                    refine wpTl (fun z183 ez183 => ?_)
                    refine wp1 rfl rfl ?_
                    refine wpV (lv' := [(0, .ref 24), (1, .int l1), (2, .int l2), (5, .int l5), (6, .long z183), (8, .long l8), (10, .int l10), (11, .int l11)]) rfl ?_
                    refine wp1 rfl rfl ?_
                    refine wpV (lv' := [(0, .ref 24), (1, .int l1), (2, .int l2), (5, .int l5), (6, .long z183), (8, .long l8), (10, .int l10), (11, .int (l11 + 1))]) rfl ?_
                    refine wp2 rfl rfl ?_
                    exact wpL rfl rfl (ih hJ178 hR (l1) (l2) (l5) (z183) (l8) (l10) ((l11 + 1)) (i32_upp c15 hn_l11) (i32_up c15 hm))
                  · refine wp0 rfl rfl ?_
                    refine wp1 rfl rfl ?_
                    refine wp0 rfl rfl ?_
                    refine wp0 rfl rfl ?_
                    refine wpTl (fun z184 ez184 => ?_)
                    refine wp1 rfl rfl ?_
                    refine wpV (lv' := [(0, .ref 24), (1, .int l1), (2, .int l2), (5, .int l5), (6, .long z184), (8, .long l8), (10, .int l10), (11, .int l11)]) rfl ?_
                    refine wp1 rfl rfl ?_
                    refine wpV (lv' := [(0, .ref 24), (1, .int l1), (2, .int l2), (5, .int l5), (6, .long z184), (8, .long l8), (10, .int l10), (11, .int (l11 + 1))]) rfl ?_
                    refine wp2 rfl rfl ?_
                    exact wpL rfl rfl (ih hJ178 hR (l1) (l2) (l5) (z184) (l8) (l10) ((l11 + 1)) (i32_upp c15 hn_l11) (i32_up c15 hm))
              · refine wp1 rfl rfl ?_
                refine wp0 rfl rfl ?_
                refine wp0 rfl rfl ?_
                refine wp1 rfl rfl ?_
                refine wp4 rfl rfl (mf_135 hJ178 ((l6 <<< (Int32.toInt64 1 &&& 63))) (l2)) (fun rv h1 hq => ?_)
                obtain ⟨s186, hJ188, D187, rfl, x189, rfl⟩ := hq
                refine wp1 rfl rfl ?_
                refine wp0 rfl rfl ?_
                refine wp2b rfl rfl (fun c190 => ?_) (fun c190 => ?_)
                · refine wp1 rfl rfl ?_
                  refine wp2 rfl rfl ?_
                  refine wp0 rfl rfl ?_
                  refine wpTl (fun z191 ez191 => ?_)
                  refine wp1 rfl rfl ?_
                  refine wpV (lv' := [(0, .ref 24), (1, .int l1), (2, .int l2), (5, .int l5), (6, .long z191), (8, .long l8), (10, .int l10), (11, .int l11)]) rfl ?_
                  refine wp2 rfl rfl ?_
                  refine wp1 rfl rfl ?_
                  refine wpV (lv' := [(0, .ref 24), (1, .int l1), (2, .int l2), (5, .int l5), (6, .long z191), (8, .long l8), (10, .int l10), (11, .int (l11 + 1))]) rfl ?_
                  refine wp2 rfl rfl ?_
                  exact wpL rfl rfl (ih hJ188 (RLt hR D187) (l1) (l2) (l5) (z191) (l8) (l10) ((l11 + 1)) (i32_upp c15 hn_l11) (i32_up c15 hm))
                · refine wp0 rfl rfl ?_
                  refine wp0 rfl rfl ?_
                  refine wpTl (fun z192 ez192 => ?_)
                  refine wp1 rfl rfl ?_
                  refine wpV (lv' := [(0, .ref 24), (1, .int l1), (2, .int l2), (5, .int l5), (6, .long z192), (8, .long l8), (10, .int l10), (11, .int l11)]) rfl ?_
                  refine wp2 rfl rfl ?_
                  refine wp1 rfl rfl ?_
                  refine wpV (lv' := [(0, .ref 24), (1, .int l1), (2, .int l2), (5, .int l5), (6, .long z192), (8, .long l8), (10, .int l10), (11, .int (l11 + 1))]) rfl ?_
                  refine wp2 rfl rfl ?_
                  exact wpL rfl rfl (ih hJ188 (RLt hR D187) (l1) (l2) (l5) (z192) (l8) (l10) ((l11 + 1)) (i32_upp c15 hn_l11) (i32_up c15 hm))
          · refine wp1 rfl rfl ?_
            refine wp1 rfl rfl ?_
            refine wp0 rfl rfl ?_
            refine wp0 rfl rfl ?_
            refine wp0 rfl rfl ?_
            refine wp2 rfl rfl ?_
            refine wpTl (fun z193 ez193 => ?_)
            refine wp1 rfl rfl ?_
            refine wpV (lv' := [(0, .ref 24), (1, .int l1), (2, .int l2), (5, .int l5), (6, .long l6), (8, .long l8), (10, .int l10), (11, .int l11), (12, .int 0), (13, .long z193)]) rfl ?_
            refine wp1 rfl rfl ?_
            refine wp1 rfl rfl ?_
            refine wp0 rfl rfl ?_
            refine wp0 rfl rfl ?_
            refine wp2b rfl rfl (fun c194 => ?_) (fun c194 => ?_)
            · refine wp0 rfl rfl ?_
              refine wp2 rfl rfl ?_
              refine wp3 rfl (am_putf rfl (Nat.le_of_ble_eq_true rfl) (b01_nar b1) (b01_fit b1)) ?_
              have hJ195 := K_carry hJ b1
              refine wpH (h' := HH s (MC (t_carry m 1)) D) rfl ?_
              refine wp1 rfl rfl ?_
              refine wp2b rfl rfl (fun c196 => ?_) (fun c196 => ?_)
              · refine wp1 rfl rfl ?_
                refine wp0 rfl rfl ?_
                refine wp0 rfl rfl ?_
                refine wp1 rfl rfl ?_
                refine wp0 rfl rfl ?_
                refine wp2b rfl rfl (fun c197 => ?_) (fun c197 => ?_)
                · refine wp1 rfl rfl ?_
                  refine wp2 rfl rfl ?_
                  refine wp1 rfl rfl ?_
                  refine wp0 rfl rfl ?_
                  refine wp0 rfl rfl ?_
                  refine wpTl (fun z198 ez198 => ?_)
                  refine wp1 rfl rfl ?_
                  refine wpV (lv' := [(0, .ref 24), (1, .int l1), (2, .int l2), (5, .int l5), (6, .long z198), (8, .long l8), (10, .int l10), (11, .int l11)]) rfl ?_
                  refine wp1 rfl rfl ?_
                  refine wpV (lv' := [(0, .ref 24), (1, .int l1), (2, .int l2), (5, .int l5), (6, .long z198), (8, .long l8), (10, .int l10), (11, .int (l11 + 1))]) rfl ?_
                  refine wp2 rfl rfl ?_
                  exact wpL rfl rfl (ih hJ195 hR (l1) (l2) (l5) (z198) (l8) (l10) ((l11 + 1)) (i32_upp c15 hn_l11) (i32_up c15 hm))
                · refine wp1 rfl rfl ?_
                  refine wp0 rfl rfl ?_
                  refine wp2b rfl rfl (fun c199 => ?_) (fun c199 => ?_)
                  · refine wp1 rfl rfl ?_
                    refine wp1 rfl rfl ?_
                    refine wp0 rfl rfl ?_
                    refine wp0 rfl rfl ?_
                    refine wp0 rfl rfl ?_
                    refine wp2 rfl rfl ?_
                    refine wp1 rfl rfl ?_
                    refine wp0 rfl rfl ?_
                    refine wp0 rfl rfl ?_
                    refine wpTl (fun z200 ez200 => ?_)
                    refine wp1 rfl rfl ?_
                    refine wpV (lv' := [(0, .ref 24), (1, .int l1), (2, .int l2), (5, .int l5), (6, .long z200), (8, .long l8), (10, .int l10), (11, .int l11)]) rfl ?_
                    refine wp1 rfl rfl ?_
                    refine wpV (lv' := [(0, .ref 24), (1, .int l1), (2, .int l2), (5, .int l5), (6, .long z200), (8, .long l8), (10, .int l10), (11, .int (l11 + 1))]) rfl ?_
                    refine wp2 rfl rfl ?_
                    exact wpL rfl rfl (ih hJ195 hR (l1) (l2) (l5) (z200) (l8) (l10) ((l11 + 1)) (i32_upp c15 hn_l11) (i32_up c15 hm))
                  · refine wp0 rfl rfl ?_
                    refine wp1 rfl rfl ?_
                    refine wp0 rfl rfl ?_
                    refine wp0 rfl rfl ?_
                    refine wpTl (fun z201 ez201 => ?_)
                    refine wp1 rfl rfl ?_
                    refine wpV (lv' := [(0, .ref 24), (1, .int l1), (2, .int l2), (5, .int l5), (6, .long z201), (8, .long l8), (10, .int l10), (11, .int l11)]) rfl ?_
                    refine wp1 rfl rfl ?_
                    refine wpV (lv' := [(0, .ref 24), (1, .int l1), (2, .int l2), (5, .int l5), (6, .long z201), (8, .long l8), (10, .int l10), (11, .int (l11 + 1))]) rfl ?_
                    refine wp2 rfl rfl ?_
                    exact wpL rfl rfl (ih hJ195 hR (l1) (l2) (l5) (z201) (l8) (l10) ((l11 + 1)) (i32_upp c15 hn_l11) (i32_up c15 hm))
              · refine wp1 rfl rfl ?_
                refine wp0 rfl rfl ?_
                refine wp0 rfl rfl ?_
                refine wp1 rfl rfl ?_
                refine wp4 rfl rfl (mf_135 hJ195 ((l6 <<< (Int32.toInt64 1 &&& 63))) (l2)) (fun rv h1 hq => ?_)
                obtain ⟨s203, hJ205, D204, rfl, x206, rfl⟩ := hq
                refine wp1 rfl rfl ?_
                refine wp0 rfl rfl ?_
                refine wp2b rfl rfl (fun c207 => ?_) (fun c207 => ?_)
                · refine wp1 rfl rfl ?_
                  refine wp2 rfl rfl ?_
                  refine wp0 rfl rfl ?_
                  refine wpTl (fun z208 ez208 => ?_)
                  refine wp1 rfl rfl ?_
                  refine wpV (lv' := [(0, .ref 24), (1, .int l1), (2, .int l2), (5, .int l5), (6, .long z208), (8, .long l8), (10, .int l10), (11, .int l11)]) rfl ?_
                  refine wp2 rfl rfl ?_
                  refine wp1 rfl rfl ?_
                  refine wpV (lv' := [(0, .ref 24), (1, .int l1), (2, .int l2), (5, .int l5), (6, .long z208), (8, .long l8), (10, .int l10), (11, .int (l11 + 1))]) rfl ?_
                  refine wp2 rfl rfl ?_
                  exact wpL rfl rfl (ih hJ205 (RLt hR D204) (l1) (l2) (l5) (z208) (l8) (l10) ((l11 + 1)) (i32_upp c15 hn_l11) (i32_up c15 hm))
                · refine wp0 rfl rfl ?_
                  refine wp0 rfl rfl ?_
                  refine wpTl (fun z209 ez209 => ?_)
                  refine wp1 rfl rfl ?_
                  refine wpV (lv' := [(0, .ref 24), (1, .int l1), (2, .int l2), (5, .int l5), (6, .long z209), (8, .long l8), (10, .int l10), (11, .int l11)]) rfl ?_
                  refine wp2 rfl rfl ?_
                  refine wp1 rfl rfl ?_
                  refine wpV (lv' := [(0, .ref 24), (1, .int l1), (2, .int l2), (5, .int l5), (6, .long z209), (8, .long l8), (10, .int l10), (11, .int (l11 + 1))]) rfl ?_
                  refine wp2 rfl rfl ?_
                  exact wpL rfl rfl (ih hJ205 (RLt hR D204) (l1) (l2) (l5) (z209) (l8) (l10) ((l11 + 1)) (i32_upp c15 hn_l11) (i32_up c15 hm))
            · refine wp0 rfl rfl ?_
              refine wp3 rfl (am_putf rfl (Nat.le_of_ble_eq_true rfl) (b01_nar b0) (b01_fit b0)) ?_
              have hJ210 := K_carry hJ b0
              refine wpH (h' := HH s (MC (t_carry m 0)) D) rfl ?_
              refine wp1 rfl rfl ?_
              refine wp2b rfl rfl (fun c211 => ?_) (fun c211 => ?_)
              · refine wp1 rfl rfl ?_
                refine wp0 rfl rfl ?_
                refine wp0 rfl rfl ?_
                refine wp1 rfl rfl ?_
                refine wp0 rfl rfl ?_
                refine wp2b rfl rfl (fun c212 => ?_) (fun c212 => ?_)
                · refine wp1 rfl rfl ?_
                  refine wp2 rfl rfl ?_
                  refine wp1 rfl rfl ?_
                  refine wp0 rfl rfl ?_
                  refine wp0 rfl rfl ?_
                  refine wpTl (fun z213 ez213 => ?_)
                  refine wp1 rfl rfl ?_
                  refine wpV (lv' := [(0, .ref 24), (1, .int l1), (2, .int l2), (5, .int l5), (6, .long z213), (8, .long l8), (10, .int l10), (11, .int l11)]) rfl ?_
                  refine wp1 rfl rfl ?_
                  refine wpV (lv' := [(0, .ref 24), (1, .int l1), (2, .int l2), (5, .int l5), (6, .long z213), (8, .long l8), (10, .int l10), (11, .int (l11 + 1))]) rfl ?_
                  refine wp2 rfl rfl ?_
                  exact wpL rfl rfl (ih hJ210 hR (l1) (l2) (l5) (z213) (l8) (l10) ((l11 + 1)) (i32_upp c15 hn_l11) (i32_up c15 hm))
                · refine wp1 rfl rfl ?_
                  refine wp0 rfl rfl ?_
                  refine wp2b rfl rfl (fun c214 => ?_) (fun c214 => ?_)
                  · refine wp1 rfl rfl ?_
                    refine wp1 rfl rfl ?_
                    refine wp0 rfl rfl ?_
                    refine wp0 rfl rfl ?_
                    refine wp0 rfl rfl ?_
                    refine wp2 rfl rfl ?_
                    refine wp1 rfl rfl ?_
                    refine wp0 rfl rfl ?_
                    refine wp0 rfl rfl ?_
                    refine wpTl (fun z215 ez215 => ?_)
                    refine wp1 rfl rfl ?_
                    refine wpV (lv' := [(0, .ref 24), (1, .int l1), (2, .int l2), (5, .int l5), (6, .long z215), (8, .long l8), (10, .int l10), (11, .int l11)]) rfl ?_
                    refine wp1 rfl rfl ?_
                    refine wpV (lv' := [(0, .ref 24), (1, .int l1), (2, .int l2), (5, .int l5), (6, .long z215), (8, .long l8), (10, .int l10), (11, .int (l11 + 1))]) rfl ?_
                    refine wp2 rfl rfl ?_
                    exact wpL rfl rfl (ih hJ210 hR (l1) (l2) (l5) (z215) (l8) (l10) ((l11 + 1)) (i32_upp c15 hn_l11) (i32_up c15 hm))
                  · refine wp0 rfl rfl ?_
                    refine wp1 rfl rfl ?_
                    refine wp0 rfl rfl ?_
                    refine wp0 rfl rfl ?_
                    refine wpTl (fun z216 ez216 => ?_)
                    refine wp1 rfl rfl ?_
                    refine wpV (lv' := [(0, .ref 24), (1, .int l1), (2, .int l2), (5, .int l5), (6, .long z216), (8, .long l8), (10, .int l10), (11, .int l11)]) rfl ?_
                    refine wp1 rfl rfl ?_
                    refine wpV (lv' := [(0, .ref 24), (1, .int l1), (2, .int l2), (5, .int l5), (6, .long z216), (8, .long l8), (10, .int l10), (11, .int (l11 + 1))]) rfl ?_
                    refine wp2 rfl rfl ?_
                    exact wpL rfl rfl (ih hJ210 hR (l1) (l2) (l5) (z216) (l8) (l10) ((l11 + 1)) (i32_upp c15 hn_l11) (i32_up c15 hm))
              · refine wp1 rfl rfl ?_
                refine wp0 rfl rfl ?_
                refine wp0 rfl rfl ?_
                refine wp1 rfl rfl ?_
                refine wp4 rfl rfl (mf_135 hJ210 ((l6 <<< (Int32.toInt64 1 &&& 63))) (l2)) (fun rv h1 hq => ?_)
                obtain ⟨s218, hJ220, D219, rfl, x221, rfl⟩ := hq
                refine wp1 rfl rfl ?_
                refine wp0 rfl rfl ?_
                refine wp2b rfl rfl (fun c222 => ?_) (fun c222 => ?_)
                · refine wp1 rfl rfl ?_
                  refine wp2 rfl rfl ?_
                  refine wp0 rfl rfl ?_
                  refine wpTl (fun z223 ez223 => ?_)
                  refine wp1 rfl rfl ?_
                  refine wpV (lv' := [(0, .ref 24), (1, .int l1), (2, .int l2), (5, .int l5), (6, .long z223), (8, .long l8), (10, .int l10), (11, .int l11)]) rfl ?_
                  refine wp2 rfl rfl ?_
                  refine wp1 rfl rfl ?_
                  refine wpV (lv' := [(0, .ref 24), (1, .int l1), (2, .int l2), (5, .int l5), (6, .long z223), (8, .long l8), (10, .int l10), (11, .int (l11 + 1))]) rfl ?_
                  refine wp2 rfl rfl ?_
                  exact wpL rfl rfl (ih hJ220 (RLt hR D219) (l1) (l2) (l5) (z223) (l8) (l10) ((l11 + 1)) (i32_upp c15 hn_l11) (i32_up c15 hm))
                · refine wp0 rfl rfl ?_
                  refine wp0 rfl rfl ?_
                  refine wpTl (fun z224 ez224 => ?_)
                  refine wp1 rfl rfl ?_
                  refine wpV (lv' := [(0, .ref 24), (1, .int l1), (2, .int l2), (5, .int l5), (6, .long z224), (8, .long l8), (10, .int l10), (11, .int l11)]) rfl ?_
                  refine wp2 rfl rfl ?_
                  refine wp1 rfl rfl ?_
                  refine wpV (lv' := [(0, .ref 24), (1, .int l1), (2, .int l2), (5, .int l5), (6, .long z224), (8, .long l8), (10, .int l10), (11, .int (l11 + 1))]) rfl ?_
                  refine wp2 rfl rfl ?_
                  exact wpL rfl rfl (ih hJ220 (RLt hR D219) (l1) (l2) (l5) (z224) (l8) (l10) ((l11 + 1)) (i32_upp c15 hn_l11) (i32_up c15 hm))
set_option maxRecDepth 20000 in
theorem sb_177_27 {m m0 : ms} (hJ : K m) (hR : RL 2 m0 m) (l1 : Int32) (l2 : Int32) (l3 : Int64) (k0 : Int32) (k1 : Int32) (hn_k1 : 0 ≤ Int32.toInt k1) : tb_wp L xs 177 27 [(0, .ref 24), (1, .int l1), (2, .int l2), (3, .long l3)] [.int k1, .int k0] (HH s (MC m) D) (NV 2 m0 s D) := by
  refine wp0 rfl rfl ?_
  refine wpTi (fun z225 ez225 => ?_)
  refine wp1 rfl rfl ?_
  refine wpV (lv' := [(0, .ref 24), (1, .int l1), (2, .int l2), (3, .long l3), (5, .int z225)]) rfl ?_
  refine wp1 rfl rfl ?_
  refine wp2b rfl rfl (fun c226 => ?_) (fun c226 => ?_)
  · exact wp5 rfl rfl ⟨_, hJ, hR, rfl, rfl⟩
  · refine wp1 rfl rfl ?_
    refine wp1 rfl rfl ?_
    refine wpV (lv' := [(0, .ref 24), (1, .int l1), (2, .int l2), (3, .long l3), (5, .int z225), (6, .long l3)]) rfl ?_
    refine wp1 rfl rfl ?_
    refine wp1 rfl rfl ?_
    refine wp4 rfl rfl (mf_189 hJ (l3) (l2)) (fun rv h1 hq => ?_)
    obtain ⟨s228, hJ230, D229, rfl, x231, rfl⟩ := hq
    refine wp1 rfl rfl ?_
    refine wpV (lv' := [(0, .ref 24), (1, .int l1), (2, .int l2), (3, .long l3), (5, .int z225), (6, .long l3), (8, .long x231)]) rfl ?_
    refine wp0 rfl rfl ?_
    refine wp1 rfl rfl ?_
    refine wp0 rfl rfl ?_
    refine wp0 rfl rfl ?_
    refine wp0 rfl rfl ?_
    refine wpTi (fun z232 ez232 => ?_)
    refine wp1 rfl rfl ?_
    refine wpV (lv' := [(0, .ref 24), (1, .int l1), (2, .int l2), (3, .long l3), (5, .int z225), (6, .long l3), (8, .long x231), (10, .int z232)]) rfl ?_
    refine wp0 rfl rfl ?_
    refine wp1 rfl rfl ?_
    refine wpV (lv' := [(0, .ref 24), (1, .int l1), (2, .int l2), (3, .long l3), (5, .int z225), (6, .long l3), (8, .long x231), (10, .int z232), (11, .int 0)]) rfl ?_
    exact wpL rfl rfl (sb_177_57 _ hJ230 (RLt hR D229) (l1) (l2) (z225) (l3) (x231) (z232) (0) (by decide) (Nat.lt_succ_self _))
set_option maxRecDepth 20000 in
theorem sb_177_0 {m m0 : ms} (hJ : K m) (hR : RL 2 m0 m) (l1 : Int32) (l2 : Int32)  : tb_wp L xs 177 0 [(0, .ref 24), (1, .int l1), (2, .int l2)] [] (HH s (MC m) D) (NV 2 m0 s D) := by
  refine wp1 rfl rfl ?_
  refine wp0 rfl rfl ?_
  refine wp1 rfl rfl ?_
  refine wp4 rfl rfl (mf_187 hJ (0) (l2) (by decide)) (fun rv h1 hq => ?_)
  obtain ⟨s234, hJ236, D235, rfl, x237, rfl⟩ := hq
  refine wp1 rfl rfl ?_
  refine wpV (lv' := [(0, .ref 24), (1, .int l1), (2, .int l2), (3, .long x237)]) rfl ?_
  refine wp1 rfl rfl ?_
  refine wp0 rfl rfl ?_
  refine wp0 rfl rfl ?_
  refine wp4 rfl rfl (mf_187 hJ236 (1) (1) (by decide)) (fun rv h1 hq => ?_)
  obtain ⟨s239, hJ241, D240, rfl, x242, rfl⟩ := hq
  refine wp0 rfl rfl ?_
  refine wp1 rfl rfl ?_
  refine wp0 rfl rfl ?_
  refine wp2b rfl rfl (fun c243 => ?_) (fun c243 => ?_)
  · refine wp0 rfl rfl ?_
    refine wp2 rfl rfl ?_
    exact wpL rfl rfl (sb_177_27 hJ241 (RLt (RLt hR D235) D240) (l1) (l2) (x237) ((Int64.toInt32 x242)) (63) (by decide))
  · refine wp0 rfl rfl ?_
    exact wpL rfl rfl (sb_177_27 hJ241 (RLt (RLt hR D235) D240) (l1) (l2) (x237) ((Int64.toInt32 x242)) (31) (by decide))
theorem mf_177 {m : ms} (hJ : K m) (l1 : Int32) (l2 : Int32)  : tb_wp L xs 177 0 (lv_args 0 [.ref 24, .int l1, .int l2]) [] (HH s (MC m) D) (NV 2 m s D) := sb_177_0 hJ RLr l1 l2
/- 179: FlagMachineModel.single(II)V -/
set_option maxRecDepth 20000 in
theorem sb_179_94 {m m0 : ms} (hJ : K m) (hR : RL 2 m0 m) (l2 : Int32) (l6 : Int64)  : tb_wp L xs 179 94 [(0, .ref 24), (2, .int l2), (6, .long l6)] [] (HH s (MC m) D) (NV 2 m0 s D) := by
  refine wp1 rfl rfl ?_
  refine wp0 rfl rfl ?_
  refine wp1 rfl rfl ?_
  refine wp1 rfl rfl ?_
  refine wp4 rfl rfl (mf_169 hJ (0) (l2) (l6) (by decide)) (fun rv h1 hq => ?_)
  obtain ⟨s2, hJ4, D3, rfl, rfl⟩ := hq
  exact wp5 rfl rfl ⟨_, hJ4, (RLt hR D3), rfl, rfl⟩
set_option maxRecDepth 20000 in
theorem sb_179_82 {m m0 : ms} (hJ : K m) (hR : RL 2 m0 m) (l1 : Int32) (l2 : Int32) (l5 : Int32) (l6 : Int64) (hb_l5 : b01 l5) : tb_wp L xs 179 82 [(0, .ref 24), (1, .int l1), (2, .int l2), (5, .int l5), (6, .long l6)] [] (HH s (MC m) D) (NV 2 m0 s D) := by
  refine wp1 rfl rfl ?_
  refine wp0 rfl rfl ?_
  refine wp2b rfl rfl (fun c6 => ?_) (fun c6 => ?_)
  · exact wpL rfl rfl (sb_179_94 hJ hR (l2) (l6))
  · refine wp1 rfl rfl ?_
    refine wp1 rfl rfl ?_
    refine wp3 rfl (am_putf rfl (Nat.le_of_ble_eq_true rfl) (b01_nar hb_l5) (b01_fit hb_l5)) ?_
    have hJ7 := K_carry hJ hb_l5
    refine wpH (h' := HH s (MC (t_carry m l5)) D) rfl ?_
    exact wpL rfl rfl (sb_179_94 hJ7 hR (l2) (l6))
set_option maxRecDepth 20000 in
theorem sb_179_66 {m m0 : ms} (hJ : K m) (hR : RL 2 m0 m) (l1 : Int32) (l2 : Int32) (l3 : Int64) (l5 : Int32) (l6 : Int64) (hb_l5 : b01 l5) : tb_wp L xs 179 66 [(0, .ref 24), (1, .int l1), (2, .int l2), (3, .long l3), (5, .int l5), (6, .long l6)] [] (HH s (MC m) D) (NV 2 m0 s D) := by
  refine wp1 rfl rfl ?_
  refine wp0 rfl rfl ?_
  refine wp2b rfl rfl (fun c8 => ?_) (fun c8 => ?_)
  · refine wp1 rfl rfl ?_
    refine wp1 rfl rfl ?_
    refine wp0 rfl rfl ?_
    refine wp0 rfl rfl ?_
    refine wp1 rfl rfl ?_
    refine wp4 rfl rfl (mf_186 hJ (l3) (1) (0) (l2) b0) (fun rv h1 hq => ?_)
    obtain ⟨s10, hJ12, D11, rfl, x13, rfl⟩ := hq
    refine wp1 rfl rfl ?_
    refine wpV (lv' := [(0, .ref 24), (1, .int l1), (2, .int l2), (3, .long l3), (5, .int l5), (6, .long x13)]) rfl ?_
    exact wpL rfl rfl (sb_179_82 hJ12 (RLt hR D11) (l1) (l2) (l5) (x13) hb_l5)
  · exact wpL rfl rfl (sb_179_82 hJ hR (l1) (l2) (l5) (l6) hb_l5)
set_option maxRecDepth 20000 in
theorem sb_179_50 {m m0 : ms} (hJ : K m) (hR : RL 2 m0 m) (l1 : Int32) (l2 : Int32) (l3 : Int64) (l5 : Int32) (l6 : Int64) (hb_l5 : b01 l5) : tb_wp L xs 179 50 [(0, .ref 24), (1, .int l1), (2, .int l2), (3, .long l3), (5, .int l5), (6, .long l6)] [] (HH s (MC m) D) (NV 2 m0 s D) := by
  refine wp1 rfl rfl ?_
  refine wp0 rfl rfl ?_
  refine wp2b rfl rfl (fun c14 => ?_) (fun c14 => ?_)
  · refine wp1 rfl rfl ?_
    refine wp1 rfl rfl ?_
    refine wp0 rfl rfl ?_
    refine wp0 rfl rfl ?_
    refine wp1 rfl rfl ?_
    refine wp4 rfl rfl (mf_126 hJ (l3) (1) (0) (l2) b0) (fun rv h1 hq => ?_)
    obtain ⟨s16, hJ18, D17, rfl, x19, rfl⟩ := hq
    refine wp1 rfl rfl ?_
    refine wpV (lv' := [(0, .ref 24), (1, .int l1), (2, .int l2), (3, .long l3), (5, .int l5), (6, .long x19)]) rfl ?_
    exact wpL rfl rfl (sb_179_66 hJ18 (RLt hR D17) (l1) (l2) (l3) (l5) (x19) hb_l5)
  · exact wpL rfl rfl (sb_179_66 hJ hR (l1) (l2) (l3) (l5) (l6) hb_l5)
set_option maxRecDepth 20000 in
theorem sb_179_32 {m m0 : ms} (hJ : K m) (hR : RL 2 m0 m) (l1 : Int32) (l2 : Int32) (l3 : Int64) (l5 : Int32) (k0 : Int64) (hb_l5 : b01 l5) : tb_wp L xs 179 32 [(0, .ref 24), (1, .int l1), (2, .int l2), (3, .long l3), (5, .int l5)] [.long k0] (HH s (MC m) D) (NV 2 m0 s D) := by
  refine wp1 rfl rfl ?_
  refine wpV (lv' := [(0, .ref 24), (1, .int l1), (2, .int l2), (3, .long l3), (5, .int l5), (6, .long k0)]) rfl ?_
  refine wp1 rfl rfl ?_
  refine wp0 rfl rfl ?_
  refine wp2b rfl rfl (fun c20 => ?_) (fun c20 => ?_)
  · refine wp1 rfl rfl ?_
    refine wp0 rfl rfl ?_
    refine wp1 rfl rfl ?_
    refine wp0 rfl rfl ?_
    refine wp1 rfl rfl ?_
    refine wp4 rfl rfl (mf_186 hJ (0) (l3) (0) (l2) b0) (fun rv h1 hq => ?_)
    obtain ⟨s22, hJ24, D23, rfl, x25, rfl⟩ := hq
    refine wp1 rfl rfl ?_
    refine wpV (lv' := [(0, .ref 24), (1, .int l1), (2, .int l2), (3, .long l3), (5, .int l5), (6, .long x25)]) rfl ?_
    exact wpL rfl rfl (sb_179_50 hJ24 (RLt hR D23) (l1) (l2) (l3) (l5) (x25) hb_l5)
  · exact wpL rfl rfl (sb_179_50 hJ hR (l1) (l2) (l3) (l5) (k0) hb_l5)
set_option maxRecDepth 20000 in
theorem sb_179_0 {m m0 : ms} (hJ : K m) (hR : RL 2 m0 m) (l1 : Int32) (l2 : Int32)  : tb_wp L xs 179 0 [(0, .ref 24), (1, .int l1), (2, .int l2)] [] (HH s (MC m) D) (NV 2 m0 s D) := by
  refine wp1 rfl rfl ?_
  refine wp0 rfl rfl ?_
  refine wp1 rfl rfl ?_
  refine wp4 rfl rfl (mf_187 hJ (0) (l2) (by decide)) (fun rv h1 hq => ?_)
  obtain ⟨s27, hJ29, D28, rfl, x30, rfl⟩ := hq
  refine wp1 rfl rfl ?_
  refine wpV (lv' := [(0, .ref 24), (1, .int l1), (2, .int l2), (3, .long x30)]) rfl ?_
  refine wp1 rfl rfl ?_
  refine wp3 rfl (am_getf rfl rfl) ?_
  refine wpTi (fun z31 ez31 => ?_)
  refine wp1 rfl rfl ?_
  refine wpV (lv' := [(0, .ref 24), (1, .int l1), (2, .int l2), (3, .long x30), (5, .int z31)]) rfl ?_
  refine wp1 rfl rfl ?_
  refine wp0 rfl rfl ?_
  refine wp2b rfl rfl (fun c32 => ?_) (fun c32 => ?_)
  · refine wp1 rfl rfl ?_
    refine wp0 rfl rfl ?_
    refine wp0 rfl rfl ?_
    refine wp1 rfl rfl ?_
    refine wp4 rfl rfl (mf_135 hJ29 ((x30 ^^^ (-1))) (l2)) (fun rv h1 hq => ?_)
    obtain ⟨s34, hJ36, D35, rfl, x37, rfl⟩ := hq
    refine wp2 rfl rfl ?_
    exact wpL rfl rfl (sb_179_32 hJ36 (RLt (RLt hR D28) D35) (l1) (l2) (x30) (z31) (x37) (ez31 ▸ hJ29.1))
  · refine wp0 rfl rfl ?_
    exact wpL rfl rfl (sb_179_32 hJ29 (RLt hR D28) (l1) (l2) (x30) (z31) (0) (ez31 ▸ hJ29.1))
theorem mf_179 {m : ms} (hJ : K m) (l1 : Int32) (l2 : Int32)  : tb_wp L xs 179 0 (lv_args 0 [.ref 24, .int l1, .int l2]) [] (HH s (MC m) D) (NV 2 m s D) := sb_179_0 hJ RLr l1 l2
end SM2

section SM7
variable {L : Nat} {xs : Nat → Int32} {s : cs} {D : List pgT}
set_option maxRecDepth 20000 in
theorem sb_136_350 {m m0 : ms} (hJ : K m) (hR : RL 2 m0 m) (k2 : Int64)   : tb_wp L xs 136 350 [] [.long k2, .int 2, .ref 31] (HH s (MC m) D) (NV 2 m0 s D) := by
  refine wp3 rfl (am_last rfl (by decide)) ?_
  have hJ1 : K (t_registers0 m (vp_updL (q_registers0 m) (Int32.toNatClampNeg 2) k2)) := hJ
  refine wpH (h' := HH s (MC (t_registers0 m (vp_updL (q_registers0 m) (Int32.toNatClampNeg 2) k2))) D) rfl ?_
  exact wp5 rfl rfl ⟨_, hJ1, hR, rfl, rfl⟩
set_option maxRecDepth 20000 in
theorem sb_136_331 {m m0 : ms} (hJ : K m) (hR : RL 2 m0 m) (l9 : Int32) (l15 : Int64) (k2 : Int64) (hb_l9 : b01 l9)  : tb_wp L xs 136 331 [(0, .ref 24), (9, .int l9), (15, .long l15)] [.long k2, .int 0, .ref 31] (HH s (MC m) D) (NV 2 m0 s D) := by
  refine wp3 rfl (am_last rfl (by decide)) ?_
  have hJ2 : K (t_registers0 m (vp_updL (q_registers0 m) (Int32.toNatClampNeg 0) k2)) := hJ
  refine wpH (h' := HH s (MC (t_registers0 m (vp_updL (q_registers0 m) (Int32.toNatClampNeg 0) k2))) D) rfl ?_
  refine wp1 rfl rfl ?_
  refine wp3 rfl (am_getf rfl rfl) ?_
  refine wp0 rfl rfl ?_
  refine wp1 rfl rfl ?_
  refine wp2b rfl rfl (fun c3 => ?_) (fun c3 => ?_)
  · refine wp1 rfl rfl ?_
    exact wpL rfl rfl (sb_136_350 hJ2 hR (l15))
  · refine wp1 rfl rfl ?_
    refine wp0 rfl rfl ?_
    refine wp2 rfl rfl ?_
    exact wpL rfl rfl (sb_136_350 hJ2 hR ((-l15)))
set_option maxRecDepth 20000 in
theorem sb_136_313 {m m0 : ms} (hJ : K m) (hR : RL 2 m0 m) (l9 : Int32) (l10 : Int32) (l13 : Int64) (l15 : Int64) (hb_l9 : b01 l9) (hb_l10 : b01 l10)  : tb_wp L xs 136 313 [(0, .ref 24), (9, .int l9), (10, .int l10), (13, .long l13), (15, .long l15)] [] (HH s (MC m) D) (NV 2 m0 s D) := by
  refine wp1 rfl rfl ?_
  refine wp3 rfl (am_getf rfl rfl) ?_
  refine wp0 rfl rfl ?_
  refine wp1 rfl rfl ?_
  refine wp2b rfl rfl (fun c4 => ?_) (fun c4 => ?_)
  · refine wp1 rfl rfl ?_
    exact wpL rfl rfl (sb_136_331 hJ hR (l9) (l15) (l13) hb_l9)
  · refine wp1 rfl rfl ?_
    refine wp0 rfl rfl ?_
    refine wp2 rfl rfl ?_
    exact wpL rfl rfl (sb_136_331 hJ hR (l9) (l15) ((-l13)) hb_l9)
set_option maxRecDepth 20000 in
theorem sb_136_306 {m m0 : ms} (hJ : K m) (hR : RL 2 m0 m)    : tb_wp L xs 136 306 [(0, .ref 24)] [] (HH s (MC m) D) (NV 2 m0 s D) := by
  refine wp1 rfl rfl ?_
  refine wp0 rfl rfl ?_
  refine wp0 rfl rfl ?_
  refine wp4 rfl rfl (mf_183 hJ (5) (0)) (fun rv h1 hq => ?_)
  obtain ⟨s6, hJ8, D7, rfl, rfl⟩ := hq
  exact wp5 rfl rfl ⟨_, hJ8, (RLt hR D7), rfl, rfl⟩
set_option maxRecDepth 20000 in
theorem sb_136_186 (n : Nat) : ∀ {m m0 : ms} (hJ : K m) (hR : RL 2 m0 m) (l1 : Int32) (l7 : Int64) (l9 : Int32) (l10 : Int32) (l11 : Int64) (l13 : Int64) (l15 : Int64) (l17 : Int32) (hb_l1 : b01 l1) (hb_l9 : b01 l9) (hb_l10 : b01 l10) (hm : ((l17 : Int32).toInt + 1).toNat < n), tb_wp L xs 136 186 [(0, .ref 24), (1, .int l1), (7, .long l7), (9, .int l9), (10, .int l10), (11, .long l11), (13, .long l13), (15, .long l15), (17, .int l17)] [] (HH s (MC m) D) (NV 2 m0 s D) := by
  induction n with
  | zero => intro m m0 hJ hR l1 l7 l9 l10 l11 l13 l15 l17 hb_l1 hb_l9 hb_l10 hm; exact absurd hm (Nat.not_lt_zero _)
  | succ n ih =>
    intro m m0 hJ hR l1 l7 l9 l10 l11 l13 l15 l17 hb_l1 hb_l9 hb_l10 hm
    refine wp1 rfl rfl ?_
    refine wp2b rfl rfl (fun c10 => ?_) (fun c10 => ?_)
    · refine wp1 rfl rfl ?_
      refine wp2b rfl rfl (fun c11 => ?_) (fun c11 => ?_)
      · exact wpL rfl rfl (sb_136_313 hJ hR (l9) (l10) (l13) (l15) hb_l9 hb_l10)
      · refine wp1 rfl rfl ?_
        refine wp2b rfl rfl (fun c12 => ?_) (fun c12 => ?_)
        · refine wp1 rfl rfl ?_
          refine wp0 rfl rfl ?_
          refine wp0 rfl rfl ?_
          refine wp2b rfl rfl (fun c13 => ?_) (fun c13 => ?_)
          · exact wpL rfl rfl (sb_136_313 hJ hR (l9) (l10) (l13) (l15) hb_l9 hb_l10)
          · exact wpL rfl rfl (sb_136_306 hJ hR )
        · refine wp0 rfl rfl ?_
          refine wp1 rfl rfl ?_
          refine wp4 rfl rfl (mf_131 hJ ((-9223372036854775808)) (l13)) (fun rv h1 hq => ?_)
          obtain ⟨s15, hJ17, D16, rfl, x18, rfl, hb_x18⟩ := hq
          refine wp2b rfl rfl (fun c19 => ?_) (fun c19 => ?_)
          · exact wpL rfl rfl (sb_136_313 hJ17 (RLt hR D16) (l9) (l10) (l13) (l15) hb_l9 hb_l10)
          · refine wp2 rfl rfl ?_
            exact wpL rfl rfl (sb_136_306 hJ17 (RLt hR D16) )
    · refine wp1 rfl rfl ?_
      refine wp0 rfl rfl ?_
      refine wp0 rfl rfl ?_
      refine wp2b rfl rfl (fun c20 => ?_) (fun c20 => ?_)
      · refine wp0 rfl rfl ?_
        refine wp1 rfl rfl ?_
        refine wpV (lv' := [(0, .ref 24), (1, .int l1), (7, .long l7), (9, .int l9), (10, .int l10), (11, .long l11), (13, .long l13), (15, .long l15), (17, .int l17), (18, .int 0)]) rfl ?_
        refine wp1 rfl rfl ?_
        refine wp0 rfl rfl ?_
        refine wp0 rfl rfl ?_
        refine wp1 rfl rfl ?_
        refine wp1 rfl rfl ?_
        refine wp0 rfl rfl ?_
        refine wp0 rfl rfl ?_
        refine wp0 rfl rfl ?_
        refine wp0 rfl rfl ?_
        refine wpTl (fun z21 ez21 => ?_)
        refine wp1 rfl rfl ?_
        refine wpV (lv' := [(0, .ref 24), (1, .int l1), (7, .long l7), (9, .int l9), (10, .int l10), (11, .long l11), (13, .long l13), (15, .long z21), (17, .int l17), (18, .int 0)]) rfl ?_
        refine wp1 rfl rfl ?_
        refine wp2b rfl rfl (fun c22 => ?_) (fun c22 => ?_)
        · refine wp1 rfl rfl ?_
          refine wp1 rfl rfl ?_
          refine wp4 rfl rfl (mf_131 hJ (z21) (l11)) (fun rv h1 hq => ?_)
          obtain ⟨s24, hJ26, D25, rfl, x27, rfl, hb_x27⟩ := hq
          refine wp2b rfl rfl (fun c28 => ?_) (fun c28 => ?_)
          · refine wp0 rfl rfl ?_
            refine wp2 rfl rfl ?_
            refine wp1 rfl rfl ?_
            refine wpV (lv' := [(0, .ref 24), (1, .int l1), (7, .long l7), (9, .int l9), (10, .int l10), (11, .long l11), (13, .long l13), (15, .long z21), (17, .int l17), (19, .int 1)]) rfl ?_
            refine wp1 rfl rfl ?_
            refine wp2b rfl rfl (fun c29 => ?_) (fun c29 => ?_)
            · refine wp1 rfl rfl ?_
              refine wp0 rfl rfl ?_
              refine wp0 rfl rfl ?_
              refine wp1 rfl rfl ?_
              refine wp2b rfl rfl (fun c30 => ?_) (fun c30 => ?_)
              · refine wp0 rfl rfl ?_
                refine wp0 rfl rfl ?_
                refine wpTl (fun z31 ez31 => ?_)
                refine wp1 rfl rfl ?_
                refine wpV (lv' := [(0, .ref 24), (1, .int l1), (7, .long l7), (9, .int l9), (10, .int l10), (11, .long l11), (13, .long z31), (15, .long z21), (17, .int l17)]) rfl ?_
                refine wp1 rfl rfl ?_
                refine wpV (lv' := [(0, .ref 24), (1, .int l1), (7, .long l7), (9, .int l9), (10, .int l10), (11, .long l11), (13, .long z31), (15, .long z21), (17, .int (l17 + (-1)))]) rfl ?_
                refine wp2 rfl rfl ?_
                exact wpL rfl rfl (ih hJ26 (RLt hR D25) (l1) (l7) (l9) (l10) (l11) (z31) (z21) ((l17 + (-1))) hb_l1 hb_l9 hb_l10 (i32_down c10 hm))
              · refine wp0 rfl rfl ?_
                refine wp2 rfl rfl ?_
                refine wp0 rfl rfl ?_
                refine wpTl (fun z32 ez32 => ?_)
                refine wp1 rfl rfl ?_
                refine wpV (lv' := [(0, .ref 24), (1, .int l1), (7, .long l7), (9, .int l9), (10, .int l10), (11, .long l11), (13, .long z32), (15, .long z21), (17, .int l17)]) rfl ?_
                refine wp1 rfl rfl ?_
                refine wpV (lv' := [(0, .ref 24), (1, .int l1), (7, .long l7), (9, .int l9), (10, .int l10), (11, .long l11), (13, .long z32), (15, .long z21), (17, .int (l17 + (-1)))]) rfl ?_
                refine wp2 rfl rfl ?_
                exact wpL rfl rfl (ih hJ26 (RLt hR D25) (l1) (l7) (l9) (l10) (l11) (z32) (z21) ((l17 + (-1))) hb_l1 hb_l9 hb_l10 (i32_down c10 hm))
            · refine wp1 rfl rfl ?_
              refine wp1 rfl rfl ?_
              refine wp0 rfl rfl ?_
              refine wpTl (fun z33 ez33 => ?_)
              refine wp1 rfl rfl ?_
              refine wpV (lv' := [(0, .ref 24), (1, .int l1), (7, .long l7), (9, .int l9), (10, .int l10), (11, .long l11), (13, .long l13), (15, .long z33), (17, .int l17), (19, .int 1)]) rfl ?_
              refine wp1 rfl rfl ?_
              refine wp0 rfl rfl ?_
              refine wp0 rfl rfl ?_
              refine wp1 rfl rfl ?_
              refine wp2b rfl rfl (fun c34 => ?_) (fun c34 => ?_)
              · refine wp0 rfl rfl ?_
                refine wp0 rfl rfl ?_
                refine wpTl (fun z35 ez35 => ?_)
                refine wp1 rfl rfl ?_
                refine wpV (lv' := [(0, .ref 24), (1, .int l1), (7, .long l7), (9, .int l9), (10, .int l10), (11, .long l11), (13, .long z35), (15, .long z33), (17, .int l17)]) rfl ?_
                refine wp1 rfl rfl ?_
                refine wpV (lv' := [(0, .ref 24), (1, .int l1), (7, .long l7), (9, .int l9), (10, .int l10), (11, .long l11), (13, .long z35), (15, .long z33), (17, .int (l17 + (-1)))]) rfl ?_
                refine wp2 rfl rfl ?_
                exact wpL rfl rfl (ih hJ26 (RLt hR D25) (l1) (l7) (l9) (l10) (l11) (z35) (z33) ((l17 + (-1))) hb_l1 hb_l9 hb_l10 (i32_down c10 hm))
              · refine wp0 rfl rfl ?_
                refine wp2 rfl rfl ?_
                refine wp0 rfl rfl ?_
                refine wpTl (fun z36 ez36 => ?_)
                refine wp1 rfl rfl ?_
                refine wpV (lv' := [(0, .ref 24), (1, .int l1), (7, .long l7), (9, .int l9), (10, .int l10), (11, .long l11), (13, .long z36), (15, .long z33), (17, .int l17)]) rfl ?_
                refine wp1 rfl rfl ?_
                refine wpV (lv' := [(0, .ref 24), (1, .int l1), (7, .long l7), (9, .int l9), (10, .int l10), (11, .long l11), (13, .long z36), (15, .long z33), (17, .int (l17 + (-1)))]) rfl ?_
                refine wp2 rfl rfl ?_
                exact wpL rfl rfl (ih hJ26 (RLt hR D25) (l1) (l7) (l9) (l10) (l11) (z36) (z33) ((l17 + (-1))) hb_l1 hb_l9 hb_l10 (i32_down c10 hm))
          · refine wp0 rfl rfl ?_
            refine wp1 rfl rfl ?_
            refine wpV (lv' := [(0, .ref 24), (1, .int l1), (7, .long l7), (9, .int l9), (10, .int l10), (11, .long l11), (13, .long l13), (15, .long z21), (17, .int l17), (19, .int 0)]) rfl ?_
            refine wp1 rfl rfl ?_
            refine wp2b rfl rfl (fun c37 => ?_) (fun c37 => ?_)
            · refine wp1 rfl rfl ?_
              refine wp0 rfl rfl ?_
              refine wp0 rfl rfl ?_
              refine wp1 rfl rfl ?_
              refine wp2b rfl rfl (fun c38 => ?_) (fun c38 => ?_)
              · refine wp0 rfl rfl ?_
                refine wp0 rfl rfl ?_
                refine wpTl (fun z39 ez39 => ?_)
                refine wp1 rfl rfl ?_
                refine wpV (lv' := [(0, .ref 24), (1, .int l1), (7, .long l7), (9, .int l9), (10, .int l10), (11, .long l11), (13, .long z39), (15, .long z21), (17, .int l17)]) rfl ?_
                refine wp1 rfl rfl ?_
                refine wpV (lv' := [(0, .ref 24), (1, .int l1), (7, .long l7), (9, .int l9), (10, .int l10), (11, .long l11), (13, .long z39), (15, .long z21), (17, .int (l17 + (-1)))]) rfl ?_
                refine wp2 rfl rfl ?_
                exact wpL rfl rfl (ih hJ26 (RLt hR D25) (l1) (l7) (l9) (l10) (l11) (z39) (z21) ((l17 + (-1))) hb_l1 hb_l9 hb_l10 (i32_down c10 hm))
              · refine wp0 rfl rfl ?_
                refine wp2 rfl rfl ?_
                refine wp0 rfl rfl ?_
                refine wpTl (fun z40 ez40 => ?_)
                refine wp1 rfl rfl ?_
                refine wpV (lv' := [(0, .ref 24), (1, .int l1), (7, .long l7), (9, .int l9), (10, .int l10), (11, .long l11), (13, .long z40), (15, .long z21), (17, .int l17)]) rfl ?_
                refine wp1 rfl rfl ?_
                refine wpV (lv' := [(0, .ref 24), (1, .int l1), (7, .long l7), (9, .int l9), (10, .int l10), (11, .long l11), (13, .long z40), (15, .long z21), (17, .int (l17 + (-1)))]) rfl ?_
                refine wp2 rfl rfl ?_
                exact wpL rfl rfl (ih hJ26 (RLt hR D25) (l1) (l7) (l9) (l10) (l11) (z40) (z21) ((l17 + (-1))) hb_l1 hb_l9 hb_l10 (i32_down c10 hm))
            · refine wp1 rfl rfl ?_
              refine wp1 rfl rfl ?_
              refine wp0 rfl rfl ?_
              refine wpTl (fun z41 ez41 => ?_)
              refine wp1 rfl rfl ?_
              refine wpV (lv' := [(0, .ref 24), (1, .int l1), (7, .long l7), (9, .int l9), (10, .int l10), (11, .long l11), (13, .long l13), (15, .long z41), (17, .int l17), (19, .int 0)]) rfl ?_
              refine wp1 rfl rfl ?_
              refine wp0 rfl rfl ?_
              refine wp0 rfl rfl ?_
              refine wp1 rfl rfl ?_
              refine wp2b rfl rfl (fun c42 => ?_) (fun c42 => ?_)
              · refine wp0 rfl rfl ?_
                refine wp0 rfl rfl ?_
                refine wpTl (fun z43 ez43 => ?_)
                refine wp1 rfl rfl ?_
                refine wpV (lv' := [(0, .ref 24), (1, .int l1), (7, .long l7), (9, .int l9), (10, .int l10), (11, .long l11), (13, .long z43), (15, .long z41), (17, .int l17)]) rfl ?_
                refine wp1 rfl rfl ?_
                refine wpV (lv' := [(0, .ref 24), (1, .int l1), (7, .long l7), (9, .int l9), (10, .int l10), (11, .long l11), (13, .long z43), (15, .long z41), (17, .int (l17 + (-1)))]) rfl ?_
                refine wp2 rfl rfl ?_
                exact wpL rfl rfl (ih hJ26 (RLt hR D25) (l1) (l7) (l9) (l10) (l11) (z43) (z41) ((l17 + (-1))) hb_l1 hb_l9 hb_l10 (i32_down c10 hm))
              · refine wp0 rfl rfl ?_
                refine wp2 rfl rfl ?_
                refine wp0 rfl rfl ?_
                refine wpTl (fun z44 ez44 => ?_)
                refine wp1 rfl rfl ?_
                refine wpV (lv' := [(0, .ref 24), (1, .int l1), (7, .long l7), (9, .int l9), (10, .int l10), (11, .long l11), (13, .long z44), (15, .long z41), (17, .int l17)]) rfl ?_
                refine wp1 rfl rfl ?_
                refine wpV (lv' := [(0, .ref 24), (1, .int l1), (7, .long l7), (9, .int l9), (10, .int l10), (11, .long l11), (13, .long z44), (15, .long z41), (17, .int (l17 + (-1)))]) rfl ?_
                refine wp2 rfl rfl ?_
                exact wpL rfl rfl (ih hJ26 (RLt hR D25) (l1) (l7) (l9) (l10) (l11) (z44) (z41) ((l17 + (-1))) hb_l1 hb_l9 hb_l10 (i32_down c10 hm))
        · refine wp0 rfl rfl ?_
          refine wp2 rfl rfl ?_
          refine wp1 rfl rfl ?_
          refine wpV (lv' := [(0, .ref 24), (1, .int l1), (7, .long l7), (9, .int l9), (10, .int l10), (11, .long l11), (13, .long l13), (15, .long z21), (17, .int l17), (19, .int 1)]) rfl ?_
          refine wp1 rfl rfl ?_
          refine wp2b rfl rfl (fun c45 => ?_) (fun c45 => ?_)
          · refine wp1 rfl rfl ?_
            refine wp0 rfl rfl ?_
            refine wp0 rfl rfl ?_
            refine wp1 rfl rfl ?_
            refine wp2b rfl rfl (fun c46 => ?_) (fun c46 => ?_)
            · refine wp0 rfl rfl ?_
              refine wp0 rfl rfl ?_
              refine wpTl (fun z47 ez47 => ?_)
              refine wp1 rfl rfl ?_
              refine wpV (lv' := [(0, .ref 24), (1, .int l1), (7, .long l7), (9, .int l9), (10, .int l10), (11, .long l11), (13, .long z47), (15, .long z21), (17, .int l17)]) rfl ?_
              refine wp1 rfl rfl ?_
              refine wpV (lv' := [(0, .ref 24), (1, .int l1), (7, .long l7), (9, .int l9), (10, .int l10), (11, .long l11), (13, .long z47), (15, .long z21), (17, .int (l17 + (-1)))]) rfl ?_
              refine wp2 rfl rfl ?_
              exact wpL rfl rfl (ih hJ hR (l1) (l7) (l9) (l10) (l11) (z47) (z21) ((l17 + (-1))) hb_l1 hb_l9 hb_l10 (i32_down c10 hm))
            · refine wp0 rfl rfl ?_
              refine wp2 rfl rfl ?_
              refine wp0 rfl rfl ?_
              refine wpTl (fun z48 ez48 => ?_)
              refine wp1 rfl rfl ?_
              refine wpV (lv' := [(0, .ref 24), (1, .int l1), (7, .long l7), (9, .int l9), (10, .int l10), (11, .long l11), (13, .long z48), (15, .long z21), (17, .int l17)]) rfl ?_
              refine wp1 rfl rfl ?_
              refine wpV (lv' := [(0, .ref 24), (1, .int l1), (7, .long l7), (9, .int l9), (10, .int l10), (11, .long l11), (13, .long z48), (15, .long z21), (17, .int (l17 + (-1)))]) rfl ?_
              refine wp2 rfl rfl ?_
              exact wpL rfl rfl (ih hJ hR (l1) (l7) (l9) (l10) (l11) (z48) (z21) ((l17 + (-1))) hb_l1 hb_l9 hb_l10 (i32_down c10 hm))
          · refine wp1 rfl rfl ?_
            refine wp1 rfl rfl ?_
            refine wp0 rfl rfl ?_
            refine wpTl (fun z49 ez49 => ?_)
            refine wp1 rfl rfl ?_
            refine wpV (lv' := [(0, .ref 24), (1, .int l1), (7, .long l7), (9, .int l9), (10, .int l10), (11, .long l11), (13, .long l13), (15, .long z49), (17, .int l17), (19, .int 1)]) rfl ?_
            refine wp1 rfl rfl ?_
            refine wp0 rfl rfl ?_
            refine wp0 rfl rfl ?_
            refine wp1 rfl rfl ?_
            refine wp2b rfl rfl (fun c50 => ?_) (fun c50 => ?_)
            · refine wp0 rfl rfl ?_
              refine wp0 rfl rfl ?_
              refine wpTl (fun z51 ez51 => ?_)
              refine wp1 rfl rfl ?_
              refine wpV (lv' := [(0, .ref 24), (1, .int l1), (7, .long l7), (9, .int l9), (10, .int l10), (11, .long l11), (13, .long z51), (15, .long z49), (17, .int l17)]) rfl ?_
              refine wp1 rfl rfl ?_
              refine wpV (lv' := [(0, .ref 24), (1, .int l1), (7, .long l7), (9, .int l9), (10, .int l10), (11, .long l11), (13, .long z51), (15, .long z49), (17, .int (l17 + (-1)))]) rfl ?_
              refine wp2 rfl rfl ?_
              exact wpL rfl rfl (ih hJ hR (l1) (l7) (l9) (l10) (l11) (z51) (z49) ((l17 + (-1))) hb_l1 hb_l9 hb_l10 (i32_down c10 hm))
            · refine wp0 rfl rfl ?_
              refine wp2 rfl rfl ?_
              refine wp0 rfl rfl ?_
              refine wpTl (fun z52 ez52 => ?_)
              refine wp1 rfl rfl ?_
              refine wpV (lv' := [(0, .ref 24), (1, .int l1), (7, .long l7), (9, .int l9), (10, .int l10), (11, .long l11), (13, .long z52), (15, .long z49), (17, .int l17)]) rfl ?_
              refine wp1 rfl rfl ?_
              refine wpV (lv' := [(0, .ref 24), (1, .int l1), (7, .long l7), (9, .int l9), (10, .int l10), (11, .long l11), (13, .long z52), (15, .long z49), (17, .int (l17 + (-1)))]) rfl ?_
              refine wp2 rfl rfl ?_
              exact wpL rfl rfl (ih hJ hR (l1) (l7) (l9) (l10) (l11) (z52) (z49) ((l17 + (-1))) hb_l1 hb_l9 hb_l10 (i32_down c10 hm))
      · refine wp0 rfl rfl ?_
        refine wp2 rfl rfl ?_
        refine wp1 rfl rfl ?_
        refine wpV (lv' := [(0, .ref 24), (1, .int l1), (7, .long l7), (9, .int l9), (10, .int l10), (11, .long l11), (13, .long l13), (15, .long l15), (17, .int l17), (18, .int 1)]) rfl ?_
        refine wp1 rfl rfl ?_
        refine wp0 rfl rfl ?_
        refine wp0 rfl rfl ?_
        refine wp1 rfl rfl ?_
        refine wp1 rfl rfl ?_
        refine wp0 rfl rfl ?_
        refine wp0 rfl rfl ?_
        refine wp0 rfl rfl ?_
        refine wp0 rfl rfl ?_
        refine wpTl (fun z53 ez53 => ?_)
        refine wp1 rfl rfl ?_
        refine wpV (lv' := [(0, .ref 24), (1, .int l1), (7, .long l7), (9, .int l9), (10, .int l10), (11, .long l11), (13, .long l13), (15, .long z53), (17, .int l17), (18, .int 1)]) rfl ?_
        refine wp1 rfl rfl ?_
        refine wp2b rfl rfl (fun c54 => ?_) (fun c54 => ?_)
        · refine wp1 rfl rfl ?_
          refine wp1 rfl rfl ?_
          refine wp4 rfl rfl (mf_131 hJ (z53) (l11)) (fun rv h1 hq => ?_)
          obtain ⟨s56, hJ58, D57, rfl, x59, rfl, hb_x59⟩ := hq
          refine wp2b rfl rfl (fun c60 => ?_) (fun c60 => ?_)
          · refine wp0 rfl rfl ?_
            refine wp2 rfl rfl ?_
            refine wp1 rfl rfl ?_
            refine wpV (lv' := [(0, .ref 24), (1, .int l1), (7, .long l7), (9, .int l9), (10, .int l10), (11, .long l11), (13, .long l13), (15, .long z53), (17, .int l17), (19, .int 1)]) rfl ?_
            refine wp1 rfl rfl ?_
            refine wp2b rfl rfl (fun c61 => ?_) (fun c61 => ?_)
            · refine wp1 rfl rfl ?_
              refine wp0 rfl rfl ?_
              refine wp0 rfl rfl ?_
              refine wp1 rfl rfl ?_
              refine wp2b rfl rfl (fun c62 => ?_) (fun c62 => ?_)
              · refine wp0 rfl rfl ?_
                refine wp0 rfl rfl ?_
                refine wpTl (fun z63 ez63 => ?_)
                refine wp1 rfl rfl ?_
                refine wpV (lv' := [(0, .ref 24), (1, .int l1), (7, .long l7), (9, .int l9), (10, .int l10), (11, .long l11), (13, .long z63), (15, .long z53), (17, .int l17)]) rfl ?_
                refine wp1 rfl rfl ?_
                refine wpV (lv' := [(0, .ref 24), (1, .int l1), (7, .long l7), (9, .int l9), (10, .int l10), (11, .long l11), (13, .long z63), (15, .long z53), (17, .int (l17 + (-1)))]) rfl ?_
                refine wp2 rfl rfl ?_
                exact wpL rfl rfl (ih hJ58 (RLt hR D57) (l1) (l7) (l9) (l10) (l11) (z63) (z53) ((l17 + (-1))) hb_l1 hb_l9 hb_l10 (i32_down c10 hm))
              · refine wp0 rfl rfl ?_
                refine wp2 rfl rfl ?_
                refine wp0 rfl rfl ?_
                refine wpTl (fun z64 ez64 => ?_)
                refine wp1 rfl rfl ?_
                refine wpV (lv' := [(0, .ref 24), (1, .int l1), (7, .long l7), (9, .int l9), (10, .int l10), (11, .long l11), (13, .long z64), (15, .long z53), (17, .int l17)]) rfl ?_
                refine wp1 rfl rfl ?_
                refine wpV (lv' := [(0, .ref 24), (1, .int l1), (7, .long l7), (9, .int l9), (10, .int l10), (11, .long l11), (13, .long z64), (15, .long z53), (17, .int (l17 + (-1)))]) rfl ?_
                refine wp2 rfl rfl ?_
                exact wpL rfl rfl (ih hJ58 (RLt hR D57) (l1) (l7) (l9) (l10) (l11) (z64) (z53) ((l17 + (-1))) hb_l1 hb_l9 hb_l10 (i32_down c10 hm))
            · refine wp1 rfl rfl ?_
              refine wp1 rfl rfl ?_
              refine wp0 rfl rfl ?_
              refine wpTl (fun z65 ez65 => ?_)
              refine wp1 rfl rfl ?_
              refine wpV (lv' := [(0, .ref 24), (1, .int l1), (7, .long l7), (9, .int l9), (10, .int l10), (11, .long l11), (13, .long l13), (15, .long z65), (17, .int l17), (19, .int 1)]) rfl ?_
              refine wp1 rfl rfl ?_
              refine wp0 rfl rfl ?_
              refine wp0 rfl rfl ?_
              refine wp1 rfl rfl ?_
              refine wp2b rfl rfl (fun c66 => ?_) (fun c66 => ?_)
              · refine wp0 rfl rfl ?_
                refine wp0 rfl rfl ?_
                refine wpTl (fun z67 ez67 => ?_)
                refine wp1 rfl rfl ?_
                refine wpV (lv' := [(0, .ref 24), (1, .int l1), (7, .long l7), (9, .int l9), (10, .int l10), (11, .long l11), (13, .long z67), (15, .long z65), (17, .int l17)]) rfl ?_
                refine wp1 rfl rfl ?_
                refine wpV (lv' := [(0, .ref 24), (1, .int l1), (7, .long l7), (9, .int l9), (10, .int l10), (11, .long l11), (13, .long z67), (15, .long z65), (17, .int (l17 + (-1)))]) rfl ?_
                refine wp2 rfl rfl ?_
                exact wpL rfl rfl (ih hJ58 (RLt hR D57) (l1) (l7) (l9) (l10) (l11) (z67) (z65) ((l17 + (-1))) hb_l1 hb_l9 hb_l10 (i32_down c10 hm))
              · refine wp0 rfl rfl ?_
                refine wp2 rfl rfl ?_
                refine wp0 rfl rfl ?_
                refine wpTl (fun z68 ez68 => ?_)
                refine wp1 rfl rfl ?_
                refine wpV (lv' := [(0, .ref 24), (1, .int l1), (7, .long l7), (9, .int l9), (10, .int l10), (11, .long l11), (13, .long z68), (15, .long z65), (17, .int l17)]) rfl ?_
                refine wp1 rfl rfl ?_
                refine wpV (lv' := [(0, .ref 24), (1, .int l1), (7, .long l7), (9, .int l9), (10, .int l10), (11, .long l11), (13, .long z68), (15, .long z65), (17, .int (l17 + (-1)))]) rfl ?_
                refine wp2 rfl rfl ?_
                exact wpL rfl rfl (ih hJ58 (RLt hR D57) (l1) (l7) (l9) (l10) (l11) (z68) (z65) ((l17 + (-1))) hb_l1 hb_l9 hb_l10 (i32_down c10 hm))
          · refine wp0 rfl rfl ?_
            refine wp1 rfl rfl ?_
            refine wpV (lv' := [(0, .ref 24), (1, .int l1), (7, .long l7), (9, .int l9), (10, .int l10), (11, .long l11), (13, .long l13), (15, .long z53), (17, .int l17), (19, .int 0)]) rfl ?_
            refine wp1 rfl rfl ?_
            refine wp2b rfl rfl (fun c69 => ?_) (fun c69 => ?_)
            · refine wp1 rfl rfl ?_
              refine wp0 rfl rfl ?_
              refine wp0 rfl rfl ?_
              refine wp1 rfl rfl ?_
              refine wp2b rfl rfl (fun c70 => ?_) (fun c70 => ?_)
              · refine wp0 rfl rfl ?_
                refine wp0 rfl rfl ?_
                refine wpTl (fun z71 ez71 => ?_)
                refine wp1 rfl rfl ?_
                refine wpV (lv' := [(0, .ref 24), (1, .int l1), (7, .long l7), (9, .int l9), (10, .int l10), (11, .long l11), (13, .long z71), (15, .long z53), (17, .int l17)]) rfl ?_
                refine wp1 rfl rfl ?_
                refine wpV (lv' := [(0, .ref 24), (1, .int l1), (7, .long l7), (9, .int l9), (10, .int l10), (11, .long l11), (13, .long z71), (15, .long z53), (17, .int (l17 + (-1)))]) rfl ?_
                refine wp2 rfl rfl ?_
                exact wpL rfl rfl (ih hJ58 (RLt hR D57) (l1) (l7) (l9) (l10) (l11) (z71) (z53) ((l17 + (-1))) hb_l1 hb_l9 hb_l10 (i32_down c10 hm))
              · refine wp0 rfl rfl ?_
                refine wp2 rfl rfl ?_
                refine wp0 rfl rfl ?_
                refine wpTl (fun z72 ez72 => ?_)
                refine wp1 rfl rfl ?_
                refine wpV (lv' := [(0, .ref 24), (1, .int l1), (7, .long l7), (9, .int l9), (10, .int l10), (11, .long l11), (13, .long z72), (15, .long z53), (17, .int l17)]) rfl ?_
                refine wp1 rfl rfl ?_
                refine wpV (lv' := [(0, .ref 24), (1, .int l1), (7, .long l7), (9, .int l9), (10, .int l10), (11, .long l11), (13, .long z72), (15, .long z53), (17, .int (l17 + (-1)))]) rfl ?_
                refine wp2 rfl rfl ?_
                exact wpL rfl rfl (ih hJ58 (RLt hR D57) (l1) (l7) (l9) (l10) (l11) (z72) (z53) ((l17 + (-1))) hb_l1 hb_l9 hb_l10 (i32_down c10 hm))
            · refine wp1 rfl rfl ?_
              refine wp1 rfl rfl ?_
              refine wp0 rfl rfl ?_
              refine wpTl (fun z73 ez73 => ?_)
              refine wp1 rfl rfl ?_
              refine wpV (lv' := [(0, .ref 24), (1, .int l1), (7, .long l7), (9, .int l9), (10, .int l10), (11, .long l11), (13, .long l13), (15, .long z73), (17, .int l17), (19, .int 0)]) rfl ?_
              refine wp1 rfl rfl ?_
              refine wp0 rfl rfl ?_
              refine wp0 rfl rfl ?_
              refine wp1 rfl rfl ?_
              refine wp2b rfl rfl (fun c74 => ?_) (fun c74 => ?_)
              · refine wp0 rfl rfl ?_
                refine wp0 rfl rfl ?_
                refine wpTl (fun z75 ez75 => ?_)
                refine wp1 rfl rfl ?_
                refine wpV (lv' := [(0, .ref 24), (1, .int l1), (7, .long l7), (9, .int l9), (10, .int l10), (11, .long l11), (13, .long z75), (15, .long z73), (17, .int l17)]) rfl ?_
                refine wp1 rfl rfl ?_
                refine wpV (lv' := [(0, .ref 24), (1, .int l1), (7, .long l7), (9, .int l9), (10, .int l10), (11, .long l11), (13, .long z75), (15, .long z73), (17, .int (l17 + (-1)))]) rfl ?_
                refine wp2 rfl rfl ?_
                exact wpL rfl rfl (ih hJ58 (RLt hR D57) (l1) (l7) (l9) (l10) (l11) (z75) (z73) ((l17 + (-1))) hb_l1 hb_l9 hb_l10 (i32_down c10 hm))
              · refine wp0 rfl rfl ?_
                refine wp2 rfl rfl ?_
                refine wp0 rfl rfl ?_
                refine wpTl (fun z76 ez76 => ?_)
                refine wp1 rfl rfl ?_
                refine wpV (lv' := [(0, .ref 24), (1, .int l1), (7, .long l7), (9, .int l9), (10, .int l10), (11, .long l11), (13, .long z76), (15, .long z73), (17, .int l17)]) rfl ?_
                refine wp1 rfl rfl ?_
                refine wpV (lv' := [(0, .ref 24), (1, .int l1), (7, .long l7), (9, .int l9), (10, .int l10), (11, .long l11), (13, .long z76), (15, .long z73), (17, .int (l17 + (-1)))]) rfl ?_
                refine wp2 rfl rfl ?_
                exact wpL rfl rfl (ih hJ58 (RLt hR D57) (l1) (l7) (l9) (l10) (l11) (z76) (z73) ((l17 + (-1))) hb_l1 hb_l9 hb_l10 (i32_down c10 hm))
        · refine wp0 rfl rfl ?_
          refine wp2 rfl rfl ?_
          refine wp1 rfl rfl ?_
          refine wpV (lv' := [(0, .ref 24), (1, .int l1), (7, .long l7), (9, .int l9), (10, .int l10), (11, .long l11), (13, .long l13), (15, .long z53), (17, .int l17), (19, .int 1)]) rfl ?_
          refine wp1 rfl rfl ?_
          refine wp2b rfl rfl (fun c77 => ?_) (fun c77 => ?_)
          · refine wp1 rfl rfl ?_
            refine wp0 rfl rfl ?_
            refine wp0 rfl rfl ?_
            refine wp1 rfl rfl ?_
            refine wp2b rfl rfl (fun c78 => ?_) (fun c78 => ?_)
            · refine wp0 rfl rfl ?_
              refine wp0 rfl rfl ?_
              refine wpTl (fun z79 ez79 => ?_)
              refine wp1 rfl rfl ?_
              refine wpV (lv' := [(0, .ref 24), (1, .int l1), (7, .long l7), (9, .int l9), (10, .int l10), (11, .long l11), (13, .long z79), (15, .long z53), (17, .int l17)]) rfl ?_
              refine wp1 rfl rfl ?_
              refine wpV (lv' := [(0, .ref 24), (1, .int l1), (7, .long l7), (9, .int l9), (10, .int l10), (11, .long l11), (13, .long z79), (15, .long z53), (17, .int (l17 + (-1)))]) rfl ?_
              refine wp2 rfl rfl ?_
              exact wpL rfl rfl (ih hJ hR (l1) (l7) (l9) (l10) (l11) (z79) (z53) ((l17 + (-1))) hb_l1 hb_l9 hb_l10 (i32_down c10 hm))
            · refine wp0 rfl rfl ?_
              refine wp2 rfl rfl ?_
              refine wp0 rfl rfl ?_
              refine wpTl (fun z80 ez80 => ?_)
              refine wp1 rfl rfl ?_
              refine wpV (lv' := [(0, .ref 24), (1, .int l1), (7, .long l7), (9, .int l9), (10, .int l10), (11, .long l11), (13, .long z80), (15, .long z53), (17, .int l17)]) rfl ?_
              refine wp1 rfl rfl ?_
              refine wpV (lv' := [(0, .ref 24), (1, .int l1), (7, .long l7), (9, .int l9), (10, .int l10), (11, .long l11), (13, .long z80), (15, .long z53), (17, .int (l17 + (-1)))]) rfl ?_
              refine wp2 rfl rfl ?_
              exact wpL rfl rfl (ih hJ hR (l1) (l7) (l9) (l10) (l11) (z80) (z53) ((l17 + (-1))) hb_l1 hb_l9 hb_l10 (i32_down c10 hm))
          · refine wp1 rfl rfl ?_
            refine wp1 rfl rfl ?_
            refine wp0 rfl rfl ?_
            refine wpTl (fun z81 ez81 => ?_)
            refine wp1 rfl rfl ?_
            refine wpV (lv' := [(0, .ref 24), (1, .int l1), (7, .long l7), (9, .int l9), (10, .int l10), (11, .long l11), (13, .long l13), (15, .long z81), (17, .int l17), (19, .int 1)]) rfl ?_
            refine wp1 rfl rfl ?_
            refine wp0 rfl rfl ?_
            refine wp0 rfl rfl ?_
            refine wp1 rfl rfl ?_
            refine wp2b rfl rfl (fun c82 => ?_) (fun c82 => ?_)
            · refine wp0 rfl rfl ?_
              refine wp0 rfl rfl ?_
              refine wpTl (fun z83 ez83 => ?_)
              refine wp1 rfl rfl ?_
              refine wpV (lv' := [(0, .ref 24), (1, .int l1), (7, .long l7), (9, .int l9), (10, .int l10), (11, .long l11), (13, .long z83), (15, .long z81), (17, .int l17)]) rfl ?_
              refine wp1 rfl rfl ?_
              refine wpV (lv' := [(0, .ref 24), (1, .int l1), (7, .long l7), (9, .int l9), (10, .int l10), (11, .long l11), (13, .long z83), (15, .long z81), (17, .int (l17 + (-1)))]) rfl ?_
              refine wp2 rfl rfl ?_
              exact wpL rfl rfl (ih hJ hR (l1) (l7) (l9) (l10) (l11) (z83) (z81) ((l17 + (-1))) hb_l1 hb_l9 hb_l10 (i32_down c10 hm))
            · refine wp0 rfl rfl ?_
              refine wp2 rfl rfl ?_
              refine wp0 rfl rfl ?_
              refine wpTl (fun z84 ez84 => ?_)
              refine wp1 rfl rfl ?_
              refine wpV (lv' := [(0, .ref 24), (1, .int l1), (7, .long l7), (9, .int l9), (10, .int l10), (11, .long l11), (13, .long z84), (15, .long z81), (17, .int l17)]) rfl ?_
              refine wp1 rfl rfl ?_
              refine wpV (lv' := [(0, .ref 24), (1, .int l1), (7, .long l7), (9, .int l9), (10, .int l10), (11, .long l11), (13, .long z84), (15, .long z81), (17, .int (l17 + (-1)))]) rfl ?_
              refine wp2 rfl rfl ?_
              exact wpL rfl rfl (ih hJ hR (l1) (l7) (l9) (l10) (l11) (z84) (z81) ((l17 + (-1))) hb_l1 hb_l9 hb_l10 (i32_down c10 hm))
set_option maxRecDepth 20000 in
theorem sb_136_156 {m m0 : ms} (hJ : K m) (hR : RL 2 m0 m) (l1 : Int32) (l5 : Int64) (l7 : Int64) (l9 : Int32) (l10 : Int32) (k0 : Int64) (hb_l1 : b01 l1) (hb_l9 : b01 l9) (hb_l10 : b01 l10)  : tb_wp L xs 136 156 [(0, .ref 24), (1, .int l1), (5, .long l5), (7, .long l7), (9, .int l9), (10, .int l10)] [.long k0] (HH s (MC m) D) (NV 2 m0 s D) := by
  refine wp1 rfl rfl ?_
  refine wpV (lv' := [(0, .ref 24), (1, .int l1), (5, .long l5), (7, .long l7), (9, .int l9), (10, .int l10), (11, .long k0)]) rfl ?_
  refine wp1 rfl rfl ?_
  refine wp1 rfl rfl ?_
  refine wp4 rfl rfl (mf_131 hJ (l5) (k0)) (fun rv h1 hq => ?_)
  obtain ⟨s86, hJ88, D87, rfl, x89, rfl, hb_x89⟩ := hq
  refine wp2b rfl rfl (fun c90 => ?_) (fun c90 => ?_)
  · refine wp1 rfl rfl ?_
    refine wp0 rfl rfl ?_
    refine wp0 rfl rfl ?_
    refine wp4 rfl rfl (mf_183 hJ88 (5) (0)) (fun rv h1 hq => ?_)
    obtain ⟨s92, hJ94, D93, rfl, rfl⟩ := hq
    exact wp5 rfl rfl ⟨_, hJ94, (RLt (RLt hR D87) D93), rfl, rfl⟩
  · refine wp0 rfl rfl ?_
    refine wp1 rfl rfl ?_
    refine wpV (lv' := [(0, .ref 24), (1, .int l1), (5, .long l5), (7, .long l7), (9, .int l9), (10, .int l10), (11, .long k0), (13, .long 0)]) rfl ?_
    refine wp1 rfl rfl ?_
    refine wp1 rfl rfl ?_
    refine wpV (lv' := [(0, .ref 24), (1, .int l1), (5, .long l5), (7, .long l7), (9, .int l9), (10, .int l10), (11, .long k0), (13, .long 0), (15, .long l5)]) rfl ?_
    refine wp0 rfl rfl ?_
    refine wp1 rfl rfl ?_
    refine wpV (lv' := [(0, .ref 24), (1, .int l1), (5, .long l5), (7, .long l7), (9, .int l9), (10, .int l10), (11, .long k0), (13, .long 0), (15, .long l5), (17, .int 63)]) rfl ?_
    exact wpL rfl rfl (sb_136_186 _ hJ88 (RLt hR D87) (l1) (l7) (l9) (l10) (k0) (0) (l5) (63) hb_l1 hb_l9 hb_l10 (Nat.lt_succ_self _))
set_option maxRecDepth 20000 in
theorem sb_136_155 {m m0 : ms} (hJ : K m) (hR : RL 2 m0 m) (l1 : Int32) (l3 : Int64) (l5 : Int64) (l7 : Int64) (l9 : Int32) (l10 : Int32) (hb_l1 : b01 l1) (hb_l9 : b01 l9) (hb_l10 : b01 l10)  : tb_wp L xs 136 155 [(0, .ref 24), (1, .int l1), (3, .long l3), (5, .long l5), (7, .long l7), (9, .int l9), (10, .int l10)] [] (HH s (MC m) D) (NV 2 m0 s D) := by
  refine wp1 rfl rfl ?_
  exact wpL rfl rfl (sb_136_156 hJ hR (l1) (l5) (l7) (l9) (l10) (l3) hb_l1 hb_l9 hb_l10)
set_option maxRecDepth 20000 in
theorem sb_136_140 {m m0 : ms} (hJ : K m) (hR : RL 2 m0 m) (l1 : Int32) (l3 : Int64) (l5 : Int64) (l7 : Int64) (l9 : Int32) (l10 : Int32) (hb_l1 : b01 l1) (hb_l9 : b01 l9) (hb_l10 : b01 l10)  : tb_wp L xs 136 140 [(0, .ref 24), (1, .int l1), (3, .long l3), (5, .long l5), (7, .long l7), (9, .int l9), (10, .int l10)] [] (HH s (MC m) D) (NV 2 m0 s D) := by
  refine wp1 rfl rfl ?_
  refine wp2b rfl rfl (fun c96 => ?_) (fun c96 => ?_)
  · exact wpL rfl rfl (sb_136_155 hJ hR (l1) (l3) (l5) (l7) (l9) (l10) hb_l1 hb_l9 hb_l10)
  · refine wp1 rfl rfl ?_
    refine wp0 rfl rfl ?_
    refine wp0 rfl rfl ?_
    refine wp2b rfl rfl (fun c97 => ?_) (fun c97 => ?_)
    · exact wpL rfl rfl (sb_136_155 hJ hR (l1) (l3) (l5) (l7) (l9) (l10) hb_l1 hb_l9 hb_l10)
    · refine wp1 rfl rfl ?_
      refine wp0 rfl rfl ?_
      refine wp2 rfl rfl ?_
      exact wpL rfl rfl (sb_136_156 hJ hR (l1) (l5) (l7) (l9) (l10) ((-l3)) hb_l1 hb_l9 hb_l10)
set_option maxRecDepth 20000 in
theorem sb_136_137 {m m0 : ms} (hJ : K m) (hR : RL 2 m0 m) (l1 : Int32) (l3 : Int64) (l7 : Int64) (l9 : Int32) (l10 : Int32) (k0 : Int64) (k1 : Int64) (hb_l1 : b01 l1) (hb_l9 : b01 l9) (hb_l10 : b01 l10)  : tb_wp L xs 136 137 [(0, .ref 24), (1, .int l1), (3, .long l3), (7, .long l7), (9, .int l9), (10, .int l10)] [.long k1, .long k0] (HH s (MC m) D) (NV 2 m0 s D) := by
  refine wp0 rfl rfl ?_
  refine wpTl (fun z98 ez98 => ?_)
  refine wp1 rfl rfl ?_
  refine wpV (lv' := [(0, .ref 24), (1, .int l1), (3, .long l3), (5, .long z98), (7, .long l7), (9, .int l9), (10, .int l10)]) rfl ?_
  exact wpL rfl rfl (sb_136_140 hJ hR (l1) (l3) (z98) (l7) (l9) (l10) hb_l1 hb_l9 hb_l10)
set_option maxRecDepth 20000 in
theorem sb_136_107 {m m0 : ms} (hJ : K m) (hR : RL 2 m0 m) (l1 : Int32) (l3 : Int64) (l5 : Int64) (l7 : Int64) (l9 : Int32) (k0 : Int32) (hb_l1 : b01 l1) (hb_l9 : b01 l9) (hb_k0 : b01 k0)  : tb_wp L xs 136 107 [(0, .ref 24), (1, .int l1), (3, .long l3), (5, .long l5), (7, .long l7), (9, .int l9)] [.int k0] (HH s (MC m) D) (NV 2 m0 s D) := by
  refine wp1 rfl rfl ?_
  refine wpV (lv' := [(0, .ref 24), (1, .int l1), (3, .long l3), (5, .long l5), (7, .long l7), (9, .int l9), (10, .int k0)]) rfl ?_
  refine wp1 rfl rfl ?_
  refine wp2b rfl rfl (fun c99 => ?_) (fun c99 => ?_)
  · exact wpL rfl rfl (sb_136_140 hJ hR (l1) (l3) (l5) (l7) (l9) (k0) hb_l1 hb_l9 hb_k0)
  · refine wp1 rfl rfl ?_
    refine wp0 rfl rfl ?_
    refine wp1 rfl rfl ?_
    refine wpV (lv' := [(0, .ref 24), (1, .int l1), (3, .long l3), (5, .long l5), (7, .long (-l7)), (9, .int l9), (10, .int k0)]) rfl ?_
    refine wp1 rfl rfl ?_
    refine wp0 rfl rfl ?_
    refine wp0 rfl rfl ?_
    refine wp1 rfl rfl ?_
    refine wp0 rfl rfl ?_
    refine wp0 rfl rfl ?_
    refine wp2b rfl rfl (fun c100 => ?_) (fun c100 => ?_)
    · refine wp0 rfl rfl ?_
      refine wp2 rfl rfl ?_
      exact wpL rfl rfl (sb_136_137 hJ hR (l1) (l3) ((-l7)) (l9) (k0) ((l5 ^^^ (-1))) (1) hb_l1 hb_l9 hb_k0)
    · refine wp0 rfl rfl ?_
      exact wpL rfl rfl (sb_136_137 hJ hR (l1) (l3) ((-l7)) (l9) (k0) ((l5 ^^^ (-1))) (0) hb_l1 hb_l9 hb_k0)
set_option maxRecDepth 20000 in
theorem sb_136_106 {m m0 : ms} (hJ : K m) (hR : RL 2 m0 m) (l1 : Int32) (l3 : Int64) (l5 : Int64) (l7 : Int64) (l9 : Int32) (hb_l1 : b01 l1) (hb_l9 : b01 l9)  : tb_wp L xs 136 106 [(0, .ref 24), (1, .int l1), (3, .long l3), (5, .long l5), (7, .long l7), (9, .int l9)] [] (HH s (MC m) D) (NV 2 m0 s D) := by
  refine wp0 rfl rfl ?_
  exact wpL rfl rfl (sb_136_107 hJ hR (l1) (l3) (l5) (l7) (l9) (0) hb_l1 hb_l9 b0)
set_option maxRecDepth 20000 in
theorem sb_136_99 {m m0 : ms} (hJ : K m) (hR : RL 2 m0 m) (l1 : Int32) (l3 : Int64) (l5 : Int64) (l7 : Int64) (l9 : Int32) (k0 : Int32) (k1 : Int32) (hb_l1 : b01 l1) (hb_l9 : b01 l9) (hb_k0 : b01 k0) (hb_k1 : b01 k1)  : tb_wp L xs 136 99 [(0, .ref 24), (1, .int l1), (3, .long l3), (5, .long l5), (7, .long l7), (9, .int l9)] [.int k1, .int k0] (HH s (MC m) D) (NV 2 m0 s D) := by
  refine wp2b rfl rfl (fun c101 => ?_) (fun c101 => ?_)
  · exact wpL rfl rfl (sb_136_106 hJ hR (l1) (l3) (l5) (l7) (l9) hb_l1 hb_l9)
  · refine wp0 rfl rfl ?_
    refine wp2 rfl rfl ?_
    exact wpL rfl rfl (sb_136_107 hJ hR (l1) (l3) (l5) (l7) (l9) (1) hb_l1 hb_l9 b1)
set_option maxRecDepth 20000 in
theorem sb_136_80 {m m0 : ms} (hJ : K m) (hR : RL 2 m0 m) (l1 : Int32) (l3 : Int64) (l5 : Int64) (l7 : Int64) (k0 : Int32) (hb_l1 : b01 l1) (hb_k0 : b01 k0)  : tb_wp L xs 136 80 [(0, .ref 24), (1, .int l1), (3, .long l3), (5, .long l5), (7, .long l7)] [.int k0] (HH s (MC m) D) (NV 2 m0 s D) := by
  refine wp1 rfl rfl ?_
  refine wpV (lv' := [(0, .ref 24), (1, .int l1), (3, .long l3), (5, .long l5), (7, .long l7), (9, .int k0)]) rfl ?_
  refine wp1 rfl rfl ?_
  refine wp2b rfl rfl (fun c102 => ?_) (fun c102 => ?_)
  · exact wpL rfl rfl (sb_136_106 hJ hR (l1) (l3) (l5) (l7) (k0) hb_l1 hb_k0)
  · refine wp1 rfl rfl ?_
    refine wp1 rfl rfl ?_
    refine wp0 rfl rfl ?_
    refine wp0 rfl rfl ?_
    refine wp2b rfl rfl (fun c103 => ?_) (fun c103 => ?_)
    · refine wp0 rfl rfl ?_
      exact wpL rfl rfl (sb_136_99 hJ hR (l1) (l3) (l5) (l7) (k0) (k0) (0) hb_l1 hb_k0 hb_k0 b0)
    · refine wp0 rfl rfl ?_
      refine wp2 rfl rfl ?_
      exact wpL rfl rfl (sb_136_99 hJ hR (l1) (l3) (l5) (l7) (k0) (k0) (1) hb_l1 hb_k0 hb_k0 b1)
set_option maxRecDepth 20000 in
theorem sb_136_79 {m m0 : ms} (hJ : K m) (hR : RL 2 m0 m) (l1 : Int32) (l3 : Int64) (l5 : Int64) (l7 : Int64) (hb_l1 : b01 l1)  : tb_wp L xs 136 79 [(0, .ref 24), (1, .int l1), (3, .long l3), (5, .long l5), (7, .long l7)] [] (HH s (MC m) D) (NV 2 m0 s D) := by
  refine wp0 rfl rfl ?_
  exact wpL rfl rfl (sb_136_80 hJ hR (l1) (l3) (l5) (l7) (0) hb_l1 b0)
set_option maxRecDepth 20000 in
theorem sb_136_48 {m m0 : ms} (hJ : K m) (hR : RL 2 m0 m) (l1 : Int32) (l2 : Int32) (l3 : Int64) (hb_l1 : b01 l1)  : tb_wp L xs 136 48 [(0, .ref 24), (1, .int l1), (2, .int l2), (3, .long l3)] [] (HH s (MC m) D) (NV 2 m0 s D) := by
  refine wp1 rfl rfl ?_
  refine wp3 rfl (am_getf rfl rfl) ?_
  refine wp0 rfl rfl ?_
  refine wp3 rfl (am_lald rfl (by decide)) ?_
  refine wpTl (fun z104 ez104 => ?_)
  refine wp1 rfl rfl ?_
  refine wpV (lv' := [(0, .ref 24), (1, .int l1), (2, .int l2), (3, .long l3), (5, .long z104)]) rfl ?_
  refine wp1 rfl rfl ?_
  refine wp3 rfl (am_getf rfl rfl) ?_
  refine wp0 rfl rfl ?_
  refine wp3 rfl (am_lald rfl (by decide)) ?_
  refine wpTl (fun z105 ez105 => ?_)
  refine wp1 rfl rfl ?_
  refine wpV (lv' := [(0, .ref 24), (1, .int l1), (2, .int l2), (3, .long l3), (5, .long z104), (7, .long z105)]) rfl ?_
  refine wp1 rfl rfl ?_
  refine wp2b rfl rfl (fun c106 => ?_) (fun c106 => ?_)
  · exact wpL rfl rfl (sb_136_79 hJ hR (l1) (l3) (z104) (z105) hb_l1)
  · refine wp1 rfl rfl ?_
    refine wp0 rfl rfl ?_
    refine wp0 rfl rfl ?_
    refine wp2b rfl rfl (fun c107 => ?_) (fun c107 => ?_)
    · exact wpL rfl rfl (sb_136_79 hJ hR (l1) (l3) (z104) (z105) hb_l1)
    · refine wp0 rfl rfl ?_
      refine wp2 rfl rfl ?_
      exact wpL rfl rfl (sb_136_80 hJ hR (l1) (l3) (z104) (z105) (1) hb_l1 b1)
end SM7
section DIVIDE
variable {L : Nat} {xs : Nat → Int32} {s : cs} {D : List pgT}
theorem NV_tr {m0 m : ms} (hR : RL 2 m0 m) : ∀ v h, NV 2 m s D v h → NV 2 m0 s D v h := fun v h q => by
  obtain ⟨m2, h1, h2, h3, h4⟩ := q
  exact ⟨m2, h1, RLt hR h2, h3, h4⟩
set_option maxRecDepth 20000 in
theorem dv_26 {m m0 : ms} (hJ : K m) (hR : RL 2 m0 m) (b z : Int32) (x : Int64) (hb : b01 b) (hv : okV z x) (hz : z = 1 ∨ z = 4 ∨ z = 8) (hx : q_halt m ≠ 0 ∨ x ≠ 0) : tb_wp L xs 136 26 [(0, .ref 24), (1, .int b), (2, .int z), (3, .long x)] [] (HH s (MC m) D) (NV 2 m0 s D) := by
  refine wp1 rfl rfl ?_
  refine wp3 rfl (am_getf rfl rfl) ?_
  refine wp2b rfl rfl (fun c1 => ?_) (fun c1 => ?_)
  · have hx2 : x ≠ 0 := by
      rcases hx with h | h
      · exact absurd c1 h
      · exact h
    refine wp1 rfl rfl ?_
    refine wp0 rfl rfl ?_
    refine wp2b rfl rfl (fun c2 => ?_) (fun c2 => ?_)
    · exact wpL rfl rfl (sb_136_48 hJ hR b z x hb)
    · have hz2 : z = 1 ∨ z = 4 := by
        rcases hz with h | h | h
        · exact Or.inl h
        · exact Or.inr h
        · exact absurd (by rw [h]; decide) c2
      refine wp1 rfl rfl ?_
      refine wp1 rfl rfl ?_
      refine wp1 rfl rfl ?_
      refine wp1 rfl rfl ?_
      refine wp4 rfl rfl (mf_137 hJ b z x hb ⟨hx2, sgF_ne hz2 hv hx2⟩) (fun rv h1 hq => ?_)
      obtain ⟨m2, hJ2, hR2, rfl, rfl⟩ := hq
      exact wp5 rfl rfl ⟨_, hJ2, RLt hR hR2, rfl, rfl⟩
  · exact wp5 rfl rfl ⟨_, hJ, hR, rfl, rfl⟩
set_option maxRecDepth 20000 in
theorem mf_136 {m : ms} (hJ : K m) (b z : Int32) (hb : b01 b) (hz : z = 1 ∨ z = 4 ∨ z = 8) : tb_wp L xs 136 0 (lv_args 0 [.ref 24, .int b, .int z]) [] (HH s (MC m) D) (NV 2 m s D) := by
  refine wp1 rfl rfl ?_
  refine wp0 rfl rfl ?_
  refine wp1 rfl rfl ?_
  refine wp4 rfl rfl (ml_take hJ 0 z (by decide)) (fun rv h1 hq => ?_)
  obtain ⟨m2, hJ2, hR2, rfl, x, rfl, hv⟩ := hq
  refine wp1 rfl rfl ?_
  refine wpV (lv' := [(0, .ref 24), (1, .int b), (2, .int z), (3, .long x)]) rfl ?_
  refine wp1 rfl rfl ?_
  refine wp3 rfl (am_getf rfl rfl) ?_
  refine wp2b rfl rfl (fun c1 => ?_) (fun c1 => ?_)
  · refine wp1 rfl rfl ?_
    refine wp0 rfl rfl ?_
    refine wp0 rfl rfl ?_
    refine wp2b rfl rfl (fun c2 => ?_) (fun c2 => ?_)
    · refine wp1 rfl rfl ?_
      refine wp0 rfl rfl ?_
      refine wp0 rfl rfl ?_
      refine wp4 rfl rfl (pl_stop hJ2 5 0 (by decide)) (fun rv h1 hq => ?_)
      obtain ⟨m3, hJ3, hR3, hh, rfl, rfl⟩ := hq
      exact wpL rfl rfl (dv_26 hJ3 (RLt hR2 hR3) b z x hb hv hz (Or.inl hh))
    · exact wpL rfl rfl (dv_26 hJ2 hR2 b z x hb hv hz (Or.inr (fun e => c2 ((lg_cmp_eq _ _).mpr e))))
  · exact wpL rfl rfl (dv_26 hJ2 hR2 b z x hb hv hz (Or.inl c1))
end DIVIDE

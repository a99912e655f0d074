/-! perform and step of the model: what a sound instruction gives -/
def SPf (f : ms_fr) : Prop := ((f.2.2.2.2.2.2.2.2.2.1 0 = 2 ∨ f.2.2.2.2.2.2.2.2.2.1 1 = 2 ∨ f.2.2.2.2.2.2.2.2.2.1 2 = 2) → (f.2.2.2.2.1).toInt < 16) ∧ (f.1 = 11 → f.2.2.2.2.2.2.2.2.2.1 1 = 2) ∧ (f.1 = 19 ∨ f.1 = 20 → f.2.1 = 1 ∨ f.2.1 = 4 ∨ f.2.1 = 8)
theorem SPf_tr {t : Nat} {m0 m : ms} (hR : RL (t + 1) m0 m) (h : SPf m0.1) : SPf m.1 := by
  rw [hR.1 (by omega)]
  exact h
theorem op_19 {x z : Int32} (e : x = z) (ca : (19 : Int32) ≤ z) (cb : ¬ (21 : Int32) ≤ z) : x = 19 ∨ x = 20 := by
  subst e
  have g1 := Int32.le_iff_toInt_le.mp ca
  have g2 : ¬ (21 : Int32).toInt ≤ x.toInt := fun h => cb (Int32.le_iff_toInt_le.mpr h)
  have e1 : (19 : Int32).toInt = 19 := rfl
  have e2 : (20 : Int32).toInt = 20 := rfl
  have e3 : (21 : Int32).toInt = 21 := rfl
  have h : x.toInt = 19 ∨ x.toInt = 20 := by omega
  rcases h with h | h
  · exact Or.inl (Int32.toInt_inj.mp (h.trans e1.symm))
  · exact Or.inr (Int32.toInt_inj.mp (h.trans e2.symm))
theorem idx15 {x : Int32} (h : ¬ x.toInt < 16) : (15 : Int32) < x := by
  rw [Int32.lt_iff_toInt_lt]
  have e1 : (15 : Int32).toInt = 15 := rfl
  omega

section SM8
variable {L : Nat} {xs : Nat → Int32} {s : cs} {D : List pgT}
/- 164: perform -/
set_option maxRecDepth 20000 in
theorem sb_164_355 {m m0 : ms} (hJ : K m) (hR : RL 1 m0 m)   (hS : SPf m0.1) : tb_wp L xs 164 355 [] [] (HH s (MC m) D) (NV 1 m0 s D) := by
  exact wp5 rfl rfl ⟨_, hJ, hR, rfl, rfl⟩
set_option maxRecDepth 20000 in
theorem sb_164_334 {m m0 : ms} (hJ : K m) (hR : RL 1 m0 m) (l1 : Int32) (l2 : Int32)  (hS : SPf m0.1) : tb_wp L xs 164 334 [(0, .ref 24), (1, .int l1), (2, .int l2)] [] (HH s (MC m) D) (NV 1 m0 s D) := by
  refine wp1 rfl rfl ?_
  refine wp1 rfl rfl ?_
  refine wp1 rfl rfl ?_
  refine wp4 rfl rfl (mf_188 hJ (l1) (l2)) (fun rv h1 hq => ?_)
  obtain ⟨s2, hJ4, D3, rfl, rfl⟩ := hq
  refine wp2 rfl rfl ?_
  exact wpL rfl rfl (sb_164_355 hJ4 (RLt hR D3) hS)
set_option maxRecDepth 20000 in
theorem sb_164_322 {m m0 : ms} (hJ : K m) (hR : RL 1 m0 m) (l1 : Int32) (l2 : Int32)  (hS : SPf m0.1) : tb_wp L xs 164 322 [(0, .ref 24), (1, .int l1), (2, .int l2)] [] (HH s (MC m) D) (NV 1 m0 s D) := by
  refine wp1 rfl rfl ?_
  refine wp0 rfl rfl ?_
  refine wp2b rfl rfl (fun c6 => ?_) (fun c6 => ?_)
  · exact wpL rfl rfl (sb_164_334 hJ hR (l1) (l2) hS)
  · refine wp1 rfl rfl ?_
    refine wp0 rfl rfl ?_
    refine wp2b rfl rfl (fun c7 => ?_) (fun c7 => ?_)
    · exact wpL rfl rfl (sb_164_334 hJ hR (l1) (l2) hS)
    · refine wp1 rfl rfl ?_
      refine wp0 rfl rfl ?_
      refine wp2b rfl rfl (fun c8 => ?_) (fun c8 => ?_)
      · exact wpL rfl rfl (sb_164_355 hJ hR hS)
      · refine wp1 rfl rfl ?_
        refine wp1 rfl rfl ?_
        refine wp1 rfl rfl ?_
        refine wp4 rfl rfl (mf_185 hJ (l1) (l2)) (fun rv h1 hq => ?_)
        obtain ⟨s10, hJ12, D11, rfl, rfl⟩ := hq
        exact wpL rfl rfl (sb_164_355 hJ12 (RLt hR D11) hS)
set_option maxRecDepth 20000 in
theorem sb_164_191 {m m0 : ms} (hJ : K m) (hR : RL 1 m0 m) (k3 : Int64)  (hS : SPf m0.1) : tb_wp L xs 164 191 [] [.long k3, .int 1, .int 0, .ref 24] (HH s (MC m) D) (NV 1 m0 s D) := by
  refine wp4 rfl rfl (mf_169 hJ (0) (1) (k3) (by decide)) (fun rv h1 hq => ?_)
  obtain ⟨s15, hJ17, D16, rfl, rfl⟩ := hq
  refine wp2 rfl rfl ?_
  exact wpL rfl rfl (sb_164_355 hJ17 (RLt hR D16) hS)
set_option maxRecDepth 20000 in
theorem sb_164_91 {m m0 : ms} (hJ : K m) (hR : RL 1 m0 m) (l2 : Int32) (k1 : Int32) (hb_k1 : b01 k1) (hS : SPf m0.1) : tb_wp L xs 164 91 [(2, .int l2)] [.int k1, .ref 24] (HH s (MC m) D) (NV 1 m0 s D) := by
  refine wp1 rfl rfl ?_
  refine wp4 rfl rfl (mf_157 hJ (k1) (l2) hb_k1) (fun rv h1 hq => ?_)
  obtain ⟨s20, hJ22, D21, rfl, rfl⟩ := hq
  refine wp2 rfl rfl ?_
  exact wpL rfl rfl (sb_164_355 hJ22 (RLt hR D21) hS)
set_option maxRecDepth 20000 in
theorem sb_164_64 {m m0 : ms} (hJ : K m) (hR : RL 1 m0 m) (l1 : Int32) (l2 : Int32)  (hS : SPf m0.1) : tb_wp L xs 164 64 [(0, .ref 24), (1, .int l1), (2, .int l2)] [] (HH s (MC m) D) (NV 1 m0 s D) := by
  refine wp1 rfl rfl ?_
  refine wp1 rfl rfl ?_
  refine wp1 rfl rfl ?_
  refine wp4 rfl rfl (mf_179 hJ (l1) (l2)) (fun rv h1 hq => ?_)
  obtain ⟨s25, hJ27, D26, rfl, rfl⟩ := hq
  refine wp2 rfl rfl ?_
  exact wpL rfl rfl (sb_164_355 hJ27 (RLt hR D26) hS)
set_option maxRecDepth 20000 in
theorem sb_164_22 {m m0 : ms} (hJ : K m) (hR : RL 1 m0 m) (l1 : Int32) (l2 : Int32)  (hS : SPf m0.1) : tb_wp L xs 164 22 [(0, .ref 24), (1, .int l1), (2, .int l2)] [] (HH s (MC m) D) (NV 1 m0 s D) := by
  refine wp1 rfl rfl ?_
  refine wp1 rfl rfl ?_
  refine wp1 rfl rfl ?_
  refine wp4 rfl rfl (mf_129 hJ (l1) (l2)) (fun rv h1 hq => ?_)
  obtain ⟨s30, hJ32, D31, rfl, rfl⟩ := hq
  refine wp2 rfl rfl ?_
  exact wpL rfl rfl (sb_164_355 hJ32 (RLt hR D31) hS)
set_option maxRecDepth 20000 in
theorem sb_164_0 {m m0 : ms} (hJ : K m) (hR : RL 1 m0 m)   (hS : SPf m0.1) : tb_wp L xs 164 0 [(0, .ref 24)] [] (HH s (MC m) D) (NV 1 m0 s D) := by
  refine wp1 rfl rfl ?_
  refine wp3 rfl (am_getf rfl rfl) ?_
  refine wpTi (fun z34 ez34 => ?_)
  refine wp1 rfl rfl ?_
  refine wpV (lv' := [(0, .ref 24), (1, .int z34)]) rfl ?_
  refine wp1 rfl rfl ?_
  refine wp3 rfl (am_getf rfl rfl) ?_
  refine wpTi (fun z35 ez35 => ?_)
  refine wp1 rfl rfl ?_
  refine wpV (lv' := [(0, .ref 24), (1, .int z34), (2, .int z35)]) rfl ?_
  refine wp1 rfl rfl ?_
  refine wp0 rfl rfl ?_
  refine wp2b rfl rfl (fun c36 => ?_) (fun c36 => ?_)
  · exact wpL rfl rfl (sb_164_22 hJ hR (z34) (z35) hS)
  · refine wp1 rfl rfl ?_
    refine wp0 rfl rfl ?_
    refine wp2b rfl rfl (fun c37 => ?_) (fun c37 => ?_)
    · exact wpL rfl rfl (sb_164_22 hJ hR (z34) (z35) hS)
    · refine wp1 rfl rfl ?_
      refine wp0 rfl rfl ?_
      refine wp2b rfl rfl (fun c38 => ?_) (fun c38 => ?_)
      · refine wp1 rfl rfl ?_
        refine wp0 rfl rfl ?_
        refine wp2b rfl rfl (fun c39 => ?_) (fun c39 => ?_)
        · exact wpL rfl rfl (sb_164_64 hJ hR (z34) (z35) hS)
        · refine wp1 rfl rfl ?_
          refine wp0 rfl rfl ?_
          refine wp2b rfl rfl (fun c40 => ?_) (fun c40 => ?_)
          · exact wpL rfl rfl (sb_164_64 hJ hR (z34) (z35) hS)
          · refine wp1 rfl rfl ?_
            refine wp0 rfl rfl ?_
            refine wp2b rfl rfl (fun c41 => ?_) (fun c41 => ?_)
            · exact wpL rfl rfl (sb_164_64 hJ hR (z34) (z35) hS)
            · refine wp1 rfl rfl ?_
              refine wp0 rfl rfl ?_
              refine wp2b rfl rfl (fun c42 => ?_) (fun c42 => ?_)
              · refine wp1 rfl rfl ?_
                refine wp0 rfl rfl ?_
                refine wp2b rfl rfl (fun c43 => ?_) (fun c43 => ?_)
                · refine wp1 rfl rfl ?_
                  refine wp0 rfl rfl ?_
                  refine wp2b rfl rfl (fun c44 => ?_) (fun c44 => ?_)
                  · refine wp1 rfl rfl ?_
                    refine wp1 rfl rfl ?_
                    refine wp4 rfl rfl (mf_167 hJ (z35)) (fun rv h1 hq => ?_)
                    obtain ⟨s46, hJ48, D47, rfl, rfl⟩ := hq
                    refine wp2 rfl rfl ?_
                    exact wpL rfl rfl (sb_164_355 hJ48 (RLt hR D47) hS)
                  · refine wp1 rfl rfl ?_
                    refine wp0 rfl rfl ?_
                    refine wp2b rfl rfl (fun c50 => ?_) (fun c50 => ?_)
                    · refine wp1 rfl rfl ?_
                      refine wp0 rfl rfl ?_
                      refine wp2b rfl rfl (fun c51 => ?_) (fun c51 => ?_)
                      · refine wp1 rfl rfl ?_
                        refine wp0 rfl rfl ?_
                        refine wp2b rfl rfl (fun c52 => ?_) (fun c52 => ?_)
                        · refine wp1 rfl rfl ?_
                          refine wp0 rfl rfl ?_
                          refine wp0 rfl rfl ?_
                          refine wp1 rfl rfl ?_
                          refine wp1 rfl rfl ?_
                          refine wp3 rfl (am_getf rfl rfl) ?_
                          refine wp4 rfl rfl (mf_147 hJ ((q_condition m))) (fun rv h1 hq => ?_)
                          obtain ⟨s54, hJ56, D55, rfl, x57, rfl, hb_x57⟩ := hq
                          refine wp2b rfl rfl (fun c58 => ?_) (fun c58 => ?_)
                          · refine wp0 rfl rfl ?_
                            exact wpL rfl rfl (sb_164_191 hJ56 (RLt hR D55) (0) hS)
                          · refine wp0 rfl rfl ?_
                            refine wp2 rfl rfl ?_
                            exact wpL rfl rfl (sb_164_191 hJ56 (RLt hR D55) (1) hS)
                        · refine wp1 rfl rfl ?_
                          refine wp0 rfl rfl ?_
                          refine wp2b rfl rfl (fun c59 => ?_) (fun c59 => ?_)
                          · refine wp1 rfl rfl ?_
                            refine wp1 rfl rfl ?_
                            refine wp4 rfl rfl (mf_134 hJ (z35)) (fun rv h1 hq => ?_)
                            obtain ⟨s61, hJ63, D62, rfl, rfl⟩ := hq
                            refine wp2 rfl rfl ?_
                            exact wpL rfl rfl (sb_164_355 hJ63 (RLt hR D62) hS)
                          · refine wp1 rfl rfl ?_
                            refine wp0 rfl rfl ?_
                            refine wp2b rfl rfl (fun c65 => ?_) (fun c65 => ?_)
                            · refine wp1 rfl rfl ?_
                              refine wp0 rfl rfl ?_
                              refine wp2b rfl rfl (fun c66 => ?_) (fun c66 => ?_)
                              · refine wp1 rfl rfl ?_
                                refine wp0 rfl rfl ?_
                                refine wp0 rfl rfl ?_
                                refine wp4 rfl rfl (mf_183 hJ (6) (0)) (fun rv h1 hq => ?_)
                                obtain ⟨s68, hJ70, D69, rfl, rfl⟩ := hq
                                refine wp2 rfl rfl ?_
                                exact wpL rfl rfl (sb_164_355 hJ70 (RLt hR D69) hS)
                              · refine wp1 rfl rfl ?_
                                refine wp0 rfl rfl ?_
                                refine wp2b rfl rfl (fun c72 => ?_) (fun c72 => ?_)
                                · refine wp1 rfl rfl ?_
                                  refine wp0 rfl rfl ?_
                                  refine wp0 rfl rfl ?_
                                  refine wp4 rfl rfl (mf_183 hJ (2) (0)) (fun rv h1 hq => ?_)
                                  obtain ⟨s74, hJ76, D75, rfl, rfl⟩ := hq
                                  refine wp2 rfl rfl ?_
                                  exact wpL rfl rfl (sb_164_355 hJ76 (RLt hR D75) hS)
                                · refine wp1 rfl rfl ?_
                                  refine wp0 rfl rfl ?_
                                  refine wp2b rfl rfl (fun c78 => ?_) (fun c78 => ?_)
                                  · refine wp1 rfl rfl ?_
                                    refine wp4 rfl rfl (mf_172 hJ ) (fun rv h1 hq => ?_)
                                    obtain ⟨s80, hJ82, D81, rfl, rfl⟩ := hq
                                    refine wp2 rfl rfl ?_
                                    exact wpL rfl rfl (sb_164_355 hJ82 (RLt hR D81) hS)
                                  · refine wp1 rfl rfl ?_
                                    refine wp0 rfl rfl ?_
                                    refine wp2b rfl rfl (fun c84 => ?_) (fun c84 => ?_)
                                    · refine wp1 rfl rfl ?_
                                      refine wp3 rfl (am_getf rfl rfl) ?_
                                      refine wp0 rfl rfl ?_
                                      refine wp1 rfl rfl ?_
                                      refine wp3 rfl (am_getf rfl rfl) ?_
                                      refine wp0 rfl rfl ?_
                                      refine wp3 rfl (am_lald rfl (by decide)) ?_
                                      refine wp3 rfl (am_last rfl (by decide)) ?_
                                      have hJ85 : K (t_registers0 m (vp_updL (q_registers0 m) (Int32.toNatClampNeg 4) (q_registers0 m (Int32.toNatClampNeg 5)))) := hJ
                                      refine wpH (h' := HH s (MC (t_registers0 m (vp_updL (q_registers0 m) (Int32.toNatClampNeg 4) (q_registers0 m (Int32.toNatClampNeg 5))))) D) rfl ?_
                                      refine wp1 rfl rfl ?_
                                      refine wp3 rfl (am_getf rfl rfl) ?_
                                      refine wp0 rfl rfl ?_
                                      refine wp1 rfl rfl ?_
                                      refine wp4 rfl rfl (mf_166 hJ85 ) (fun rv h1 hq => ?_)
                                      obtain ⟨s87, hJ89, D88, rfl, x90, rfl⟩ := hq
                                      refine wp3 rfl (am_last rfl (by decide)) ?_
                                      have hJ91 : K (t_registers0 s87 (vp_updL (q_registers0 s87) (Int32.toNatClampNeg 5) x90)) := hJ89
                                      refine wpH (h' := HH s (MC (t_registers0 s87 (vp_updL (q_registers0 s87) (Int32.toNatClampNeg 5) x90))) D) rfl ?_
                                      refine wp2 rfl rfl ?_
                                      exact wpL rfl rfl (sb_164_355 hJ91 (RLt hR D88) hS)
                                    · refine wp1 rfl rfl ?_
                                      refine wp0 rfl rfl ?_
                                      refine wp2b rfl rfl (fun c92 => ?_) (fun c92 => ?_)
                                      · exact wpL rfl rfl (sb_164_322 hJ hR (z34) (z35) hS)
                                      · refine wp1 rfl rfl ?_
                                        refine wp0 rfl rfl ?_
                                        refine wp2b rfl rfl (fun c93 => ?_) (fun c93 => ?_)
                                        · exact wpL rfl rfl (sb_164_322 hJ hR (z34) (z35) hS)
                                        · refine wp1 rfl rfl ?_
                                          refine wp1 rfl rfl ?_
                                          refine wp1 rfl rfl ?_
                                          refine wp4 rfl rfl (mf_132 hJ (z34) (z35)) (fun rv h1 hq => ?_)
                                          obtain ⟨s95, hJ97, D96, rfl, rfl⟩ := hq
                                          refine wp2 rfl rfl ?_
                                          exact wpL rfl rfl (sb_164_355 hJ97 (RLt hR D96) hS)
                            · refine wp1 rfl rfl ?_
                              refine wp1 rfl rfl ?_
                              refine wp1 rfl rfl ?_
                              refine wp4 rfl rfl (mf_181 hJ (z34) (z35)) (fun rv h1 hq => ?_)
                              obtain ⟨s100, hJ102, D101, rfl, rfl⟩ := hq
                              refine wp2 rfl rfl ?_
                              exact wpL rfl rfl (sb_164_355 hJ102 (RLt hR D101) hS)
                      · refine wp1 rfl rfl ?_
                        refine wp1 rfl rfl ?_
                        refine wp4 rfl rfl (mf_141 hJ (z34) (fun h => (SPf_tr hR hS).1 (Or.inl h))) (fun rv h1 hq => ?_)
                        obtain ⟨s105, hJ107, D106, rfl, rfl⟩ := hq
                        refine wp2 rfl rfl ?_
                        exact wpL rfl rfl (sb_164_355 hJ107 (RLt hR D106) hS)
                    · refine wp1 rfl rfl ?_
                      refine wp1 rfl rfl ?_
                      refine wp1 rfl rfl ?_
                      refine wp4 rfl rfl (mf_177 hJ (z34) (z35)) (fun rv h1 hq => ?_)
                      obtain ⟨s110, hJ112, D111, rfl, rfl⟩ := hq
                      refine wp2 rfl rfl ?_
                      exact wpL rfl rfl (sb_164_355 hJ112 (RLt hR D111) hS)
                · refine wp1 rfl rfl ?_
                  refine wp1 rfl rfl ?_
                  refine wp0 rfl rfl ?_
                  refine wp2b rfl rfl (fun c114 => ?_) (fun c114 => ?_)
                  · refine wp0 rfl rfl ?_
                    refine wp2 rfl rfl ?_
                    refine wp1 rfl rfl ?_
                    refine wp4 rfl rfl (mf_136 hJ (1) (z35) b1 (ez35 ▸ (SPf_tr hR hS).2.2 (op_19 ez34 c42 c43))) (fun rv h1 hq => ?_)
                    obtain ⟨s116, hJ118, D117, rfl, rfl⟩ := hq
                    refine wp2 rfl rfl ?_
                    exact wpL rfl rfl (sb_164_355 hJ118 (RLt hR D117) hS)
                  · refine wp0 rfl rfl ?_
                    refine wp1 rfl rfl ?_
                    refine wp4 rfl rfl (mf_136 hJ (0) (z35) b0 (ez35 ▸ (SPf_tr hR hS).2.2 (op_19 ez34 c42 c43))) (fun rv h1 hq => ?_)
                    obtain ⟨s121, hJ123, D122, rfl, rfl⟩ := hq
                    refine wp2 rfl rfl ?_
                    exact wpL rfl rfl (sb_164_355 hJ123 (RLt hR D122) hS)
              · refine wp1 rfl rfl ?_
                refine wp1 rfl rfl ?_
                refine wp0 rfl rfl ?_
                refine wp2b rfl rfl (fun c125 => ?_) (fun c125 => ?_)
                · refine wp0 rfl rfl ?_
                  refine wp2 rfl rfl ?_
                  exact wpL rfl rfl (sb_164_91 hJ hR (z35) (1) b1 hS)
                · refine wp0 rfl rfl ?_
                  exact wpL rfl rfl (sb_164_91 hJ hR (z35) (0) b0 hS)
      · refine wp1 rfl rfl ?_
        refine wp1 rfl rfl ?_
        refine wp1 rfl rfl ?_
        refine wp4 rfl rfl (mf_156 hJ (z34) (z35) (fun h => (SPf_tr hR hS).1 (Or.inr (Or.inl ((SPf_tr hR hS).2.1 (ez34.trans h)))))) (fun rv h1 hq => ?_)
        obtain ⟨s127, hJ129, D128, rfl, rfl⟩ := hq
        refine wp2 rfl rfl ?_
        exact wpL rfl rfl (sb_164_355 hJ129 (RLt hR D128) hS)
theorem mf_164 {m : ms} (hJ : K m)   (hS : SPf m.1) : tb_wp L xs 164 0 (lv_args 0 [.ref 24]) [] (HH s (MC m) D) (NV 1 m s D) := sb_164_0 hJ RLr  hS
/- 182: step from 38 on -/
set_option maxRecDepth 20000 in
theorem sb_182_207 (n : Nat) : ∀ {m m0 : ms} (hJ : K m) (hR : RL 1 m0 m) (l2 : Int64) (l4 : Int64) (l6 : Int32) (hn_l6 : 0 ≤ Int32.toInt l6) (hS : SPf m0.1) (hm : ((16 : Int32).toInt - (l6 : Int32).toInt).toNat < n), tb_wp L xs 182 207 [(0, .ref 24), (2, .long l2), (4, .long l4), (6, .int l6)] [] (HH s (MC m) D) (NI 1 m0 s D) := by
  induction n with
  | zero => intro m m0 hJ hR l2 l4 l6 hn_l6 hS hm; exact absurd hm (Nat.not_lt_zero _)
  | succ n ih =>
    intro m m0 hJ hR l2 l4 l6 hn_l6 hS hm
    refine wp1 rfl rfl ?_
    refine wp0 rfl rfl ?_
    refine wp2b rfl rfl (fun c1 => ?_) (fun c1 => ?_)
    · refine wp1 rfl rfl ?_
      refine wp1 rfl rfl ?_
      refine wp4 rfl rfl (mf_174 hJ (l4)) (fun rv h1 hq => ?_)
      obtain ⟨s3, hJ5, D4, rfl, rfl⟩ := hq
      refine wp1 rfl rfl ?_
      refine wp1 rfl rfl ?_
      refine wp3 rfl (am_putf rfl (Nat.le_of_ble_eq_true rfl) rfl rfl) ?_
      have hJ7 : K (t_ip s3 l2) := hJ5
      refine wpH (h' := HH s (MC (t_ip s3 l2)) D) rfl ?_
      refine wp1 rfl rfl ?_
      refine wp3 rfl (am_getf rfl rfl) ?_
      exact wp5i rfl rfl ⟨_, hJ7, (RLt hR D4), rfl, _, rfl⟩
    · refine wp1 rfl rfl ?_
      refine wp3 rfl (am_getf rfl rfl) ?_
      refine wp1 rfl rfl ?_
      refine wp1 rfl rfl ?_
      refine wp3 rfl (am_getf rfl rfl) ?_
      refine wp1 rfl rfl ?_
      refine wp3 rfl (am_lald rfl (by simp only [Int32.lt_iff_toInt_lt, Int32.le_iff_toInt_le, ← Int32.toInt_inj] at c1; have hnn := hn_l6; have e0 : (16 : Int32).toInt = 16 := rfl; have g0 : (Int32.ofNat 16).toInt = 16 := rfl; exact am_in_of (by omega) (by omega))) ?_
      refine wp3 rfl (am_last rfl (by simp only [Int32.lt_iff_toInt_lt, Int32.le_iff_toInt_le, ← Int32.toInt_inj] at c1; have hnn := hn_l6; have e0 : (16 : Int32).toInt = 16 := rfl; have g0 : (Int32.ofNat 16).toInt = 16 := rfl; exact am_in_of (by omega) (by omega))) ?_
      have hJ8 : K (t_registers0 m (vp_updL (q_registers0 m) (Int32.toNatClampNeg l6) (q_kept0 m (Int32.toNatClampNeg l6)))) := hJ
      refine wpH (h' := HH s (MC (t_registers0 m (vp_updL (q_registers0 m) (Int32.toNatClampNeg l6) (q_kept0 m (Int32.toNatClampNeg l6))))) D) rfl ?_
      refine wp1 rfl rfl ?_
      refine wpV (lv' := [(0, .ref 24), (2, .long l2), (4, .long l4), (6, .int (l6 + 1))]) rfl ?_
      refine wp2 rfl rfl ?_
      exact wpL rfl rfl (ih hJ8 hR (l2) (l4) ((l6 + 1)) (i32_upp c1 hn_l6) hS (i32_up c1 hm))
set_option maxRecDepth 20000 in
theorem sb_182_189 {m m0 : ms} (hJ : K m) (hR : RL 1 m0 m)   (hS : SPf m0.1) : tb_wp L xs 182 189 [(0, .ref 24)] [] (HH s (MC m) D) (NI 1 m0 s D) := by
  refine wp1 rfl rfl ?_
  refine wp0 rfl rfl ?_
  refine wp3 rfl (am_getf rfl rfl) ?_
  refine wp0 rfl rfl ?_
  refine wp0 rfl rfl ?_
  refine wp3 rfl (am_putf rfl (Nat.le_of_ble_eq_true rfl) rfl rfl) ?_
  have hJ9 : K (t_stepsDone m ((q_stepsDone m) + 1)) := hJ
  refine wpH (h' := HH s (MC (t_stepsDone m ((q_stepsDone m) + 1))) D) rfl ?_
  refine wp1 rfl rfl ?_
  refine wp3 rfl (am_getf rfl rfl) ?_
  exact wp5i rfl rfl ⟨_, hJ9, hR, rfl, _, rfl⟩
set_option maxRecDepth 20000 in
theorem sb_182_142 {m m0 : ms} (hJ : K m) (hR : RL 1 m0 m) (l2 : Int64) (l4 : Int64) (k1 : Int64)  (hS : SPf m0.1) : tb_wp L xs 182 142 [(0, .ref 24), (2, .long l2), (4, .long l4)] [.long k1, .ref 24] (HH s (MC m) D) (NI 1 m0 s D) := by
  refine wp3 rfl (am_putf rfl (Nat.le_of_ble_eq_true rfl) rfl rfl) ?_
  have hJ10 : K (t_operandAt m k1) := hJ
  refine wpH (h' := HH s (MC (t_operandAt m k1)) D) rfl ?_
  refine wp1 rfl rfl ?_
  refine wp4 rfl rfl (mf_164 hJ10 (SPf_tr hR hS)) (fun rv h1 hq => ?_)
  obtain ⟨s12, hJ14, D13, rfl, rfl⟩ := hq
  refine wp1 rfl rfl ?_
  refine wp1 rfl rfl ?_
  refine wp3 rfl (am_getf rfl rfl) ?_
  refine wp3 rfl (am_putf rfl (Nat.le_of_ble_eq_true rfl) rfl rfl) ?_
  have hJ16 : K (t_stopKind s12 (q_halt s12)) := hJ14
  refine wpH (h' := HH s (MC (t_stopKind s12 (q_halt s12))) D) rfl ?_
  refine wp1 rfl rfl ?_
  refine wp1 rfl rfl ?_
  refine wp3 rfl (am_getf rfl rfl) ?_
  refine wp3 rfl (am_putf rfl (Nat.le_of_ble_eq_true rfl) rfl rfl) ?_
  have hJ17 : K (t_stopValue (t_stopKind s12 (q_halt s12)) (q_haltValue (t_stopKind s12 (q_halt s12)))) := hJ16
  refine wpH (h' := HH s (MC (t_stopValue (t_stopKind s12 (q_halt s12)) (q_haltValue (t_stopKind s12 (q_halt s12))))) D) rfl ?_
  refine wp1 rfl rfl ?_
  refine wp3 rfl (am_getf rfl rfl) ?_
  refine wp2b rfl rfl (fun c18 => ?_) (fun c18 => ?_)
  · exact wpL rfl rfl (sb_182_189 hJ17 (RLt hR D13) hS)
  · refine wp1 rfl rfl ?_
    refine wp3 rfl (am_getf rfl rfl) ?_
    refine wp0 rfl rfl ?_
    refine wp2b rfl rfl (fun c19 => ?_) (fun c19 => ?_)
    · exact wpL rfl rfl (sb_182_189 hJ17 (RLt hR D13) hS)
    · refine wp1 rfl rfl ?_
      refine wp3 rfl (am_getf rfl rfl) ?_
      refine wp0 rfl rfl ?_
      refine wp2b rfl rfl (fun c20 => ?_) (fun c20 => ?_)
      · exact wpL rfl rfl (sb_182_189 hJ17 (RLt hR D13) hS)
      · refine wp0 rfl rfl ?_
        refine wp1 rfl rfl ?_
        refine wpV (lv' := [(0, .ref 24), (2, .long l2), (4, .long l4), (6, .int 0)]) rfl ?_
        exact wpL rfl rfl (sb_182_207 _ hJ17 (RLt hR D13) (l2) (l4) (0) (by decide) hS (Nat.lt_succ_self _))
set_option maxRecDepth 20000 in
theorem sb_182_62 (n : Nat) : ∀ {m m0 : ms} (hJ : K m) (hR : RL 1 m0 m) (l2 : Int64) (l4 : Int64) (l6 : Int32) (hn_l6 : 0 ≤ Int32.toInt l6) (hS : SPf m0.1) (hm : ((16 : Int32).toInt - (l6 : Int32).toInt).toNat < n), tb_wp L xs 182 62 [(0, .ref 24), (2, .long l2), (4, .long l4), (6, .int l6)] [] (HH s (MC m) D) (NI 1 m0 s D) := by
  induction n with
  | zero => intro m m0 hJ hR l2 l4 l6 hn_l6 hS hm; exact absurd hm (Nat.not_lt_zero _)
  | succ n ih =>
    intro m m0 hJ hR l2 l4 l6 hn_l6 hS hm
    refine wp1 rfl rfl ?_
    refine wp0 rfl rfl ?_
    refine wp2b rfl rfl (fun c21 => ?_) (fun c21 => ?_)
    · refine wp1 rfl rfl ?_
      refine wp0 rfl rfl ?_
      refine wp3 rfl (am_getf rfl rfl) ?_
      refine wp1 rfl rfl ?_
      refine wp3 rfl (am_getf rfl rfl) ?_
      refine wp0 rfl rfl ?_
      refine wp0 rfl rfl ?_
      refine wp3 rfl (am_putf rfl (Nat.le_of_ble_eq_true rfl) rfl rfl) ?_
      have hJ22 : K (t_ip m ((q_ip m) + (Int32.toInt64 (q_length m)))) := hJ
      refine wpH (h' := HH s (MC (t_ip m ((q_ip m) + (Int32.toInt64 (q_length m))))) D) rfl ?_
      refine wp1 rfl rfl ?_
      refine wp1 rfl rfl ?_
      refine wp3 rfl (am_getf rfl rfl) ?_
      refine wp0 rfl rfl ?_
      refine wp3 rfl (am_iald rfl (by decide)) ?_
      refine wp0 rfl rfl ?_
      refine wp2b rfl rfl (fun c23 => ?_) (fun c23 => ?_)
      · refine wp1 rfl rfl ?_
        refine wp4 rfl rfl (mf_127 hJ22 ((SPf_tr hR hS).1 (Or.inl c23))) (fun rv h1 hq => ?_)
        obtain ⟨m24, hJ26, D25, rfl, x27, rfl⟩ := hq
        refine wp2 rfl rfl ?_
        exact wpL rfl rfl (sb_182_142 hJ26 (RLt hR D25) (l2) (l4) (x27) hS)
      · refine wp1 rfl rfl ?_
        refine wp3 rfl (am_getf rfl rfl) ?_
        refine wp0 rfl rfl ?_
        refine wp3 rfl (am_iald rfl (by decide)) ?_
        refine wp0 rfl rfl ?_
        refine wp2b rfl rfl (fun c28 => ?_) (fun c28 => ?_)
        · refine wp1 rfl rfl ?_
          refine wp4 rfl rfl (mf_127 hJ22 ((SPf_tr hR hS).1 (Or.inr (Or.inl c28)))) (fun rv h1 hq => ?_)
          obtain ⟨m29, hJ31, D30, rfl, x32, rfl⟩ := hq
          refine wp2 rfl rfl ?_
          exact wpL rfl rfl (sb_182_142 hJ31 (RLt hR D30) (l2) (l4) (x32) hS)
        · refine wp1 rfl rfl ?_
          refine wp3 rfl (am_getf rfl rfl) ?_
          refine wp0 rfl rfl ?_
          refine wp3 rfl (am_iald rfl (by decide)) ?_
          refine wp0 rfl rfl ?_
          refine wp2b rfl rfl (fun c33 => ?_) (fun c33 => ?_)
          · refine wp1 rfl rfl ?_
            refine wp4 rfl rfl (mf_127 hJ22 ((SPf_tr hR hS).1 (Or.inr (Or.inr c33)))) (fun rv h1 hq => ?_)
            obtain ⟨m34, hJ36, D35, rfl, x37, rfl⟩ := hq
            refine wp2 rfl rfl ?_
            exact wpL rfl rfl (sb_182_142 hJ36 (RLt hR D35) (l2) (l4) (x37) hS)
          · refine wp0 rfl rfl ?_
            exact wpL rfl rfl (sb_182_142 hJ22 hR (l2) (l4) (0) hS)
    · refine wp1 rfl rfl ?_
      refine wp3 rfl (am_getf rfl rfl) ?_
      refine wp1 rfl rfl ?_
      refine wp1 rfl rfl ?_
      refine wp3 rfl (am_getf rfl rfl) ?_
      refine wp1 rfl rfl ?_
      refine wp3 rfl (am_lald rfl (by simp only [Int32.lt_iff_toInt_lt, Int32.le_iff_toInt_le, ← Int32.toInt_inj] at c21; have hnn := hn_l6; have e0 : (16 : Int32).toInt = 16 := rfl; have g0 : (Int32.ofNat 16).toInt = 16 := rfl; exact am_in_of (by omega) (by omega))) ?_
      refine wp3 rfl (am_last rfl (by simp only [Int32.lt_iff_toInt_lt, Int32.le_iff_toInt_le, ← Int32.toInt_inj] at c21; have hnn := hn_l6; have e0 : (16 : Int32).toInt = 16 := rfl; have g0 : (Int32.ofNat 16).toInt = 16 := rfl; exact am_in_of (by omega) (by omega))) ?_
      have hJ38 : K (t_kept0 m (vp_updL (q_kept0 m) (Int32.toNatClampNeg l6) (q_registers0 m (Int32.toNatClampNeg l6)))) := hJ
      refine wpH (h' := HH s (MC (t_kept0 m (vp_updL (q_kept0 m) (Int32.toNatClampNeg l6) (q_registers0 m (Int32.toNatClampNeg l6))))) D) rfl ?_
      refine wp1 rfl rfl ?_
      refine wpV (lv' := [(0, .ref 24), (2, .long l2), (4, .long l4), (6, .int (l6 + 1))]) rfl ?_
      refine wp2 rfl rfl ?_
      exact wpL rfl rfl (ih hJ38 hR (l2) (l4) ((l6 + 1)) (i32_upp c21 hn_l6) hS (i32_up c21 hm))
end SM8

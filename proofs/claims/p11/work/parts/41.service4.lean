/-! the model's service, whole -/
section SERVICE4
variable {L : Nat} {xs : Nat → Int32} {s : cs} {D : List pgT}
set_option maxRecDepth 20000 in
theorem sv_21 {m m0 : ms} (hJ : K m) (hR : RL 1 m0 m) : tb_wp L xs 172 21 [(0, .ref 24)] [] (HH s (MC m) D) (NV 1 m0 s D) := by
  refine wp1 rfl rfl ?_
  refine wp3 rfl (am_getf rfl rfl) ?_
  refine wp0 rfl rfl ?_
  refine wp3 rfl (am_lald rfl (by decide)) ?_
  refine wpTl (fun w ew => ?_)
  refine wp1 rfl rfl ?_
  refine wpV (lv' := [(0, .ref 24), (1, .long w)]) rfl ?_
  refine wp1 rfl rfl ?_
  refine wp3 rfl (am_getf rfl rfl) ?_
  refine wp0 rfl rfl ?_
  refine wp3 rfl (am_lald rfl (by decide)) ?_
  refine wpTl (fun d ed => ?_)
  refine wp1 rfl rfl ?_
  refine wpV (lv' := [(0, .ref 24), (1, .long w), (3, .long d)]) rfl ?_
  refine wp1 rfl rfl ?_
  refine wp3 rfl (am_getf rfl rfl) ?_
  refine wp0 rfl rfl ?_
  refine wp3 rfl (am_lald rfl (by decide)) ?_
  refine wpTl (fun a ea => ?_)
  refine wp1 rfl rfl ?_
  refine wpV (lv' := [(0, .ref 24), (1, .long w), (3, .long d), (5, .long a)]) rfl ?_
  refine wp1 rfl rfl ?_
  refine wp3 rfl (am_getf rfl rfl) ?_
  refine wp0 rfl rfl ?_
  refine wp3 rfl (am_lald rfl (by decide)) ?_
  refine wpTl (fun r er => ?_)
  refine wp1 rfl rfl ?_
  refine wpV (lv' := [(0, .ref 24), (1, .long w), (3, .long d), (5, .long a), (7, .long r)]) rfl ?_
  refine wp1 rfl rfl ?_
  refine wp0 rfl rfl ?_
  refine wp0 rfl rfl ?_
  refine wp2b rfl rfl (fun c1 => ?_) (fun c1 => ?_)
  · exact sv_59 hJ hR w d a r
  · refine wp1 rfl rfl ?_
    refine wp0 rfl rfl ?_
    refine wp0 rfl rfl ?_
    refine wp2b rfl rfl (fun c2 => ?_) (fun c2 => ?_)
    · exact sv_234 hJ hR w d a r
    · exact sv_378 hJ hR w d a r
set_option maxRecDepth 20000 in
theorem mf_172 {m : ms} (hJ : K m) : tb_wp L xs 172 0 (lv_args 0 [.ref 24]) [] (HH s (MC m) D) (NV 1 m s D) := by
  refine wp1 rfl rfl ?_
  refine wp3 rfl (am_getf rfl rfl) ?_
  refine wp0 rfl rfl ?_
  refine wp1 rfl rfl ?_
  refine wp3 rfl (am_getf rfl rfl) ?_
  refine wp3 rfl (am_last rfl (by decide)) ?_
  refine wpH (h' := HH s (MC (t_registers0 m (vp_updL (q_registers0 m) (Int32.toNatClampNeg 1) (q_ip m)))) D) rfl ?_
  have hJ1 : K (t_registers0 m (vp_updL (q_registers0 m) (Int32.toNatClampNeg 1) (q_ip m))) := hJ
  refine wp1 rfl rfl ?_
  refine wp3 rfl (am_getf rfl rfl) ?_
  refine wp0 rfl rfl ?_
  refine wp1 rfl rfl ?_
  refine wp4 rfl rfl (mf_140 hJ1) (fun rv h1 hq => ?_)
  obtain ⟨m2, hJ2, hR2, rfl, x, rfl⟩ := hq
  have hR3 : RL 1 m m2 := ⟨fun _ => hR2.1 (by decide), fun h => absurd h (by decide)⟩
  refine wp3 rfl (am_last rfl (by decide)) ?_
  refine wpH (h' := HH s (MC (t_registers0 m2 (vp_updL (q_registers0 m2) (Int32.toNatClampNeg 11) x))) D) rfl ?_
  exact sv_21 (m := t_registers0 m2 (vp_updL (q_registers0 m2) (Int32.toNatClampNeg 11) x)) hJ2 hR3
end SERVICE4

/-! the model's service: from 378 on (the BREAK, the end, what isn't a service) -/
section SERVICE
variable {L : Nat} {xs : Nat → Int32} {s : cs} {D : List pgT}
theorem RL21 {m m' : ms} (h : RL 2 m m') : RL 1 m m' := ⟨fun _ => h.1 (by decide), fun h => absurd h (by decide)⟩
set_option maxRecDepth 20000 in
theorem sv_445 {m m0 : ms} (hJ : K m) (hR : RL 1 m0 m) : tb_wp L xs 172 445 [(0, .ref 24)] [] (HH s (MC m) D) (NV 1 m0 s D) := by
  refine wp1 rfl rfl ?_
  refine wp3 rfl (am_getf rfl rfl) ?_
  refine wp0 rfl rfl ?_
  refine wp1 rfl rfl ?_
  refine am_ev_at rfl rfl ev_heapBegin ?_
  refine wp1 rfl rfl ?_
  refine wp3 rfl (am_getf rfl rfl) ?_
  refine wp0 rfl rfl ?_
  refine wp0 rfl rfl ?_
  refine wpTl (fun v ev => ?_)
  refine wp3 rfl (am_last rfl (by decide)) ?_
  refine wpH (h' := HH s (MC (t_registers0 m (vp_updL (q_registers0 m) (Int32.toNatClampNeg 0) v))) D) rfl ?_
  refine wp2 rfl rfl ?_
  exact wp5 rfl rfl ⟨t_registers0 m (vp_updL (q_registers0 m) (Int32.toNatClampNeg 0) v), hJ, hR, rfl, rfl⟩
set_option maxRecDepth 20000 in
theorem sv_415 (n : Nat) : ∀ {m m0 : ms} (hJ : K m) (hR : RL 1 m0 m) (h : Int64) (k : Int32) (h0 : 0 ≤ h.toInt) (h1 : h.toInt ≤ 65536) (hk : 0 ≤ k.toInt) (hm : ((q_heapSize m).toInt - k.toInt).toNat < n), tb_wp L xs 172 415 [(0, .ref 24), (9, .long h), (11, .int k)] [] (HH s (MC m) D) (NV 1 m0 s D) := by
  induction n with
  | zero => intro m m0 hJ hR h k h0 h1 hk hm; exact absurd hm (Nat.not_lt_zero _)
  | succ n ih =>
    intro m m0 hJ hR h k h0 h1 hk hm
    refine wp1 rfl rfl ?_
    refine wp1 rfl rfl ?_
    refine wp3 rfl (am_getf rfl rfl) ?_
    refine wp2b rfl rfl (fun c1 => ?_) (fun c1 => ?_)
    · refine wp1 rfl rfl ?_
      refine wp1 rfl rfl ?_
      refine wp0 rfl rfl ?_
      have e := l2iI h0 (by omega)
      refine wpTi (fun z ez => ?_)
      rw [ez] at e
      refine wp3 rfl (am_putf rfl (Nat.le_of_ble_eq_true rfl) rfl rfl) ?_
      refine wpH (h' := HH s (MC (t_heapSize m z)) D) rfl ?_
      have hJ2 : K (t_heapSize m z) := ⟨hJ.1, hJ.2.1, hJ.2.2.1, hJ.2.2.2.1, hJ.2.2.2.2.1, hJ.2.2.2.2.2.1, hJ.2.2.2.2.2.2.1, ⟨by show 0 ≤ z.toInt; omega, by show z.toInt ≤ 65536; omega⟩, hJ.2.2.2.2.2.2.2.2⟩
      exact wpL rfl rfl (sv_445 hJ2 (RLd hR rfl))
    · have hz := i32_nle c1
      have hb : (q_heapSize m).toInt ≤ 65536 := hJ.2.2.2.2.2.2.2.1.2
      refine wp1 rfl rfl ?_
      refine wp3 rfl (am_getf rfl rfl) ?_
      refine wp1 rfl rfl ?_
      refine wp0 rfl rfl ?_
      refine wp3 rfl (am_bast rfl (am_in_of hk (by show k.toInt < 65536; omega))) ?_
      refine wpH (h' := HH s (MC (t_heap m (upd (q_heap m) k.toNatClampNeg (vp_nar .byte 0)))) D) rfl ?_
      refine wp1 rfl rfl ?_
      refine wpV (lv' := [(0, .ref 24), (9, .long h), (11, .int (k + 1))]) rfl ?_
      refine wp2 rfl rfl ?_
      exact wpL rfl rfl (ih (m := t_heap m (upd (q_heap m) k.toNatClampNeg (vp_nar .byte 0))) hJ hR h (k + 1) h0 h1 (i32_upp c1 hk) (i32_up c1 hm))
set_option maxRecDepth 20000 in
theorem sv_378 {m m0 : ms} (hJ : K m) (hR : RL 1 m0 m) (w d a r : Int64) : tb_wp L xs 172 378 [(0, .ref 24), (1, .long w), (3, .long d), (5, .long a), (7, .long r)] [] (HH s (MC m) D) (NV 1 m0 s D) := by
  refine wp1 rfl rfl ?_
  refine wp0 rfl rfl ?_
  refine wp0 rfl rfl ?_
  refine wp2b rfl rfl (fun c1 => ?_) (fun c1 => ?_)
  · refine wp1 rfl rfl ?_
    refine wp1 rfl rfl ?_
    refine am_ev_at rfl rfl ev_heapBegin ?_
    refine wp0 rfl rfl ?_
    refine wpTl (fun h eh => ?_)
    refine wp1 rfl rfl ?_
    refine wpV (lv' := [(0, .ref 24), (1, .long w), (3, .long d), (5, .long a), (7, .long r), (9, .long h)]) rfl ?_
    refine wp1 rfl rfl ?_
    refine wp0 rfl rfl ?_
    refine wp0 rfl rfl ?_
    refine wp2b rfl rfl (fun c2 => ?_) (fun c2 => ?_)
    · exact wpL rfl rfl (sv_445 hJ hR)
    · refine wp1 rfl rfl ?_
      refine wp0 rfl rfl ?_
      refine wp0 rfl rfl ?_
      refine wp2b rfl rfl (fun c3 => ?_) (fun c3 => ?_)
      · exact wpL rfl rfl (sv_445 hJ hR)
      · have g1 := nlt0 c2
        have g2 : h.toInt ≤ 65536 := by
          rw [lg_cmp_gt, Int64.lt_iff_toInt_lt] at c3
          have e : (65536 : Int64).toInt = 65536 := rfl
          omega
        have e := l2iI g1 (by omega)
        refine wp1 rfl rfl ?_
        refine wp0 rfl rfl ?_
        refine wpTi (fun k ek => ?_)
        rw [ek] at e
        refine wp1 rfl rfl ?_
        refine wpV (lv' := [(0, .ref 24), (1, .long w), (3, .long d), (5, .long a), (7, .long r), (9, .long h), (11, .int k)]) rfl ?_
        exact wpL rfl rfl (sv_415 _ hJ hR h k g1 g2 (by omega) (Nat.lt_succ_self _))
  · refine wp1 rfl rfl ?_
    refine wp0 rfl rfl ?_
    refine wp0 rfl rfl ?_
    refine wp2b rfl rfl (fun c2 => ?_) (fun c2 => ?_)
    · refine wp1 rfl rfl ?_
      refine wp0 rfl rfl ?_
      refine wp1 rfl rfl ?_
      refine wp4 rfl rfl (pl_stop hJ 1 d (by decide)) (fun rv h1 hq => ?_)
      obtain ⟨m2, hJ2, hR2, hh, rfl, rfl⟩ := hq
      refine wp2 rfl rfl ?_
      exact wp5 rfl rfl ⟨m2, hJ2, RLt hR (RL21 hR2), rfl, rfl⟩
    · refine wp1 rfl rfl ?_
      refine wp3 rfl (am_getf rfl rfl) ?_
      refine wp0 rfl rfl ?_
      refine wp0 rfl rfl ?_
      refine wp3 rfl (am_last rfl (by decide)) ?_
      refine wpH (h' := HH s (MC (t_registers0 m (vp_updL (q_registers0 m) (Int32.toNatClampNeg 0) (-38)))) D) rfl ?_
      exact wp5 rfl rfl ⟨t_registers0 m (vp_updL (q_registers0 m) (Int32.toNatClampNeg 0) (-38)), hJ, hR, rfl, rfl⟩
end SERVICE

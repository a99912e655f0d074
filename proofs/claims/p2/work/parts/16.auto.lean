section SG
variable {L : Nat} {xs : Nat → Int32}
/- 3: FlagMachine.below(JJ)Z -/
set_option maxRecDepth 20000 in
theorem sb_3_19 {s : cs} {mc : am_H} {D : List pgT} (hJ : J s mc D) (k0 : Int32) (hb_k0 : b01 k0) : tb_wp L xs 3 19 [] [.int k0] (HH s mc D) (SZ mc) := by
  exact wp5z rfl rfl hb_k0 ⟨_, _, hJ, rfl, _, rfl, hb_k0⟩
set_option maxRecDepth 20000 in
theorem sb_3_0 {s : cs} {mc : am_H} {D : List pgT} (hJ : J s mc D) (l0 : Int64) (l2 : Int64)  : tb_wp L xs 3 0 [(0, .long l0), (2, .long l2)] [] (HH s mc D) (SZ mc) := by
  refine wp1 rfl rfl ?_
  refine wp0 rfl rfl ?_
  refine wp0 rfl rfl ?_
  refine wp1 rfl rfl ?_
  refine wp0 rfl rfl ?_
  refine wp0 rfl rfl ?_
  refine wp0 rfl rfl ?_
  refine wp2b rfl rfl (fun c1 => ?_) (fun c1 => ?_)
  · refine wp0 rfl rfl ?_
    exact wpL rfl rfl (sb_3_19 hJ (0) b0)
  · refine wp0 rfl rfl ?_
    refine wp2 rfl rfl ?_
    exact wpL rfl rfl (sb_3_19 hJ (1) b1)
theorem sf_3 {s : cs} {mc : am_H} {D : List pgT} (hJ : J s mc D) (l0 : Int64) (l2 : Int64)  : tb_wp L xs 3 0 (lv_args 0 [.long l0, .long l2]) [] (HH s mc D) (SZ mc) := sb_3_0 hJ l0 l2
/- 5: FlagMachine.finish(I)I -/
set_option maxRecDepth 20000 in
theorem sb_5_50 {s : cs} {mc : am_H} {D : List pgT} (hJ : J s mc D) (l1 : Int32) (k1 : Int32) (hb_k1 : b01 k1) : tb_wp L xs 5 50 [(1, .int l1)] [.int k1, .ref 1] (HH s mc D) (SI mc) := by
  refine wp3 rfl (am_putf rfl (Nat.le_of_ble_eq_true rfl) (b01_nar hb_k1) (b01_fit hb_k1)) ?_
  have hJ1 := J_ended hJ hb_k1
  refine wpH (h' := HH (s_ended s k1) mc D) rfl ?_
  refine wp1 rfl rfl ?_
  exact wp5i rfl rfl ⟨_, _, hJ1, rfl, _, rfl⟩
set_option maxRecDepth 20000 in
theorem sb_5_39 {s : cs} {mc : am_H} {D : List pgT} (hJ : J s mc D) (l1 : Int32)  : tb_wp L xs 5 39 [(0, .ref 1), (1, .int l1)] [] (HH s mc D) (SI mc) := by
  refine wp1 rfl rfl ?_
  refine wp1 rfl rfl ?_
  refine wp0 rfl rfl ?_
  refine wp2b rfl rfl (fun c2 => ?_) (fun c2 => ?_)
  · refine wp0 rfl rfl ?_
    refine wp2 rfl rfl ?_
    exact wpL rfl rfl (sb_5_50 hJ (l1) (1) b1)
  · refine wp0 rfl rfl ?_
    exact wpL rfl rfl (sb_5_50 hJ (l1) (0) b0)
set_option maxRecDepth 20000 in
theorem sb_5_15 {s : cs} {mc : am_H} {D : List pgT} (hJ : J s mc D) (l1 : Int32)  : tb_wp L xs 5 15 [(0, .ref 1), (1, .int l1)] [] (HH s mc D) (SI mc) := by
  refine wp1 rfl rfl ?_
  refine wp3 rfl (am_getf rfl rfl) ?_
  refine wp1 rfl rfl ?_
  refine wp3 rfl (am_getf rfl rfl) ?_
  refine wp3 rfl (am_getf rfl rfl) ?_
  refine wp3 rfl (am_putf rfl (Nat.le_of_ble_eq_true rfl) rfl rfl) ?_
  have hJ3 : J (s_ip s (g_next s)) mc D := hJ
  refine wpH (h' := HH (s_ip s (g_next s)) mc D) rfl ?_
  refine wp1 rfl rfl ?_
  refine wp0 rfl rfl ?_
  refine wp3 rfl (am_getf rfl rfl) ?_
  refine wp0 rfl rfl ?_
  refine wp0 rfl rfl ?_
  refine wp3 rfl (am_putf rfl (Nat.le_of_ble_eq_true rfl) rfl rfl) ?_
  have hJ4 : J (s_steps (s_ip s (g_next s)) ((g_steps (s_ip s (g_next s))) + 1)) mc D := hJ3
  refine wpH (h' := HH (s_steps (s_ip s (g_next s)) ((g_steps (s_ip s (g_next s))) + 1)) mc D) rfl ?_
  exact wpL rfl rfl (sb_5_39 hJ4 (l1))
set_option maxRecDepth 20000 in
theorem sb_5_0 {s : cs} {mc : am_H} {D : List pgT} (hJ : J s mc D) (l1 : Int32)  : tb_wp L xs 5 0 [(0, .ref 1), (1, .int l1)] [] (HH s mc D) (SI mc) := by
  refine wp1 rfl rfl ?_
  refine wp2b rfl rfl (fun c5 => ?_) (fun c5 => ?_)
  · exact wpL rfl rfl (sb_5_15 hJ (l1))
  · refine wp1 rfl rfl ?_
    refine wp0 rfl rfl ?_
    refine wp2b rfl rfl (fun c6 => ?_) (fun c6 => ?_)
    · exact wpL rfl rfl (sb_5_15 hJ (l1))
    · refine wp1 rfl rfl ?_
      refine wp0 rfl rfl ?_
      refine wp2b rfl rfl (fun c7 => ?_) (fun c7 => ?_)
      · exact wpL rfl rfl (sb_5_15 hJ (l1))
      · exact wpL rfl rfl (sb_5_39 hJ (l1))
theorem sf_5 {s : cs} {mc : am_H} {D : List pgT} (hJ : J s mc D) (l1 : Int32)  : tb_wp L xs 5 0 (lv_args 0 [.ref 1, .int l1]) [] (HH s mc D) (SI mc) := sb_5_0 hJ l1
/- 7: FlagMachine.maskOf(I)J -/
set_option maxRecDepth 20000 in
theorem sb_7_20 {s : cs} {mc : am_H} {D : List pgT} (hJ : J s mc D) (k0 : Int64)  : tb_wp L xs 7 20 [] [.long k0] (HH s mc D) (SJ mc) := by
  exact wp5 rfl rfl ⟨_, _, hJ, rfl, _, rfl⟩
set_option maxRecDepth 20000 in
theorem sb_7_0 {s : cs} {mc : am_H} {D : List pgT} (hJ : J s mc D) (l0 : Int32)  : tb_wp L xs 7 0 [(0, .int l0)] [] (HH s mc D) (SJ mc) := by
  refine wp1 rfl rfl ?_
  refine wp0 rfl rfl ?_
  refine wp2b rfl rfl (fun c1 => ?_) (fun c1 => ?_)
  · refine wp0 rfl rfl ?_
    refine wp0 rfl rfl ?_
    refine wp1 rfl rfl ?_
    refine wp0 rfl rfl ?_
    refine wp0 rfl rfl ?_
    refine wp0 rfl rfl ?_
    refine wp0 rfl rfl ?_
    exact wpL rfl rfl (sb_7_20 hJ (((1 <<< (Int32.toInt64 (8 * l0) &&& 63)) - 1)))
  · refine wp0 rfl rfl ?_
    refine wp2 rfl rfl ?_
    exact wpL rfl rfl (sb_7_20 hJ ((-1)))
theorem sf_7 {s : cs} {mc : am_H} {D : List pgT} (hJ : J s mc D) (l0 : Int32)  : tb_wp L xs 7 0 (lv_args 0 [.int l0]) [] (HH s mc D) (SJ mc) := sb_7_0 hJ l0
/- 8: FlagMachine.memory(IIII)V -/
set_option maxRecDepth 20000 in
theorem sb_8_0 {s : cs} {mc : am_H} {D : List pgT} (hJ : J s mc D) (l1 : Int32) (l2 : Int32) (l3 : Int32) (l4 : Int32)  : tb_wp L xs 8 0 [(0, .ref 1), (1, .int l1), (2, .int l2), (3, .int l3), (4, .int l4)] [] (HH s mc D) (SV mc) := by
  refine wp1 rfl rfl ?_
  refine wp3 rfl (am_getf rfl rfl) ?_
  refine wp1 rfl rfl ?_
  refine wp3 rfl (am_putf rfl (Nat.le_of_ble_eq_true rfl) rfl rfl) ?_
  have hJ1 : J (s_base s l1) mc D := hJ
  refine wpH (h' := HH (s_base s l1) mc D) rfl ?_
  refine wp1 rfl rfl ?_
  refine wp3 rfl (am_getf rfl rfl) ?_
  refine wp1 rfl rfl ?_
  refine wp3 rfl (am_putf rfl (Nat.le_of_ble_eq_true rfl) rfl rfl) ?_
  have hJ2 : J (s_index (s_base s l1) l2) mc D := hJ1
  refine wpH (h' := HH (s_index (s_base s l1) l2) mc D) rfl ?_
  refine wp1 rfl rfl ?_
  refine wp3 rfl (am_getf rfl rfl) ?_
  refine wp1 rfl rfl ?_
  refine wp3 rfl (am_putf rfl (Nat.le_of_ble_eq_true rfl) rfl rfl) ?_
  have hJ3 : J (s_scale (s_index (s_base s l1) l2) l3) mc D := hJ2
  refine wpH (h' := HH (s_scale (s_index (s_base s l1) l2) l3) mc D) rfl ?_
  refine wp1 rfl rfl ?_
  refine wp3 rfl (am_getf rfl rfl) ?_
  refine wp1 rfl rfl ?_
  refine wp3 rfl (am_putf rfl (Nat.le_of_ble_eq_true rfl) rfl rfl) ?_
  have hJ4 : J (s_disp (s_scale (s_index (s_base s l1) l2) l3) l4) mc D := hJ3
  refine wpH (h' := HH (s_disp (s_scale (s_index (s_base s l1) l2) l3) l4) mc D) rfl ?_
  exact wp5 rfl rfl ⟨_, _, hJ4, rfl, rfl⟩
theorem sf_8 {s : cs} {mc : am_H} {D : List pgT} (hJ : J s mc D) (l1 : Int32) (l2 : Int32) (l3 : Int32) (l4 : Int32)  : tb_wp L xs 8 0 (lv_args 0 [.ref 1, .int l1, .int l2, .int l3, .int l4]) [] (HH s mc D) (SV mc) := sb_8_0 hJ l1 l2 l3 l4
/- 9: FlagMachine.number(J)V -/
set_option maxRecDepth 20000 in
theorem sb_9_0 {s : cs} {mc : am_H} {D : List pgT} (hJ : J s mc D) (l1 : Int64)  : tb_wp L xs 9 0 [(0, .ref 1), (1, .long l1)] [] (HH s mc D) (SV mc) := by
  refine wp1 rfl rfl ?_
  refine wp3 rfl (am_getf rfl rfl) ?_
  refine wp1 rfl rfl ?_
  refine wp3 rfl (am_putf rfl (Nat.le_of_ble_eq_true rfl) rfl rfl) ?_
  have hJ1 : J (s_number s l1) mc D := hJ
  refine wpH (h' := HH (s_number s l1) mc D) rfl ?_
  exact wp5 rfl rfl ⟨_, _, hJ1, rfl, rfl⟩
theorem sf_9 {s : cs} {mc : am_H} {D : List pgT} (hJ : J s mc D) (l1 : Int64)  : tb_wp L xs 9 0 (lv_args 0 [.ref 1, .long l1]) [] (HH s mc D) (SV mc) := sb_9_0 hJ l1
/- 10: FlagMachine.op(III)V -/
set_option maxRecDepth 20000 in
theorem sb_10_27 (n : Nat) : ∀ {s : cs} {mc : am_H} {D : List pgT} (hJ : J s mc D) (l4 : Int32) (hn_l4 : 0 ≤ Int32.toInt l4) (hm : ((3 : Int32).toInt - (l4 : Int32).toInt).toNat < n), tb_wp L xs 10 27 [(0, .ref 1), (4, .int l4)] [] (HH s mc D) (SV mc) := by
  induction n with
  | zero => intro s mc D hJ l4 hn_l4 hm; exact absurd hm (Nat.not_lt_zero _)
  | succ n ih =>
    intro s mc D hJ l4 hn_l4 hm
    refine wp1 rfl rfl ?_
    refine wp0 rfl rfl ?_
    refine wp2b rfl rfl (fun c1 => ?_) (fun c1 => ?_)
    · exact wp5 rfl rfl ⟨_, _, hJ, rfl, rfl⟩
    · refine wp1 rfl rfl ?_
      refine wp3 rfl (am_getf rfl rfl) ?_
      refine wp3 rfl (am_getf rfl rfl) ?_
      refine wp1 rfl rfl ?_
      refine wp0 rfl rfl ?_
      refine wp3 rfl (am_iast rfl (by simp only [Int32.lt_iff_toInt_lt, Int32.le_iff_toInt_le, ← Int32.toInt_inj] at c1; have hnn := hn_l4; have e0 : (3 : Int32).toInt = 3 := rfl; have g0 : (Int32.ofNat 3).toInt = 3 := rfl; exact am_in_of (by omega) (by omega))) ?_
      have hJ2 : J (s_kinds s (upd (g_kinds s) (Int32.toNatClampNeg l4) 0)) mc D := hJ
      refine wpH (h' := HH (s_kinds s (upd (g_kinds s) (Int32.toNatClampNeg l4) 0)) mc D) rfl ?_
      refine wp1 rfl rfl ?_
      refine wp3 rfl (am_getf rfl rfl) ?_
      refine wp3 rfl (am_getf rfl rfl) ?_
      refine wp1 rfl rfl ?_
      refine wp0 rfl rfl ?_
      refine wp3 rfl (am_iast rfl (by simp only [Int32.lt_iff_toInt_lt, Int32.le_iff_toInt_le, ← Int32.toInt_inj] at c1; have hnn := hn_l4; have e0 : (3 : Int32).toInt = 3 := rfl; have g0 : (Int32.ofNat 3).toInt = 3 := rfl; exact am_in_of (by omega) (by omega))) ?_
      have hJ3 : J (s_hregs (s_kinds s (upd (g_kinds s) (Int32.toNatClampNeg l4) 0)) (upd (g_hregs (s_kinds s (upd (g_kinds s) (Int32.toNatClampNeg l4) 0))) (Int32.toNatClampNeg l4) 0)) mc D := J_hregs hJ2 (by decide)
      refine wpH (h' := HH (s_hregs (s_kinds s (upd (g_kinds s) (Int32.toNatClampNeg l4) 0)) (upd (g_hregs (s_kinds s (upd (g_kinds s) (Int32.toNatClampNeg l4) 0))) (Int32.toNatClampNeg l4) 0)) mc D) rfl ?_
      refine wp1 rfl rfl ?_
      refine wpV (lv' := [(0, .ref 1), (4, .int (l4 + 1))]) rfl ?_
      refine wp2 rfl rfl ?_
      exact wpL rfl rfl (ih hJ3 ((l4 + 1)) (i32_upp c1 hn_l4) (i32_up c1 hm))
set_option maxRecDepth 20000 in
theorem sb_10_0 {s : cs} {mc : am_H} {D : List pgT} (hJ : J s mc D) (l1 : Int32) (l2 : Int32) (l3 : Int32)  : tb_wp L xs 10 0 [(0, .ref 1), (1, .int l1), (2, .int l2), (3, .int l3)] [] (HH s mc D) (SV mc) := by
  refine wp1 rfl rfl ?_
  refine wp3 rfl (am_getf rfl rfl) ?_
  refine wp1 rfl rfl ?_
  refine wp3 rfl (am_putf rfl (Nat.le_of_ble_eq_true rfl) rfl rfl) ?_
  have hJ4 : J (s_op s l1) mc D := hJ
  refine wpH (h' := HH (s_op s l1) mc D) rfl ?_
  refine wp1 rfl rfl ?_
  refine wp3 rfl (am_getf rfl rfl) ?_
  refine wp1 rfl rfl ?_
  refine wp3 rfl (am_putf rfl (Nat.le_of_ble_eq_true rfl) rfl rfl) ?_
  have hJ5 : J (s_size (s_op s l1) l2) mc D := hJ4
  refine wpH (h' := HH (s_size (s_op s l1) l2) mc D) rfl ?_
  refine wp1 rfl rfl ?_
  refine wp3 rfl (am_getf rfl rfl) ?_
  refine wp1 rfl rfl ?_
  refine wp3 rfl (am_putf rfl (Nat.le_of_ble_eq_true rfl) rfl rfl) ?_
  have hJ6 : J (s_condition (s_size (s_op s l1) l2) l3) mc D := hJ5
  refine wpH (h' := HH (s_condition (s_size (s_op s l1) l2) l3) mc D) rfl ?_
  refine wp0 rfl rfl ?_
  refine wp1 rfl rfl ?_
  refine wpV (lv' := [(0, .ref 1), (1, .int l1), (2, .int l2), (3, .int l3), (4, .int 0)]) rfl ?_
  exact wpL rfl rfl (sb_10_27 _ hJ6 (0) (by decide) (Nat.lt_succ_self _))
theorem sf_10 {s : cs} {mc : am_H} {D : List pgT} (hJ : J s mc D) (l1 : Int32) (l2 : Int32) (l3 : Int32)  : tb_wp L xs 10 0 (lv_args 0 [.ref 1, .int l1, .int l2, .int l3]) [] (HH s mc D) (SV mc) := sb_10_0 hJ l1 l2 l3
/- 11: FlagMachine.operand(III)Z -/
set_option maxRecDepth 20000 in
theorem sb_11_41 {s : cs} {mc : am_H} {D : List pgT} (hJ : J s mc D) (l1 : Int32) (l2 : Int32) (l3 : Int32) (hi_l1 : am_in l1 3 = true) (hi_l3 : am_in l3 16 = true) : tb_wp L xs 11 41 [(0, .ref 1), (1, .int l1), (2, .int l2), (3, .int l3)] [] (HH s mc D) (SZ mc) := by
  refine wp1 rfl rfl ?_
  refine wp3 rfl (am_getf rfl rfl) ?_
  refine wp3 rfl (am_getf rfl rfl) ?_
  refine wp1 rfl rfl ?_
  refine wp1 rfl rfl ?_
  refine wp3 rfl (am_iast rfl hi_l1) ?_
  have hJ3 : J (s_kinds s (upd (g_kinds s) (Int32.toNatClampNeg l1) l2)) mc D := hJ
  refine wpH (h' := HH (s_kinds s (upd (g_kinds s) (Int32.toNatClampNeg l1) l2)) mc D) rfl ?_
  refine wp1 rfl rfl ?_
  refine wp3 rfl (am_getf rfl rfl) ?_
  refine wp3 rfl (am_getf rfl rfl) ?_
  refine wp1 rfl rfl ?_
  refine wp1 rfl rfl ?_
  refine wp3 rfl (am_iast rfl hi_l1) ?_
  have hJ4 : J (s_hregs (s_kinds s (upd (g_kinds s) (Int32.toNatClampNeg l1) l2)) (upd (g_hregs (s_kinds s (upd (g_kinds s) (Int32.toNatClampNeg l1) l2))) (Int32.toNatClampNeg l1) l3)) mc D := J_hregs hJ3 hi_l3
  refine wpH (h' := HH (s_hregs (s_kinds s (upd (g_kinds s) (Int32.toNatClampNeg l1) l2)) (upd (g_hregs (s_kinds s (upd (g_kinds s) (Int32.toNatClampNeg l1) l2))) (Int32.toNatClampNeg l1) l3)) mc D) rfl ?_
  refine wp0 rfl rfl ?_
  exact wp5z rfl rfl b1 ⟨_, _, hJ4, rfl, _, rfl, b1⟩
set_option maxRecDepth 20000 in
theorem sb_11_39 {s : cs} {mc : am_H} {D : List pgT} (hJ : J s mc D)   : tb_wp L xs 11 39 [] [] (HH s mc D) (SZ mc) := by
  refine wp0 rfl rfl ?_
  exact wp5z rfl rfl b0 ⟨_, _, hJ, rfl, _, rfl, b0⟩
set_option maxRecDepth 20000 in
theorem sb_11_18 {s : cs} {mc : am_H} {D : List pgT} (hJ : J s mc D)   : tb_wp L xs 11 18 [] [] (HH s mc D) (SZ mc) := by
  refine wp0 rfl rfl ?_
  exact wp5z rfl rfl b0 ⟨_, _, hJ, rfl, _, rfl, b0⟩
set_option maxRecDepth 20000 in
theorem sb_11_0 {s : cs} {mc : am_H} {D : List pgT} (hJ : J s mc D) (l1 : Int32) (l2 : Int32) (l3 : Int32)  : tb_wp L xs 11 0 [(0, .ref 1), (1, .int l1), (2, .int l2), (3, .int l3)] [] (HH s mc D) (SZ mc) := by
  refine wp1 rfl rfl ?_
  refine wp2b rfl rfl (fun c5 => ?_) (fun c5 => ?_)
  · exact wpL rfl rfl (sb_11_18 hJ )
  · refine wp1 rfl rfl ?_
    refine wp0 rfl rfl ?_
    refine wp2b rfl rfl (fun c6 => ?_) (fun c6 => ?_)
    · exact wpL rfl rfl (sb_11_18 hJ )
    · refine wp1 rfl rfl ?_
      refine wp2b rfl rfl (fun c7 => ?_) (fun c7 => ?_)
      · exact wpL rfl rfl (sb_11_18 hJ )
      · refine wp1 rfl rfl ?_
        refine wp0 rfl rfl ?_
        refine wp2b rfl rfl (fun c8 => ?_) (fun c8 => ?_)
        · refine wp1 rfl rfl ?_
          refine wp2b rfl rfl (fun c9 => ?_) (fun c9 => ?_)
          · exact wpL rfl rfl (sb_11_39 hJ )
          · refine wp1 rfl rfl ?_
            refine wp0 rfl rfl ?_
            refine wp2b rfl rfl (fun c10 => ?_) (fun c10 => ?_)
            · exact wpL rfl rfl (sb_11_39 hJ )
            · refine wp1 rfl rfl ?_
              refine wp0 rfl rfl ?_
              refine wp2b rfl rfl (fun c11 => ?_) (fun c11 => ?_)
              · exact wpL rfl rfl (sb_11_41 hJ (l1) (l2) (l3) (by simp only [Int32.lt_iff_toInt_lt, Int32.le_iff_toInt_le, ← Int32.toInt_inj] at c5 c6; have e0 : (0 : Int32).toInt = 0 := rfl; have g0 : (Int32.ofNat 0).toInt = 0 := rfl; have e1 : (2 : Int32).toInt = 2 := rfl; have g1 : (Int32.ofNat 2).toInt = 2 := rfl; exact am_in_of (by omega) (by omega)) (by simp only [Int32.lt_iff_toInt_lt, Int32.le_iff_toInt_le, ← Int32.toInt_inj] at c10 c9; have e0 : (0 : Int32).toInt = 0 := rfl; have g0 : (Int32.ofNat 0).toInt = 0 := rfl; have e1 : (15 : Int32).toInt = 15 := rfl; have g1 : (Int32.ofNat 15).toInt = 15 := rfl; exact am_in_of (by omega) (by omega)))
              · refine wp1 rfl rfl ?_
                refine wp2b rfl rfl (fun c12 => ?_) (fun c12 => ?_)
                · exact wpL rfl rfl (sb_11_41 hJ (l1) (l2) (l3) (by simp only [Int32.lt_iff_toInt_lt, Int32.le_iff_toInt_le, ← Int32.toInt_inj] at c5 c6; have e0 : (0 : Int32).toInt = 0 := rfl; have g0 : (Int32.ofNat 0).toInt = 0 := rfl; have e1 : (2 : Int32).toInt = 2 := rfl; have g1 : (Int32.ofNat 2).toInt = 2 := rfl; exact am_in_of (by omega) (by omega)) (by simp only [Int32.lt_iff_toInt_lt, Int32.le_iff_toInt_le, ← Int32.toInt_inj] at c10 c12 c9; have e0 : (0 : Int32).toInt = 0 := rfl; have g0 : (Int32.ofNat 0).toInt = 0 := rfl; have e1 : (15 : Int32).toInt = 15 := rfl; have g1 : (Int32.ofNat 15).toInt = 15 := rfl; exact am_in_of (by omega) (by omega)))
                · exact wpL rfl rfl (sb_11_39 hJ )
        · exact wpL rfl rfl (sb_11_18 hJ )
theorem sf_11 {s : cs} {mc : am_H} {D : List pgT} (hJ : J s mc D) (l1 : Int32) (l2 : Int32) (l3 : Int32)  : tb_wp L xs 11 0 (lv_args 0 [.ref 1, .int l1, .int l2, .int l3]) [] (HH s mc D) (SZ mc) := sb_11_0 hJ l1 l2 l3
/- 16: FlagMachine.set(IJ)Z -/
set_option maxRecDepth 20000 in
theorem sb_16_39 {s : cs} {mc : am_H} {D : List pgT} (hJ : J s mc D)   : tb_wp L xs 16 39 [] [] (HH s mc D) (SZ mc) := by
  refine wp0 rfl rfl ?_
  exact wp5z rfl rfl b1 ⟨_, _, hJ, rfl, _, rfl, b1⟩
set_option maxRecDepth 20000 in
theorem sb_16_10 {s : cs} {mc : am_H} {D : List pgT} (hJ : J s mc D)   : tb_wp L xs 16 10 [] [] (HH s mc D) (SZ mc) := by
  refine wp0 rfl rfl ?_
  exact wp5z rfl rfl b0 ⟨_, _, hJ, rfl, _, rfl, b0⟩
set_option maxRecDepth 20000 in
theorem sb_16_0 {s : cs} {mc : am_H} {D : List pgT} (hJ : J s mc D) (l1 : Int32) (l2 : Int64)  : tb_wp L xs 16 0 [(0, .ref 1), (1, .int l1), (2, .long l2)] [] (HH s mc D) (SZ mc) := by
  refine wp1 rfl rfl ?_
  refine wp2b rfl rfl (fun c1 => ?_) (fun c1 => ?_)
  · exact wpL rfl rfl (sb_16_10 hJ )
  · refine wp1 rfl rfl ?_
    refine wp0 rfl rfl ?_
    refine wp2b rfl rfl (fun c2 => ?_) (fun c2 => ?_)
    · refine wp1 rfl rfl ?_
      refine wp0 rfl rfl ?_
      refine wp2b rfl rfl (fun c3 => ?_) (fun c3 => ?_)
      · refine wp1 rfl rfl ?_
        refine wp3 rfl (am_getf rfl rfl) ?_
        refine wp1 rfl rfl ?_
        refine wp3 rfl (am_putf rfl (Nat.le_of_ble_eq_true rfl) rfl rfl) ?_
        have hJ4 : J (s_ip s l2) mc D := hJ
        refine wpH (h' := HH (s_ip s l2) mc D) rfl ?_
        refine wp2 rfl rfl ?_
        exact wpL rfl rfl (sb_16_39 hJ4 )
      · refine wp1 rfl rfl ?_
        refine wp3 rfl (am_getf rfl rfl) ?_
        refine wp3 rfl (am_getf rfl rfl) ?_
        refine wp1 rfl rfl ?_
        refine wp1 rfl rfl ?_
        refine wp3 rfl (am_last rfl (by simp only [Int32.lt_iff_toInt_lt, Int32.le_iff_toInt_le, ← Int32.toInt_inj] at c1 c2 c3; have e0 : (0 : Int32).toInt = 0 := rfl; have g0 : (Int32.ofNat 0).toInt = 0 := rfl; have e1 : (16 : Int32).toInt = 16 := rfl; have g1 : (Int32.ofNat 16).toInt = 16 := rfl; exact am_in_of (by omega) (by omega))) ?_
        have hJ5 : J (s_regs s (vp_updL (g_regs s) (Int32.toNatClampNeg l1) l2)) mc D := hJ
        refine wpH (h' := HH (s_regs s (vp_updL (g_regs s) (Int32.toNatClampNeg l1) l2)) mc D) rfl ?_
        exact wpL rfl rfl (sb_16_39 hJ5 )
    · exact wpL rfl rfl (sb_16_10 hJ )
theorem sf_16 {s : cs} {mc : am_H} {D : List pgT} (hJ : J s mc D) (l1 : Int32) (l2 : Int64)  : tb_wp L xs 16 0 (lv_args 0 [.ref 1, .int l1, .long l2]) [] (HH s mc D) (SZ mc) := sb_16_0 hJ l1 l2
/- 17: FlagMachine.signed(JI)J -/
set_option maxRecDepth 20000 in
theorem sb_17_0 {s : cs} {mc : am_H} {D : List pgT} (hJ : J s mc D) (l0 : Int64) (l2 : Int32)  : tb_wp L xs 17 0 [(0, .long l0), (2, .int l2)] [] (HH s mc D) (SJ mc) := by
  refine wp0 rfl rfl ?_
  refine wp0 rfl rfl ?_
  refine wp1 rfl rfl ?_
  refine wp0 rfl rfl ?_
  refine wp0 rfl rfl ?_
  refine wpTi (fun z1 ez1 => ?_)
  refine wp1 rfl rfl ?_
  refine wpV (lv' := [(0, .long l0), (2, .int l2), (3, .int z1)]) rfl ?_
  refine wp1 rfl rfl ?_
  refine wp1 rfl rfl ?_
  refine wp0 rfl rfl ?_
  refine wp1 rfl rfl ?_
  refine wp0 rfl rfl ?_
  exact wp5 rfl rfl ⟨_, _, hJ, rfl, _, rfl⟩
theorem sf_17 {s : cs} {mc : am_H} {D : List pgT} (hJ : J s mc D) (l0 : Int64) (l2 : Int32)  : tb_wp L xs 17 0 (lv_args 0 [.long l0, .int l2]) [] (HH s mc D) (SJ mc) := sb_17_0 hJ l0 l2
/- 19: FlagMachine.topOf(I)J -/
set_option maxRecDepth 20000 in
theorem sb_19_0 {s : cs} {mc : am_H} {D : List pgT} (hJ : J s mc D) (l0 : Int32)  : tb_wp L xs 19 0 [(0, .int l0)] [] (HH s mc D) (SJ mc) := by
  refine wp0 rfl rfl ?_
  refine wp0 rfl rfl ?_
  refine wp1 rfl rfl ?_
  refine wp0 rfl rfl ?_
  refine wp0 rfl rfl ?_
  refine wp0 rfl rfl ?_
  refine wp0 rfl rfl ?_
  exact wp5 rfl rfl ⟨_, _, hJ, rfl, _, rfl⟩
theorem sf_19 {s : cs} {mc : am_H} {D : List pgT} (hJ : J s mc D) (l0 : Int32)  : tb_wp L xs 19 0 (lv_args 0 [.int l0]) [] (HH s mc D) (SJ mc) := sb_19_0 hJ l0
/- 20: FlagMachine.value()J -/
set_option maxRecDepth 20000 in
theorem sb_20_0 {s : cs} {mc : am_H} {D : List pgT} (hJ : J s mc D)   : tb_wp L xs 20 0 [(0, .ref 1)] [] (HH s mc D) (SJ mc) := by
  refine wp1 rfl rfl ?_
  refine wp3 rfl (am_getf rfl rfl) ?_
  refine wp3 rfl (am_getf rfl rfl) ?_
  exact wp5 rfl rfl ⟨_, _, hJ, rfl, _, rfl⟩
theorem sf_20 {s : cs} {mc : am_H} {D : List pgT} (hJ : J s mc D)   : tb_wp L xs 20 0 (lv_args 0 [.ref 1]) [] (HH s mc D) (SJ mc) := sb_20_0 hJ 
/- 22: FlagMachine$Bits.highestBit(J)I -/
set_option maxRecDepth 20000 in
theorem sb_22_23 {s : cs} {mc : am_H} {D : List pgT} (hJ : J s mc D) (l2 : Int32)  : tb_wp L xs 22 23 [(2, .int l2)] [] (HH s mc D) (SI mc) := by
  refine wp1 rfl rfl ?_
  exact wp5i rfl rfl ⟨_, _, hJ, rfl, _, rfl⟩
set_option maxRecDepth 20000 in
theorem sb_22_3 (n : Nat) : ∀ {s : cs} {mc : am_H} {D : List pgT} (hJ : J s mc D) (l0 : Int64) (l2 : Int32)  (hm : ((l2 : Int32).toInt + 1).toNat < n), tb_wp L xs 22 3 [(0, .long l0), (2, .int l2)] [] (HH s mc D) (SI mc) := by
  induction n with
  | zero => intro s mc D hJ l0 l2 hm; exact absurd hm (Nat.not_lt_zero _)
  | succ n ih =>
    intro s mc D hJ l0 l2 hm
    refine wp1 rfl rfl ?_
    refine wp2b rfl rfl (fun c1 => ?_) (fun c1 => ?_)
    · exact wpL rfl rfl (sb_22_23 hJ (l2))
    · refine wp1 rfl rfl ?_
      refine wp1 rfl rfl ?_
      refine wp0 rfl rfl ?_
      refine wp0 rfl rfl ?_
      refine wp0 rfl rfl ?_
      refine wp0 rfl rfl ?_
      refine wp0 rfl rfl ?_
      refine wp2b rfl rfl (fun c2 => ?_) (fun c2 => ?_)
      · refine wp1 rfl rfl ?_
        refine wpV (lv' := [(0, .long l0), (2, .int (l2 + (-1)))]) rfl ?_
        refine wp2 rfl rfl ?_
        exact wpL rfl rfl (ih hJ (l0) ((l2 + (-1))) (i32_downe c1 hm))
      · exact wpL rfl rfl (sb_22_23 hJ (l2))
set_option maxRecDepth 20000 in
theorem sb_22_0 {s : cs} {mc : am_H} {D : List pgT} (hJ : J s mc D) (l0 : Int64)  : tb_wp L xs 22 0 [(0, .long l0)] [] (HH s mc D) (SI mc) := by
  refine wp0 rfl rfl ?_
  refine wp1 rfl rfl ?_
  refine wpV (lv' := [(0, .long l0), (2, .int 63)]) rfl ?_
  exact wpL rfl rfl (sb_22_3 _ hJ (l0) (63) (Nat.lt_succ_self _))
theorem sf_22 {s : cs} {mc : am_H} {D : List pgT} (hJ : J s mc D) (l0 : Int64)  : tb_wp L xs 22 0 (lv_args 0 [.long l0]) [] (HH s mc D) (SI mc) := sb_22_0 hJ l0
/- 23: FlagMachine$Bits.lowestBit(J)I -/
set_option maxRecDepth 20000 in
theorem sb_23_24 {s : cs} {mc : am_H} {D : List pgT} (hJ : J s mc D) (l2 : Int32) (hn_l2 : 0 ≤ Int32.toInt l2) : tb_wp L xs 23 24 [(2, .int l2)] [] (HH s mc D) (SI mc) := by
  refine wp1 rfl rfl ?_
  exact wp5i rfl rfl ⟨_, _, hJ, rfl, _, rfl⟩
set_option maxRecDepth 20000 in
theorem sb_23_2 (n : Nat) : ∀ {s : cs} {mc : am_H} {D : List pgT} (hJ : J s mc D) (l0 : Int64) (l2 : Int32) (hn_l2 : 0 ≤ Int32.toInt l2) (hm : ((63 : Int32).toInt - (l2 : Int32).toInt).toNat < n), tb_wp L xs 23 2 [(0, .long l0), (2, .int l2)] [] (HH s mc D) (SI mc) := by
  induction n with
  | zero => intro s mc D hJ l0 l2 hn_l2 hm; exact absurd hm (Nat.not_lt_zero _)
  | succ n ih =>
    intro s mc D hJ l0 l2 hn_l2 hm
    refine wp1 rfl rfl ?_
    refine wp0 rfl rfl ?_
    refine wp2b rfl rfl (fun c1 => ?_) (fun c1 => ?_)
    · exact wpL rfl rfl (sb_23_24 hJ (l2) hn_l2)
    · refine wp1 rfl rfl ?_
      refine wp1 rfl rfl ?_
      refine wp0 rfl rfl ?_
      refine wp0 rfl rfl ?_
      refine wp0 rfl rfl ?_
      refine wp0 rfl rfl ?_
      refine wp0 rfl rfl ?_
      refine wp2b rfl rfl (fun c2 => ?_) (fun c2 => ?_)
      · refine wp1 rfl rfl ?_
        refine wpV (lv' := [(0, .long l0), (2, .int (l2 + 1))]) rfl ?_
        refine wp2 rfl rfl ?_
        exact wpL rfl rfl (ih hJ (l0) ((l2 + 1)) (i32_upp c1 hn_l2) (i32_up c1 hm))
      · exact wpL rfl rfl (sb_23_24 hJ (l2) hn_l2)
set_option maxRecDepth 20000 in
theorem sb_23_0 {s : cs} {mc : am_H} {D : List pgT} (hJ : J s mc D) (l0 : Int64)  : tb_wp L xs 23 0 [(0, .long l0)] [] (HH s mc D) (SI mc) := by
  refine wp0 rfl rfl ?_
  refine wp1 rfl rfl ?_
  refine wpV (lv' := [(0, .long l0), (2, .int 0)]) rfl ?_
  exact wpL rfl rfl (sb_23_2 _ hJ (l0) (0) (by decide) (Nat.lt_succ_self _))
theorem sf_23 {s : cs} {mc : am_H} {D : List pgT} (hJ : J s mc D) (l0 : Int64)  : tb_wp L xs 23 0 (lv_args 0 [.long l0]) [] (HH s mc D) (SI mc) := sb_23_0 hJ l0
/- 24: FlagMachine$Bits.overflowOfOne(IJJI)Z -/
set_option maxRecDepth 20000 in
theorem sb_24_116 {s : cs} {mc : am_H} {D : List pgT} (hJ : J s mc D) (k0 : Int32) (hb_k0 : b01 k0) : tb_wp L xs 24 116 [] [.int k0] (HH s mc D) (SZ mc) := by
  exact wp5z rfl rfl hb_k0 ⟨_, _, hJ, rfl, _, rfl, hb_k0⟩
set_option maxRecDepth 20000 in
theorem sb_24_101 {s : cs} {mc : am_H} {D : List pgT} (hJ : J s mc D) (k0 : Int32) (hb_k0 : b01 k0) : tb_wp L xs 24 101 [] [.int k0] (HH s mc D) (SZ mc) := by
  exact wp5z rfl rfl hb_k0 ⟨_, _, hJ, rfl, _, rfl, hb_k0⟩
set_option maxRecDepth 20000 in
theorem sb_24_93 {s : cs} {mc : am_H} {D : List pgT} (hJ : J s mc D) (k0 : Int32) (k1 : Int32) (hb_k0 : b01 k0) (hb_k1 : b01 k1) : tb_wp L xs 24 93 [] [.int k1, .int k0] (HH s mc D) (SZ mc) := by
  refine wp2b rfl rfl (fun c1 => ?_) (fun c1 => ?_)
  · refine wp0 rfl rfl ?_
    exact wpL rfl rfl (sb_24_101 hJ (0) b0)
  · refine wp0 rfl rfl ?_
    refine wp2 rfl rfl ?_
    exact wpL rfl rfl (sb_24_101 hJ (1) b1)
set_option maxRecDepth 20000 in
theorem sb_24_73 {s : cs} {mc : am_H} {D : List pgT} (hJ : J s mc D) (k0 : Int32) (hb_k0 : b01 k0) : tb_wp L xs 24 73 [] [.int k0] (HH s mc D) (SZ mc) := by
  exact wp5z rfl rfl hb_k0 ⟨_, _, hJ, rfl, _, rfl, hb_k0⟩
set_option maxRecDepth 20000 in
theorem sb_24_22 {s : cs} {mc : am_H} {D : List pgT} (hJ : J s mc D) (l1 : Int32) (l2 : Int64) (l4 : Int64) (l7 : Int64) (k0 : Int32) (hb_k0 : b01 k0) : tb_wp L xs 24 22 [(0, .ref 17), (1, .int l1), (2, .long l2), (4, .long l4), (7, .long l7)] [.int k0] (HH s mc D) (SZ mc) := by
  refine wp1 rfl rfl ?_
  refine wpV (lv' := [(0, .ref 17), (1, .int l1), (2, .long l2), (4, .long l4), (7, .long l7), (9, .int k0)]) rfl ?_
  refine wp1 rfl rfl ?_
  refine wp2s [56, 74, 102, 117] rfl rfl rfl rfl (am_fa1 ?_ (am_fa1 ?_ (am_fa1 ?_ (am_fa1 ?_ (am_fa0)))))
  · refine wp1 rfl rfl ?_
    refine wp3 rfl (am_getf rfl rfl) ?_
    refine wp3 rfl (am_getf rfl rfl) ?_
    refine wp1 rfl rfl ?_
    refine wp2b rfl rfl (fun c2 => ?_) (fun c2 => ?_)
    · refine wp0 rfl rfl ?_
      exact wpL rfl rfl (sb_24_73 hJ (0) b0)
    · refine wp0 rfl rfl ?_
      refine wp2 rfl rfl ?_
      exact wpL rfl rfl (sb_24_73 hJ (1) b1)
  · refine wp1 rfl rfl ?_
    refine wp1 rfl rfl ?_
    refine wp1 rfl rfl ?_
    refine wp0 rfl rfl ?_
    refine wp0 rfl rfl ?_
    refine wp0 rfl rfl ?_
    refine wp0 rfl rfl ?_
    refine wp0 rfl rfl ?_
    refine wp2b rfl rfl (fun c3 => ?_) (fun c3 => ?_)
    · refine wp0 rfl rfl ?_
      exact wpL rfl rfl (sb_24_93 hJ (k0) (0) hb_k0 b0)
    · refine wp0 rfl rfl ?_
      refine wp2 rfl rfl ?_
      exact wpL rfl rfl (sb_24_93 hJ (k0) (1) hb_k0 b1)
  · refine wp1 rfl rfl ?_
    refine wp1 rfl rfl ?_
    refine wp0 rfl rfl ?_
    refine wp0 rfl rfl ?_
    refine wp0 rfl rfl ?_
    refine wp2b rfl rfl (fun c4 => ?_) (fun c4 => ?_)
    · refine wp0 rfl rfl ?_
      exact wpL rfl rfl (sb_24_116 hJ (0) b0)
    · refine wp0 rfl rfl ?_
      refine wp2 rfl rfl ?_
      exact wpL rfl rfl (sb_24_116 hJ (1) b1)
  · refine wp0 rfl rfl ?_
    exact wp5z rfl rfl b0 ⟨_, _, hJ, rfl, _, rfl, b0⟩
set_option maxRecDepth 20000 in
theorem sb_24_0 {s : cs} {mc : am_H} {D : List pgT} (hJ : J s mc D) (l1 : Int32) (l2 : Int64) (l4 : Int64) (l6 : Int32)  : tb_wp L xs 24 0 [(0, .ref 17), (1, .int l1), (2, .long l2), (4, .long l4), (6, .int l6)] [] (HH s mc D) (SZ mc) := by
  refine wp1 rfl rfl ?_
  refine wp4 rfl rfl (sf_19 hJ (l6)) (fun rv h1 hq => ?_)
  obtain ⟨s6, D7, hJ8, rfl, x9, rfl⟩ := hq
  refine wp1 rfl rfl ?_
  refine wpV (lv' := [(0, .ref 17), (1, .int l1), (2, .long l2), (4, .long l4), (6, .int l6), (7, .long x9)]) rfl ?_
  refine wp1 rfl rfl ?_
  refine wp1 rfl rfl ?_
  refine wp0 rfl rfl ?_
  refine wp0 rfl rfl ?_
  refine wp0 rfl rfl ?_
  refine wp2b rfl rfl (fun c10 => ?_) (fun c10 => ?_)
  · refine wp0 rfl rfl ?_
    exact wpL rfl rfl (sb_24_22 hJ8 (l1) (l2) (l4) (x9) (0) b0)
  · refine wp0 rfl rfl ?_
    refine wp2 rfl rfl ?_
    exact wpL rfl rfl (sb_24_22 hJ8 (l1) (l2) (l4) (x9) (1) b1)
theorem sf_24 {s : cs} {mc : am_H} {D : List pgT} (hJ : J s mc D) (l1 : Int32) (l2 : Int64) (l4 : Int64) (l6 : Int32)  : tb_wp L xs 24 0 (lv_args 0 [.ref 17, .int l1, .long l2, .long l4, .int l6]) [] (HH s mc D) (SZ mc) := sb_24_0 hJ l1 l2 l4 l6
/- 28: FlagMachine$Bits.shiftOnce(IJI)J -/
set_option maxRecDepth 20000 in
theorem sb_28_78 {s : cs} {mc : am_H} {D : List pgT} (hJ : J s mc D) (k0 : Int64) (k1 : Int64)  : tb_wp L xs 28 78 [] [.long k1, .long k0] (HH s mc D) (SJ mc) := by
  refine wp0 rfl rfl ?_
  exact wp5 rfl rfl ⟨_, _, hJ, rfl, _, rfl⟩
set_option maxRecDepth 20000 in
theorem sb_28_58 {s : cs} {mc : am_H} {D : List pgT} (hJ : J s mc D) (k0 : Int64) (k1 : Int32) (hb_k1 : b01 k1) : tb_wp L xs 28 58 [] [.int k1, .long k0] (HH s mc D) (SJ mc) := by
  refine wp0 rfl rfl ?_
  refine wp0 rfl rfl ?_
  exact wp5 rfl rfl ⟨_, _, hJ, rfl, _, rfl⟩
set_option maxRecDepth 20000 in
theorem sb_28_0 {s : cs} {mc : am_H} {D : List pgT} (hJ : J s mc D) (l0 : Int32) (l1 : Int64) (l3 : Int32)  : tb_wp L xs 28 0 [(0, .int l0), (1, .long l1), (3, .int l3)] [] (HH s mc D) (SJ mc) := by
  refine wp1 rfl rfl ?_
  refine wp4 rfl rfl (sf_19 hJ (l3)) (fun rv h1 hq => ?_)
  obtain ⟨s2, D3, hJ4, rfl, x5, rfl⟩ := hq
  refine wp1 rfl rfl ?_
  refine wpV (lv' := [(0, .int l0), (1, .long l1), (3, .int l3), (4, .long x5)]) rfl ?_
  refine wp1 rfl rfl ?_
  refine wp2s [36, 61, 80, 89, 93] rfl rfl rfl rfl (am_fa1 ?_ (am_fa1 ?_ (am_fa1 ?_ (am_fa1 ?_ (am_fa1 ?_ (am_fa0))))))
  · refine wp1 rfl rfl ?_
    refine wp0 rfl rfl ?_
    refine wp0 rfl rfl ?_
    refine wp1 rfl rfl ?_
    refine wp4 rfl rfl (sf_7 hJ4 (l3)) (fun rv h1 hq => ?_)
    obtain ⟨s7, D8, hJ9, rfl, x10, rfl⟩ := hq
    refine wp0 rfl rfl ?_
    refine wp1 rfl rfl ?_
    refine wp1 rfl rfl ?_
    refine wp0 rfl rfl ?_
    refine wp0 rfl rfl ?_
    refine wp0 rfl rfl ?_
    refine wp2b rfl rfl (fun c11 => ?_) (fun c11 => ?_)
    · refine wp0 rfl rfl ?_
      exact wpL rfl rfl (sb_28_58 hJ9 (((l1 <<< (Int32.toInt64 1 &&& 63)) &&& x10)) (0) b0)
    · refine wp0 rfl rfl ?_
      refine wp2 rfl rfl ?_
      exact wpL rfl rfl (sb_28_58 hJ9 (((l1 <<< (Int32.toInt64 1 &&& 63)) &&& x10)) (1) b1)
  · refine wp1 rfl rfl ?_
    refine wp0 rfl rfl ?_
    refine wp0 rfl rfl ?_
    refine wp1 rfl rfl ?_
    refine wp0 rfl rfl ?_
    refine wp0 rfl rfl ?_
    refine wp0 rfl rfl ?_
    refine wp0 rfl rfl ?_
    refine wp2b rfl rfl (fun c12 => ?_) (fun c12 => ?_)
    · refine wp0 rfl rfl ?_
      exact wpL rfl rfl (sb_28_78 hJ4 (((Int64.toUInt64 l1 >>> ((Int32.toInt64 1).toUInt64 &&& Int64.toUInt64 63)).toInt64)) (0))
    · refine wp1 rfl rfl ?_
      refine wp2 rfl rfl ?_
      exact wpL rfl rfl (sb_28_78 hJ4 (((Int64.toUInt64 l1 >>> ((Int32.toInt64 1).toUInt64 &&& Int64.toUInt64 63)).toInt64)) (x5))
  · refine wp1 rfl rfl ?_
    refine wp0 rfl rfl ?_
    refine wp0 rfl rfl ?_
    refine wp1 rfl rfl ?_
    refine wp4 rfl rfl (sf_7 hJ4 (l3)) (fun rv h1 hq => ?_)
    obtain ⟨s14, D15, hJ16, rfl, x17, rfl⟩ := hq
    refine wp0 rfl rfl ?_
    exact wp5 rfl rfl ⟨_, _, hJ16, rfl, _, rfl⟩
  · refine wp1 rfl rfl ?_
    refine wp0 rfl rfl ?_
    refine wp0 rfl rfl ?_
    exact wp5 rfl rfl ⟨_, _, hJ4, rfl, _, rfl⟩
  · refine wp1 rfl rfl ?_
    refine wp0 rfl rfl ?_
    refine wp0 rfl rfl ?_
    refine wp1 rfl rfl ?_
    refine wp1 rfl rfl ?_
    refine wp0 rfl rfl ?_
    refine wp0 rfl rfl ?_
    exact wp5 rfl rfl ⟨_, _, hJ4, rfl, _, rfl⟩
theorem sf_28 {s : cs} {mc : am_H} {D : List pgT} (hJ : J s mc D) (l0 : Int32) (l1 : Int64) (l3 : Int32)  : tb_wp L xs 28 0 (lv_args 0 [.int l0, .long l1, .int l3]) [] (HH s mc D) (SJ mc) := sb_28_0 hJ l0 l1 l3
/- 35: FlagMachine$Core.part(II)J -/
set_option maxRecDepth 20000 in
theorem sb_35_0 {s : cs} {mc : am_H} {D : List pgT} (hJ : J s mc D) (l1 : Int32) (l2 : Int32) (hi_l1 : am_in l1 16 = true) : tb_wp L xs 35 0 [(0, .ref 7), (1, .int l1), (2, .int l2)] [] (HH s mc D) (SJ mc) := by
  refine wp1 rfl rfl ?_
  refine wp3 rfl (am_getf rfl rfl) ?_
  refine wp1 rfl rfl ?_
  refine wp3 rfl (am_lald rfl hi_l1) ?_
  refine wp1 rfl rfl ?_
  refine wp4 rfl rfl (sf_7 hJ (l2)) (fun rv h1 hq => ?_)
  obtain ⟨s2, D3, hJ4, rfl, x5, rfl⟩ := hq
  refine wp0 rfl rfl ?_
  exact wp5 rfl rfl ⟨_, _, hJ4, rfl, _, rfl⟩
theorem sf_35 {s : cs} {mc : am_H} {D : List pgT} (hJ : J s mc D) (l1 : Int32) (l2 : Int32) (hi_l1 : am_in l1 16 = true) : tb_wp L xs 35 0 (lv_args 0 [.ref 7, .int l1, .int l2]) [] (HH s mc D) (SJ mc) := sb_35_0 hJ l1 l2 hi_l1
/- 37: FlagMachine$Core.putPart(IIJ)V -/
set_option maxRecDepth 20000 in
theorem sb_37_48 {s : cs} {mc : am_H} {D : List pgT} (hJ : J s mc D)   : tb_wp L xs 37 48 [] [] (HH s mc D) (SV mc) := by
  exact wp5 rfl rfl ⟨_, _, hJ, rfl, rfl⟩
set_option maxRecDepth 20000 in
theorem sb_37_0 {s : cs} {mc : am_H} {D : List pgT} (hJ : J s mc D) (l1 : Int32) (l2 : Int32) (l3 : Int64) (hi_l1 : am_in l1 16 = true) : tb_wp L xs 37 0 [(0, .ref 7), (1, .int l1), (2, .int l2), (3, .long l3)] [] (HH s mc D) (SV mc) := by
  refine wp1 rfl rfl ?_
  refine wp0 rfl rfl ?_
  refine wp2b rfl rfl (fun c1 => ?_) (fun c1 => ?_)
  · refine wp1 rfl rfl ?_
    refine wp3 rfl (am_getf rfl rfl) ?_
    refine wp1 rfl rfl ?_
    refine wp1 rfl rfl ?_
    refine wp3 rfl (am_getf rfl rfl) ?_
    refine wp1 rfl rfl ?_
    refine wp3 rfl (am_lald rfl hi_l1) ?_
    refine wp1 rfl rfl ?_
    refine wp4 rfl rfl (sf_7 hJ (l2)) (fun rv h1 hq => ?_)
    obtain ⟨s3, D4, hJ5, rfl, x6, rfl⟩ := hq
    refine wp0 rfl rfl ?_
    refine wp0 rfl rfl ?_
    refine wp0 rfl rfl ?_
    refine wp1 rfl rfl ?_
    refine wp1 rfl rfl ?_
    refine wp4 rfl rfl (sf_7 hJ5 (l2)) (fun rv h1 hq => ?_)
    obtain ⟨s8, D9, hJ10, rfl, x11, rfl⟩ := hq
    refine wp0 rfl rfl ?_
    refine wp0 rfl rfl ?_
    refine wp3 rfl (am_last rfl hi_l1) ?_
    have hJ12 : J (s_regs s8 (vp_updL (g_regs s8) (Int32.toNatClampNeg l1) (((g_regs s (Int32.toNatClampNeg l1)) &&& (x6 ^^^ (-1))) ||| (l3 &&& x11)))) mc D9 := hJ10
    refine wpH (h' := HH (s_regs s8 (vp_updL (g_regs s8) (Int32.toNatClampNeg l1) (((g_regs s (Int32.toNatClampNeg l1)) &&& (x6 ^^^ (-1))) ||| (l3 &&& x11)))) mc D9) rfl ?_
    exact wpL rfl rfl (sb_37_48 hJ12 )
  · refine wp1 rfl rfl ?_
    refine wp3 rfl (am_getf rfl rfl) ?_
    refine wp1 rfl rfl ?_
    refine wp1 rfl rfl ?_
    refine wp1 rfl rfl ?_
    refine wp4 rfl rfl (sf_7 hJ (l2)) (fun rv h1 hq => ?_)
    obtain ⟨s14, D15, hJ16, rfl, x17, rfl⟩ := hq
    refine wp0 rfl rfl ?_
    refine wp3 rfl (am_last rfl hi_l1) ?_
    have hJ18 : J (s_regs s14 (vp_updL (g_regs s14) (Int32.toNatClampNeg l1) (l3 &&& x17))) mc D15 := hJ16
    refine wpH (h' := HH (s_regs s14 (vp_updL (g_regs s14) (Int32.toNatClampNeg l1) (l3 &&& x17))) mc D15) rfl ?_
    refine wp2 rfl rfl ?_
    exact wpL rfl rfl (sb_37_48 hJ18 )
theorem sf_37 {s : cs} {mc : am_H} {D : List pgT} (hJ : J s mc D) (l1 : Int32) (l2 : Int32) (l3 : Int64) (hi_l1 : am_in l1 16 = true) : tb_wp L xs 37 0 (lv_args 0 [.ref 7, .int l1, .int l2, .long l3]) [] (HH s mc D) (SV mc) := sb_37_0 hJ l1 l2 l3 hi_l1
/- 38: FlagMachine$Core.registerOrZero(I)J -/
set_option maxRecDepth 20000 in
theorem sb_38_23 {s : cs} {mc : am_H} {D : List pgT} (hJ : J s mc D) (k0 : Int64)  : tb_wp L xs 38 23 [] [.long k0] (HH s mc D) (SJ mc) := by
  exact wp5 rfl rfl ⟨_, _, hJ, rfl, _, rfl⟩
set_option maxRecDepth 20000 in
theorem sb_38_22 {s : cs} {mc : am_H} {D : List pgT} (hJ : J s mc D)   : tb_wp L xs 38 22 [] [] (HH s mc D) (SJ mc) := by
  refine wp0 rfl rfl ?_
  exact wpL rfl rfl (sb_38_23 hJ (0))
set_option maxRecDepth 20000 in
theorem sb_38_0 {s : cs} {mc : am_H} {D : List pgT} (hJ : J s mc D) (l1 : Int32)  : tb_wp L xs 38 0 [(0, .ref 7), (1, .int l1)] [] (HH s mc D) (SJ mc) := by
  refine wp1 rfl rfl ?_
  refine wp2b rfl rfl (fun c1 => ?_) (fun c1 => ?_)
  · exact wpL rfl rfl (sb_38_22 hJ )
  · refine wp1 rfl rfl ?_
    refine wp1 rfl rfl ?_
    refine wp3 rfl (am_getf rfl rfl) ?_
    refine wp3 rfl (am_alen rfl) ?_
    refine wp2b rfl rfl (fun c2 => ?_) (fun c2 => ?_)
    · exact wpL rfl rfl (sb_38_22 hJ )
    · refine wp1 rfl rfl ?_
      refine wp3 rfl (am_getf rfl rfl) ?_
      refine wp1 rfl rfl ?_
      refine wp3 rfl (am_lald rfl (by simp only [Int32.lt_iff_toInt_lt, Int32.le_iff_toInt_le, ← Int32.toInt_inj] at c1 c2; have e0 : (0 : Int32).toInt = 0 := rfl; have g0 : (Int32.ofNat 0).toInt = 0 := rfl; have e1 : (16 : Int32).toInt = 16 := rfl; have g1 : (Int32.ofNat 16).toInt = 16 := rfl; exact am_in_of (by omega) (by omega))) ?_
      refine wp2 rfl rfl ?_
      exact wpL rfl rfl (sb_38_23 hJ ((g_regs s (Int32.toNatClampNeg l1))))
theorem sf_38 {s : cs} {mc : am_H} {D : List pgT} (hJ : J s mc D) (l1 : Int32)  : tb_wp L xs 38 0 (lv_args 0 [.ref 7, .int l1]) [] (HH s mc D) (SJ mc) := sb_38_0 hJ l1
/- 41: FlagMachine$Core.stopWith(IJ)V -/
set_option maxRecDepth 20000 in
theorem sb_41_0 {s : cs} {mc : am_H} {D : List pgT} (hJ : J s mc D) (l1 : Int32) (l2 : Int64)  : tb_wp L xs 41 0 [(0, .ref 7), (1, .int l1), (2, .long l2)] [] (HH s mc D) (SV mc) := by
  refine wp1 rfl rfl ?_
  refine wp1 rfl rfl ?_
  refine wp3 rfl (am_putf rfl (Nat.le_of_ble_eq_true rfl) rfl rfl) ?_
  have hJ1 : J (s_stop s l1) mc D := hJ
  refine wpH (h' := HH (s_stop s l1) mc D) rfl ?_
  refine wp1 rfl rfl ?_
  refine wp1 rfl rfl ?_
  refine wp3 rfl (am_putf rfl (Nat.le_of_ble_eq_true rfl) rfl rfl) ?_
  have hJ2 : J (s_stopv (s_stop s l1) l2) mc D := hJ1
  refine wpH (h' := HH (s_stopv (s_stop s l1) l2) mc D) rfl ?_
  exact wp5 rfl rfl ⟨_, _, hJ2, rfl, rfl⟩
theorem sf_41 {s : cs} {mc : am_H} {D : List pgT} (hJ : J s mc D) (l1 : Int32) (l2 : Int64)  : tb_wp L xs 41 0 (lv_args 0 [.ref 7, .int l1, .long l2]) [] (HH s mc D) (SV mc) := sb_41_0 hJ l1 l2
/- 44: FlagMachine$Flags.asWord()J -/
set_option maxRecDepth 20000 in
theorem sb_44_70 {s : cs} {mc : am_H} {D : List pgT} (hJ : J s mc D) (k0 : Int32) (k1 : Int32) (hn_k1 : 0 ≤ Int32.toInt k1) : tb_wp L xs 44 70 [] [.int k1, .int k0] (HH s mc D) (SJ mc) := by
  refine wp0 rfl rfl ?_
  refine wp0 rfl rfl ?_
  exact wp5 rfl rfl ⟨_, _, hJ, rfl, _, rfl⟩
set_option maxRecDepth 20000 in
theorem sb_44_55 {s : cs} {mc : am_H} {D : List pgT} (hJ : J s mc D) (k0 : Int32) (k1 : Int32) (hn_k1 : 0 ≤ Int32.toInt k1) : tb_wp L xs 44 55 [(0, .ref 9)] [.int k1, .int k0] (HH s mc D) (SJ mc) := by
  refine wp0 rfl rfl ?_
  refine wp1 rfl rfl ?_
  refine wp3 rfl (am_getf rfl rfl) ?_
  refine wp2b rfl rfl (fun c1 => ?_) (fun c1 => ?_)
  · refine wp0 rfl rfl ?_
    exact wpL rfl rfl (sb_44_70 hJ ((k0 + k1)) (0) (by decide))
  · refine wp0 rfl rfl ?_
    refine wp2 rfl rfl ?_
    exact wpL rfl rfl (sb_44_70 hJ ((k0 + k1)) (2048) (by decide))
set_option maxRecDepth 20000 in
theorem sb_44_40 {s : cs} {mc : am_H} {D : List pgT} (hJ : J s mc D) (k0 : Int32) (k1 : Int32) (hn_k1 : 0 ≤ Int32.toInt k1) : tb_wp L xs 44 40 [(0, .ref 9)] [.int k1, .int k0] (HH s mc D) (SJ mc) := by
  refine wp0 rfl rfl ?_
  refine wp1 rfl rfl ?_
  refine wp3 rfl (am_getf rfl rfl) ?_
  refine wp2b rfl rfl (fun c2 => ?_) (fun c2 => ?_)
  · refine wp0 rfl rfl ?_
    exact wpL rfl rfl (sb_44_55 hJ ((k0 + k1)) (0) (by decide))
  · refine wp0 rfl rfl ?_
    refine wp2 rfl rfl ?_
    exact wpL rfl rfl (sb_44_55 hJ ((k0 + k1)) (128) (by decide))
set_option maxRecDepth 20000 in
theorem sb_44_26 {s : cs} {mc : am_H} {D : List pgT} (hJ : J s mc D) (k0 : Int32) (k1 : Int32) (hn_k1 : 0 ≤ Int32.toInt k1) : tb_wp L xs 44 26 [(0, .ref 9)] [.int k1, .int k0] (HH s mc D) (SJ mc) := by
  refine wp0 rfl rfl ?_
  refine wp1 rfl rfl ?_
  refine wp3 rfl (am_getf rfl rfl) ?_
  refine wp2b rfl rfl (fun c3 => ?_) (fun c3 => ?_)
  · refine wp0 rfl rfl ?_
    exact wpL rfl rfl (sb_44_40 hJ ((k0 + k1)) (0) (by decide))
  · refine wp0 rfl rfl ?_
    refine wp2 rfl rfl ?_
    exact wpL rfl rfl (sb_44_40 hJ ((k0 + k1)) (64) (by decide))
set_option maxRecDepth 20000 in
theorem sb_44_13 {s : cs} {mc : am_H} {D : List pgT} (hJ : J s mc D) (k1 : Int32) (hb_k1 : b01 k1) : tb_wp L xs 44 13 [(0, .ref 9)] [.int k1, .int 2] (HH s mc D) (SJ mc) := by
  refine wp0 rfl rfl ?_
  refine wp1 rfl rfl ?_
  refine wp3 rfl (am_getf rfl rfl) ?_
  refine wp2b rfl rfl (fun c4 => ?_) (fun c4 => ?_)
  · refine wp0 rfl rfl ?_
    exact wpL rfl rfl (sb_44_26 hJ ((2 + k1)) (0) (by decide))
  · refine wp0 rfl rfl ?_
    refine wp2 rfl rfl ?_
    exact wpL rfl rfl (sb_44_26 hJ ((2 + k1)) (4) (by decide))
set_option maxRecDepth 20000 in
theorem sb_44_0 {s : cs} {mc : am_H} {D : List pgT} (hJ : J s mc D)   : tb_wp L xs 44 0 [(0, .ref 9)] [] (HH s mc D) (SJ mc) := by
  refine wp0 rfl rfl ?_
  refine wp1 rfl rfl ?_
  refine wp3 rfl (am_getf rfl rfl) ?_
  refine wp2b rfl rfl (fun c5 => ?_) (fun c5 => ?_)
  · refine wp0 rfl rfl ?_
    exact wpL rfl rfl (sb_44_13 hJ (0) b0)
  · refine wp0 rfl rfl ?_
    refine wp2 rfl rfl ?_
    exact wpL rfl rfl (sb_44_13 hJ (1) b1)
theorem sf_44 {s : cs} {mc : am_H} {D : List pgT} (hJ : J s mc D)   : tb_wp L xs 44 0 (lv_args 0 [.ref 9]) [] (HH s mc D) (SJ mc) := sb_44_0 hJ 
/- 45: FlagMachine$Flags.clear()V -/
set_option maxRecDepth 20000 in
theorem sb_45_0 {s : cs} {mc : am_H} {D : List pgT} (hJ : J s mc D)   : tb_wp L xs 45 0 [(0, .ref 9)] [] (HH s mc D) (SV mc) := by
  refine wp1 rfl rfl ?_
  refine wp0 rfl rfl ?_
  refine wp3 rfl (am_putf rfl (Nat.le_of_ble_eq_true rfl) (b01_nar b0) (b01_fit b0)) ?_
  have hJ1 := J_carry hJ b0
  refine wpH (h' := HH (s_carry s 0) mc D) rfl ?_
  refine wp1 rfl rfl ?_
  refine wp0 rfl rfl ?_
  refine wp3 rfl (am_putf rfl (Nat.le_of_ble_eq_true rfl) (b01_nar b0) (b01_fit b0)) ?_
  have hJ2 := J_parity hJ1 b0
  refine wpH (h' := HH (s_parity (s_carry s 0) 0) mc D) rfl ?_
  refine wp1 rfl rfl ?_
  refine wp0 rfl rfl ?_
  refine wp3 rfl (am_putf rfl (Nat.le_of_ble_eq_true rfl) (b01_nar b0) (b01_fit b0)) ?_
  have hJ3 := J_zero hJ2 b0
  refine wpH (h' := HH (s_zero (s_parity (s_carry s 0) 0) 0) mc D) rfl ?_
  refine wp1 rfl rfl ?_
  refine wp0 rfl rfl ?_
  refine wp3 rfl (am_putf rfl (Nat.le_of_ble_eq_true rfl) (b01_nar b0) (b01_fit b0)) ?_
  have hJ4 := J_sign hJ3 b0
  refine wpH (h' := HH (s_sign (s_zero (s_parity (s_carry s 0) 0) 0) 0) mc D) rfl ?_
  refine wp1 rfl rfl ?_
  refine wp0 rfl rfl ?_
  refine wp3 rfl (am_putf rfl (Nat.le_of_ble_eq_true rfl) (b01_nar b0) (b01_fit b0)) ?_
  have hJ5 := J_over hJ4 b0
  refine wpH (h' := HH (s_over (s_sign (s_zero (s_parity (s_carry s 0) 0) 0) 0) 0) mc D) rfl ?_
  exact wp5 rfl rfl ⟨_, _, hJ5, rfl, rfl⟩
theorem sf_45 {s : cs} {mc : am_H} {D : List pgT} (hJ : J s mc D)   : tb_wp L xs 45 0 (lv_args 0 [.ref 9]) [] (HH s mc D) (SV mc) := sb_45_0 hJ 
/- 47: FlagMachine$Flags.pairHolds(I)Z -/
set_option maxRecDepth 20000 in
theorem sb_47_129 {s : cs} {mc : am_H} {D : List pgT} (hJ : J s mc D) (k0 : Int32) (hb_k0 : b01 k0) : tb_wp L xs 47 129 [] [.int k0] (HH s mc D) (SZ mc) := by
  exact wp5z rfl rfl hb_k0 ⟨_, _, hJ, rfl, _, rfl, hb_k0⟩
set_option maxRecDepth 20000 in
theorem sb_47_124 {s : cs} {mc : am_H} {D : List pgT} (hJ : J s mc D)   : tb_wp L xs 47 124 [] [] (HH s mc D) (SZ mc) := by
  refine wp0 rfl rfl ?_
  refine wp2 rfl rfl ?_
  exact wpL rfl rfl (sb_47_129 hJ (1) b1)
set_option maxRecDepth 20000 in
theorem sb_47_105 {s : cs} {mc : am_H} {D : List pgT} (hJ : J s mc D) (k0 : Int32) (hb_k0 : b01 k0) : tb_wp L xs 47 105 [] [.int k0] (HH s mc D) (SZ mc) := by
  exact wp5z rfl rfl hb_k0 ⟨_, _, hJ, rfl, _, rfl, hb_k0⟩
set_option maxRecDepth 20000 in
theorem sb_47_78 {s : cs} {mc : am_H} {D : List pgT} (hJ : J s mc D) (k0 : Int32) (hb_k0 : b01 k0) : tb_wp L xs 47 78 [] [.int k0] (HH s mc D) (SZ mc) := by
  exact wp5z rfl rfl hb_k0 ⟨_, _, hJ, rfl, _, rfl, hb_k0⟩
set_option maxRecDepth 20000 in
theorem sb_47_73 {s : cs} {mc : am_H} {D : List pgT} (hJ : J s mc D)   : tb_wp L xs 47 73 [] [] (HH s mc D) (SZ mc) := by
  refine wp0 rfl rfl ?_
  refine wp2 rfl rfl ?_
  exact wpL rfl rfl (sb_47_78 hJ (1) b1)
set_option maxRecDepth 20000 in
theorem sb_47_0 {s : cs} {mc : am_H} {D : List pgT} (hJ : J s mc D) (l1 : Int32)  : tb_wp L xs 47 0 [(0, .ref 9), (1, .int l1)] [] (HH s mc D) (SZ mc) := by
  refine wp1 rfl rfl ?_
  refine wp2s [44, 49, 54, 59, 79, 84, 89, 106] rfl rfl rfl rfl (am_fa1 ?_ (am_fa1 ?_ (am_fa1 ?_ (am_fa1 ?_ (am_fa1 ?_ (am_fa1 ?_ (am_fa1 ?_ (am_fa1 ?_ (am_fa0)))))))))
  · refine wp1 rfl rfl ?_
    refine wp3 rfl (am_getf rfl rfl) ?_
    exact wp5z rfl rfl hJ.2.2.2.2.2.1 ⟨_, _, hJ, rfl, _, rfl, hJ.2.2.2.2.2.1⟩
  · refine wp1 rfl rfl ?_
    refine wp3 rfl (am_getf rfl rfl) ?_
    exact wp5z rfl rfl hJ.2.1 ⟨_, _, hJ, rfl, _, rfl, hJ.2.1⟩
  · refine wp1 rfl rfl ?_
    refine wp3 rfl (am_getf rfl rfl) ?_
    exact wp5z rfl rfl hJ.2.2.2.1 ⟨_, _, hJ, rfl, _, rfl, hJ.2.2.2.1⟩
  · refine wp1 rfl rfl ?_
    refine wp3 rfl (am_getf rfl rfl) ?_
    refine wp2b rfl rfl (fun c1 => ?_) (fun c1 => ?_)
    · refine wp1 rfl rfl ?_
      refine wp3 rfl (am_getf rfl rfl) ?_
      refine wp2b rfl rfl (fun c2 => ?_) (fun c2 => ?_)
      · refine wp0 rfl rfl ?_
        exact wpL rfl rfl (sb_47_78 hJ (0) b0)
      · exact wpL rfl rfl (sb_47_73 hJ )
    · exact wpL rfl rfl (sb_47_73 hJ )
  · refine wp1 rfl rfl ?_
    refine wp3 rfl (am_getf rfl rfl) ?_
    exact wp5z rfl rfl hJ.2.2.2.2.1 ⟨_, _, hJ, rfl, _, rfl, hJ.2.2.2.2.1⟩
  · refine wp1 rfl rfl ?_
    refine wp3 rfl (am_getf rfl rfl) ?_
    exact wp5z rfl rfl hJ.2.2.1 ⟨_, _, hJ, rfl, _, rfl, hJ.2.2.1⟩
  · refine wp1 rfl rfl ?_
    refine wp3 rfl (am_getf rfl rfl) ?_
    refine wp1 rfl rfl ?_
    refine wp3 rfl (am_getf rfl rfl) ?_
    refine wp2b rfl rfl (fun c3 => ?_) (fun c3 => ?_)
    · refine wp0 rfl rfl ?_
      exact wpL rfl rfl (sb_47_105 hJ (0) b0)
    · refine wp0 rfl rfl ?_
      refine wp2 rfl rfl ?_
      exact wpL rfl rfl (sb_47_105 hJ (1) b1)
  · refine wp1 rfl rfl ?_
    refine wp3 rfl (am_getf rfl rfl) ?_
    refine wp2b rfl rfl (fun c4 => ?_) (fun c4 => ?_)
    · refine wp1 rfl rfl ?_
      refine wp3 rfl (am_getf rfl rfl) ?_
      refine wp1 rfl rfl ?_
      refine wp3 rfl (am_getf rfl rfl) ?_
      refine wp2b rfl rfl (fun c5 => ?_) (fun c5 => ?_)
      · refine wp0 rfl rfl ?_
        exact wpL rfl rfl (sb_47_129 hJ (0) b0)
      · exact wpL rfl rfl (sb_47_124 hJ )
    · exact wpL rfl rfl (sb_47_124 hJ )
theorem sf_47 {s : cs} {mc : am_H} {D : List pgT} (hJ : J s mc D) (l1 : Int32)  : tb_wp L xs 47 0 (lv_args 0 [.ref 9, .int l1]) [] (HH s mc D) (SZ mc) := sb_47_0 hJ l1
/- 50: FlagMachine$Flags.tellOversize(Z)V -/
set_option maxRecDepth 20000 in
theorem sb_50_0 {s : cs} {mc : am_H} {D : List pgT} (hJ : J s mc D) (l1 : Int32) (hb_l1 : b01 l1) : tb_wp L xs 50 0 [(0, .ref 9), (1, .int l1)] [] (HH s mc D) (SV mc) := by
  refine wp1 rfl rfl ?_
  refine wp1 rfl rfl ?_
  refine wp3 rfl (am_putf rfl (Nat.le_of_ble_eq_true rfl) (b01_nar hb_l1) (b01_fit hb_l1)) ?_
  have hJ1 := J_carry hJ hb_l1
  refine wpH (h' := HH (s_carry s l1) mc D) rfl ?_
  refine wp1 rfl rfl ?_
  refine wp1 rfl rfl ?_
  refine wp3 rfl (am_putf rfl (Nat.le_of_ble_eq_true rfl) (b01_nar hb_l1) (b01_fit hb_l1)) ?_
  have hJ2 := J_over hJ1 hb_l1
  refine wpH (h' := HH (s_over (s_carry s l1) l1) mc D) rfl ?_
  exact wp5 rfl rfl ⟨_, _, hJ2, rfl, rfl⟩
theorem sf_50 {s : cs} {mc : am_H} {D : List pgT} (hJ : J s mc D) (l1 : Int32) (hb_l1 : b01 l1) : tb_wp L xs 50 0 (lv_args 0 [.ref 9, .int l1]) [] (HH s mc D) (SV mc) := sb_50_0 hJ l1 hb_l1
/- 54: FlagMachine$Instruction.conditionFits()Z -/
set_option maxRecDepth 20000 in
theorem sb_54_53 {s : cs} {mc : am_H} {D : List pgT} (hJ : J s mc D) (k0 : Int32) (hb_k0 : b01 k0) : tb_wp L xs 54 53 [] [.int k0] (HH s mc D) (SZ mc) := by
  exact wp5z rfl rfl hb_k0 ⟨_, _, hJ, rfl, _, rfl, hb_k0⟩
set_option maxRecDepth 20000 in
theorem sb_54_52 {s : cs} {mc : am_H} {D : List pgT} (hJ : J s mc D)   : tb_wp L xs 54 52 [] [] (HH s mc D) (SZ mc) := by
  refine wp0 rfl rfl ?_
  exact wpL rfl rfl (sb_54_53 hJ (0) b0)
set_option maxRecDepth 20000 in
theorem sb_54_45 {s : cs} {mc : am_H} {D : List pgT} (hJ : J s mc D) (k0 : Int32) (k1 : Int32) (hn_k1 : 0 ≤ Int32.toInt k1) : tb_wp L xs 54 45 [] [.int k1, .int k0] (HH s mc D) (SZ mc) := by
  refine wp2b rfl rfl (fun c1 => ?_) (fun c1 => ?_)
  · exact wpL rfl rfl (sb_54_52 hJ )
  · refine wp0 rfl rfl ?_
    refine wp2 rfl rfl ?_
    exact wpL rfl rfl (sb_54_53 hJ (1) b1)
set_option maxRecDepth 20000 in
theorem sb_54_23 {s : cs} {mc : am_H} {D : List pgT} (hJ : J s mc D) (k0 : Int32) (hb_k0 : b01 k0) : tb_wp L xs 54 23 [(0, .ref 2)] [.int k0] (HH s mc D) (SZ mc) := by
  refine wp1 rfl rfl ?_
  refine wpV (lv' := [(0, .ref 2), (1, .int k0)]) rfl ?_
  refine wp1 rfl rfl ?_
  refine wp3 rfl (am_getf rfl rfl) ?_
  refine wp2b rfl rfl (fun c2 => ?_) (fun c2 => ?_)
  · exact wpL rfl rfl (sb_54_52 hJ )
  · refine wp1 rfl rfl ?_
    refine wp3 rfl (am_getf rfl rfl) ?_
    refine wp1 rfl rfl ?_
    refine wp2b rfl rfl (fun c3 => ?_) (fun c3 => ?_)
    · refine wp0 rfl rfl ?_
      exact wpL rfl rfl (sb_54_45 hJ ((g_condition s)) (0) (by decide))
    · refine wp0 rfl rfl ?_
      refine wp2 rfl rfl ?_
      exact wpL rfl rfl (sb_54_45 hJ ((g_condition s)) (15) (by decide))
set_option maxRecDepth 20000 in
theorem sb_54_22 {s : cs} {mc : am_H} {D : List pgT} (hJ : J s mc D)   : tb_wp L xs 54 22 [(0, .ref 2)] [] (HH s mc D) (SZ mc) := by
  refine wp0 rfl rfl ?_
  exact wpL rfl rfl (sb_54_23 hJ (0) b0)
set_option maxRecDepth 20000 in
theorem sb_54_0 {s : cs} {mc : am_H} {D : List pgT} (hJ : J s mc D)   : tb_wp L xs 54 0 [(0, .ref 2)] [] (HH s mc D) (SZ mc) := by
  refine wp1 rfl rfl ?_
  refine wp3 rfl (am_getf rfl rfl) ?_
  refine wp0 rfl rfl ?_
  refine wp2b rfl rfl (fun c4 => ?_) (fun c4 => ?_)
  · exact wpL rfl rfl (sb_54_22 hJ )
  · refine wp1 rfl rfl ?_
    refine wp3 rfl (am_getf rfl rfl) ?_
    refine wp0 rfl rfl ?_
    refine wp2b rfl rfl (fun c5 => ?_) (fun c5 => ?_)
    · exact wpL rfl rfl (sb_54_22 hJ )
    · refine wp0 rfl rfl ?_
      refine wp2 rfl rfl ?_
      exact wpL rfl rfl (sb_54_23 hJ (1) b1)
theorem sf_54 {s : cs} {mc : am_H} {D : List pgT} (hJ : J s mc D)   : tb_wp L xs 54 0 (lv_args 0 [.ref 2]) [] (HH s mc D) (SZ mc) := sb_54_0 hJ 
/- 55: FlagMachine$Instruction.has(I)Z -/
set_option maxRecDepth 20000 in
theorem sb_55_35 {s : cs} {mc : am_H} {D : List pgT} (hJ : J s mc D) (k0 : Int32) (hb_k0 : b01 k0) : tb_wp L xs 55 35 [] [.int k0] (HH s mc D) (SZ mc) := by
  exact wp5z rfl rfl hb_k0 ⟨_, _, hJ, rfl, _, rfl, hb_k0⟩
set_option maxRecDepth 20000 in
theorem sb_55_30 {s : cs} {mc : am_H} {D : List pgT} (hJ : J s mc D)   : tb_wp L xs 55 30 [] [] (HH s mc D) (SZ mc) := by
  refine wp0 rfl rfl ?_
  refine wp2 rfl rfl ?_
  exact wpL rfl rfl (sb_55_35 hJ (1) b1)
set_option maxRecDepth 20000 in
theorem sb_55_0 {s : cs} {mc : am_H} {D : List pgT} (hJ : J s mc D) (l1 : Int32)  : tb_wp L xs 55 0 [(0, .ref 2), (1, .int l1)] [] (HH s mc D) (SZ mc) := by
  refine wp1 rfl rfl ?_
  refine wp3 rfl (am_getf rfl rfl) ?_
  refine wp0 rfl rfl ?_
  refine wp3 rfl (am_iald rfl (by decide)) ?_
  refine wp1 rfl rfl ?_
  refine wp2b rfl rfl (fun c1 => ?_) (fun c1 => ?_)
  · exact wpL rfl rfl (sb_55_30 hJ )
  · refine wp1 rfl rfl ?_
    refine wp3 rfl (am_getf rfl rfl) ?_
    refine wp0 rfl rfl ?_
    refine wp3 rfl (am_iald rfl (by decide)) ?_
    refine wp1 rfl rfl ?_
    refine wp2b rfl rfl (fun c2 => ?_) (fun c2 => ?_)
    · exact wpL rfl rfl (sb_55_30 hJ )
    · refine wp1 rfl rfl ?_
      refine wp3 rfl (am_getf rfl rfl) ?_
      refine wp0 rfl rfl ?_
      refine wp3 rfl (am_iald rfl (by decide)) ?_
      refine wp1 rfl rfl ?_
      refine wp2b rfl rfl (fun c3 => ?_) (fun c3 => ?_)
      · exact wpL rfl rfl (sb_55_30 hJ )
      · refine wp0 rfl rfl ?_
        exact wpL rfl rfl (sb_55_35 hJ (0) b0)
theorem sf_55 {s : cs} {mc : am_H} {D : List pgT} (hJ : J s mc D) (l1 : Int32)  : tb_wp L xs 55 0 (lv_args 0 [.ref 2, .int l1]) [] (HH s mc D) (SZ mc) := sb_55_0 hJ l1
/- 56: FlagMachine$Instruction.isPlace(I)Z -/
set_option maxRecDepth 20000 in
theorem sb_56_15 {s : cs} {mc : am_H} {D : List pgT} (hJ : J s mc D) (k0 : Int32) (hb_k0 : b01 k0) : tb_wp L xs 56 15 [] [.int k0] (HH s mc D) (SZ mc) := by
  exact wp5z rfl rfl hb_k0 ⟨_, _, hJ, rfl, _, rfl, hb_k0⟩
set_option maxRecDepth 20000 in
theorem sb_56_10 {s : cs} {mc : am_H} {D : List pgT} (hJ : J s mc D)   : tb_wp L xs 56 10 [] [] (HH s mc D) (SZ mc) := by
  refine wp0 rfl rfl ?_
  refine wp2 rfl rfl ?_
  exact wpL rfl rfl (sb_56_15 hJ (1) b1)
set_option maxRecDepth 20000 in
theorem sb_56_0 {s : cs} {mc : am_H} {D : List pgT} (hJ : J s mc D) (l0 : Int32)  : tb_wp L xs 56 0 [(0, .int l0)] [] (HH s mc D) (SZ mc) := by
  refine wp1 rfl rfl ?_
  refine wp0 rfl rfl ?_
  refine wp2b rfl rfl (fun c1 => ?_) (fun c1 => ?_)
  · exact wpL rfl rfl (sb_56_10 hJ )
  · refine wp1 rfl rfl ?_
    refine wp0 rfl rfl ?_
    refine wp2b rfl rfl (fun c2 => ?_) (fun c2 => ?_)
    · exact wpL rfl rfl (sb_56_10 hJ )
    · refine wp0 rfl rfl ?_
      exact wpL rfl rfl (sb_56_15 hJ (0) b0)
theorem sf_56 {s : cs} {mc : am_H} {D : List pgT} (hJ : J s mc D) (l0 : Int32)  : tb_wp L xs 56 0 (lv_args 0 [.int l0]) [] (HH s mc D) (SZ mc) := sb_56_0 hJ l0
/- 58: FlagMachine$Instruction.memoryFits()Z -/
set_option maxRecDepth 20000 in
theorem sb_58_113 {s : cs} {mc : am_H} {D : List pgT} (hJ : J s mc D) (k0 : Int32) (hb_k0 : b01 k0) : tb_wp L xs 58 113 [] [.int k0] (HH s mc D) (SZ mc) := by
  exact wp5z rfl rfl hb_k0 ⟨_, _, hJ, rfl, _, rfl, hb_k0⟩
set_option maxRecDepth 20000 in
theorem sb_58_112 {s : cs} {mc : am_H} {D : List pgT} (hJ : J s mc D)   : tb_wp L xs 58 112 [] [] (HH s mc D) (SZ mc) := by
  refine wp0 rfl rfl ?_
  exact wpL rfl rfl (sb_58_113 hJ (0) b0)
set_option maxRecDepth 20000 in
theorem sb_58_108 {s : cs} {mc : am_H} {D : List pgT} (hJ : J s mc D)   : tb_wp L xs 58 108 [] [] (HH s mc D) (SZ mc) := by
  refine wp0 rfl rfl ?_
  refine wp2 rfl rfl ?_
  exact wpL rfl rfl (sb_58_113 hJ (1) b1)
set_option maxRecDepth 20000 in
theorem sb_58_65 {s : cs} {mc : am_H} {D : List pgT} (hJ : J s mc D) (k0 : Int32) (hb_k0 : b01 k0) : tb_wp L xs 58 65 [] [.int k0] (HH s mc D) (SZ mc) := by
  exact wp5z rfl rfl hb_k0 ⟨_, _, hJ, rfl, _, rfl, hb_k0⟩
set_option maxRecDepth 20000 in
theorem sb_58_42 {s : cs} {mc : am_H} {D : List pgT} (hJ : J s mc D)   : tb_wp L xs 58 42 [] [] (HH s mc D) (SZ mc) := by
  refine wp0 rfl rfl ?_
  exact wp5z rfl rfl b0 ⟨_, _, hJ, rfl, _, rfl, b0⟩
set_option maxRecDepth 20000 in
theorem sb_58_0 {s : cs} {mc : am_H} {D : List pgT} (hJ : J s mc D)   : tb_wp L xs 58 0 [(0, .ref 2)] [] (HH s mc D) (SZ mc) := by
  refine wp1 rfl rfl ?_
  refine wp3 rfl (am_getf rfl rfl) ?_
  refine wp0 rfl rfl ?_
  refine wp2b rfl rfl (fun c1 => ?_) (fun c1 => ?_)
  · exact wpL rfl rfl (sb_58_42 hJ )
  · refine wp1 rfl rfl ?_
    refine wp3 rfl (am_getf rfl rfl) ?_
    refine wp0 rfl rfl ?_
    refine wp2b rfl rfl (fun c2 => ?_) (fun c2 => ?_)
    · exact wpL rfl rfl (sb_58_42 hJ )
    · refine wp1 rfl rfl ?_
      refine wp3 rfl (am_getf rfl rfl) ?_
      refine wp0 rfl rfl ?_
      refine wp2b rfl rfl (fun c3 => ?_) (fun c3 => ?_)
      · exact wpL rfl rfl (sb_58_42 hJ )
      · refine wp1 rfl rfl ?_
        refine wp3 rfl (am_getf rfl rfl) ?_
        refine wp0 rfl rfl ?_
        refine wp2b rfl rfl (fun c4 => ?_) (fun c4 => ?_)
        · exact wpL rfl rfl (sb_58_42 hJ )
        · refine wp1 rfl rfl ?_
          refine wp3 rfl (am_getf rfl rfl) ?_
          refine wp0 rfl rfl ?_
          refine wp2b rfl rfl (fun c5 => ?_) (fun c5 => ?_)
          · exact wpL rfl rfl (sb_58_42 hJ )
          · refine wp1 rfl rfl ?_
            refine wp3 rfl (am_getf rfl rfl) ?_
            refine wp0 rfl rfl ?_
            refine wp2b rfl rfl (fun c6 => ?_) (fun c6 => ?_)
            · refine wp1 rfl rfl ?_
              refine wp3 rfl (am_getf rfl rfl) ?_
              refine wp0 rfl rfl ?_
              refine wp2b rfl rfl (fun c7 => ?_) (fun c7 => ?_)
              · refine wp0 rfl rfl ?_
                refine wp2 rfl rfl ?_
                exact wpL rfl rfl (sb_58_65 hJ (1) b1)
              · refine wp0 rfl rfl ?_
                exact wpL rfl rfl (sb_58_65 hJ (0) b0)
            · refine wp1 rfl rfl ?_
              refine wp3 rfl (am_getf rfl rfl) ?_
              refine wp0 rfl rfl ?_
              refine wp2b rfl rfl (fun c8 => ?_) (fun c8 => ?_)
              · exact wpL rfl rfl (sb_58_112 hJ )
              · refine wp1 rfl rfl ?_
                refine wp3 rfl (am_getf rfl rfl) ?_
                refine wp0 rfl rfl ?_
                refine wp2b rfl rfl (fun c9 => ?_) (fun c9 => ?_)
                · exact wpL rfl rfl (sb_58_108 hJ )
                · refine wp1 rfl rfl ?_
                  refine wp3 rfl (am_getf rfl rfl) ?_
                  refine wp0 rfl rfl ?_
                  refine wp2b rfl rfl (fun c10 => ?_) (fun c10 => ?_)
                  · exact wpL rfl rfl (sb_58_108 hJ )
                  · refine wp1 rfl rfl ?_
                    refine wp3 rfl (am_getf rfl rfl) ?_
                    refine wp0 rfl rfl ?_
                    refine wp2b rfl rfl (fun c11 => ?_) (fun c11 => ?_)
                    · exact wpL rfl rfl (sb_58_108 hJ )
                    · refine wp1 rfl rfl ?_
                      refine wp3 rfl (am_getf rfl rfl) ?_
                      refine wp0 rfl rfl ?_
                      refine wp2b rfl rfl (fun c12 => ?_) (fun c12 => ?_)
                      · exact wpL rfl rfl (sb_58_108 hJ )
                      · exact wpL rfl rfl (sb_58_112 hJ )
theorem sf_58 {s : cs} {mc : am_H} {D : List pgT} (hJ : J s mc D)   : tb_wp L xs 58 0 (lv_args 0 [.ref 2]) [] (HH s mc D) (SZ mc) := sb_58_0 hJ 
/- 59: FlagMachine$Instruction.numberFits()Z -/
set_option maxRecDepth 20000 in
theorem sb_59_219 {s : cs} {mc : am_H} {D : List pgT} (hJ : J s mc D) (k0 : Int32) (hb_k0 : b01 k0) : tb_wp L xs 59 219 [] [.int k0] (HH s mc D) (SZ mc) := by
  exact wp5z rfl rfl hb_k0 ⟨_, _, hJ, rfl, _, rfl, hb_k0⟩
set_option maxRecDepth 20000 in
theorem sb_59_214 {s : cs} {mc : am_H} {D : List pgT} (hJ : J s mc D)   : tb_wp L xs 59 214 [] [] (HH s mc D) (SZ mc) := by
  refine wp0 rfl rfl ?_
  refine wp2 rfl rfl ?_
  exact wpL rfl rfl (sb_59_219 hJ (1) b1)
set_option maxRecDepth 20000 in
theorem sb_59_207 {s : cs} {mc : am_H} {D : List pgT} (hJ : J s mc D) (k0 : Int64) (k1 : Int64) (k2 : Int32) (hn_k2 : 0 ≤ Int32.toInt k2) : tb_wp L xs 59 207 [] [.int k2, .long k1, .long k0] (HH s mc D) (SZ mc) := by
  refine wp4 rfl rfl (sf_17 hJ (k1) (k2)) (fun rv h1 hq => ?_)
  obtain ⟨s2, D3, hJ4, rfl, x5, rfl⟩ := hq
  refine wp0 rfl rfl ?_
  refine wp2b rfl rfl (fun c6 => ?_) (fun c6 => ?_)
  · exact wpL rfl rfl (sb_59_214 hJ4 )
  · refine wp0 rfl rfl ?_
    exact wpL rfl rfl (sb_59_219 hJ4 (0) b0)
set_option maxRecDepth 20000 in
theorem sb_59_186 {s : cs} {mc : am_H} {D : List pgT} (hJ : J s mc D)   : tb_wp L xs 59 186 [(0, .ref 2)] [] (HH s mc D) (SZ mc) := by
  refine wp1 rfl rfl ?_
  refine wp3 rfl (am_getf rfl rfl) ?_
  refine wp1 rfl rfl ?_
  refine wp3 rfl (am_getf rfl rfl) ?_
  refine wp1 rfl rfl ?_
  refine wp3 rfl (am_getf rfl rfl) ?_
  refine wp0 rfl rfl ?_
  refine wp2b rfl rfl (fun c7 => ?_) (fun c7 => ?_)
  · refine wp0 rfl rfl ?_
    refine wp2 rfl rfl ?_
    exact wpL rfl rfl (sb_59_207 hJ ((g_number s)) ((g_number s)) (1) (by decide))
  · refine wp0 rfl rfl ?_
    exact wpL rfl rfl (sb_59_207 hJ ((g_number s)) ((g_number s)) (4) (by decide))
set_option maxRecDepth 20000 in
theorem sb_59_167 {s : cs} {mc : am_H} {D : List pgT} (hJ : J s mc D) (k0 : Int32) (hb_k0 : b01 k0) : tb_wp L xs 59 167 [] [.int k0] (HH s mc D) (SZ mc) := by
  exact wp5z rfl rfl hb_k0 ⟨_, _, hJ, rfl, _, rfl, hb_k0⟩
set_option maxRecDepth 20000 in
theorem sb_59_166 {s : cs} {mc : am_H} {D : List pgT} (hJ : J s mc D)   : tb_wp L xs 59 166 [] [] (HH s mc D) (SZ mc) := by
  refine wp0 rfl rfl ?_
  exact wpL rfl rfl (sb_59_167 hJ (0) b0)
set_option maxRecDepth 20000 in
theorem sb_59_141 {s : cs} {mc : am_H} {D : List pgT} (hJ : J s mc D) (k0 : Int32) (hb_k0 : b01 k0) : tb_wp L xs 59 141 [] [.int k0] (HH s mc D) (SZ mc) := by
  exact wp5z rfl rfl hb_k0 ⟨_, _, hJ, rfl, _, rfl, hb_k0⟩
set_option maxRecDepth 20000 in
theorem sb_59_140 {s : cs} {mc : am_H} {D : List pgT} (hJ : J s mc D)   : tb_wp L xs 59 140 [] [] (HH s mc D) (SZ mc) := by
  refine wp0 rfl rfl ?_
  exact wpL rfl rfl (sb_59_141 hJ (0) b0)
set_option maxRecDepth 20000 in
theorem sb_59_0 {s : cs} {mc : am_H} {D : List pgT} (hJ : J s mc D)   : tb_wp L xs 59 0 [(0, .ref 2)] [] (HH s mc D) (SZ mc) := by
  refine wp1 rfl rfl ?_
  refine wp3 rfl (am_getf rfl rfl) ?_
  refine wp2s [116, 142, 168] rfl rfl rfl rfl (am_fa1 ?_ (am_fa1 ?_ (am_fa1 ?_ (am_fa0))))
  · refine wp1 rfl rfl ?_
    refine wp3 rfl (am_getf rfl rfl) ?_
    refine wp0 rfl rfl ?_
    refine wp0 rfl rfl ?_
    refine wp2b rfl rfl (fun c8 => ?_) (fun c8 => ?_)
    · exact wpL rfl rfl (sb_59_140 hJ )
    · refine wp1 rfl rfl ?_
      refine wp3 rfl (am_getf rfl rfl) ?_
      refine wp0 rfl rfl ?_
      refine wp0 rfl rfl ?_
      refine wp2b rfl rfl (fun c9 => ?_) (fun c9 => ?_)
      · exact wpL rfl rfl (sb_59_140 hJ )
      · refine wp0 rfl rfl ?_
        refine wp2 rfl rfl ?_
        exact wpL rfl rfl (sb_59_141 hJ (1) b1)
  · refine wp1 rfl rfl ?_
    refine wp3 rfl (am_getf rfl rfl) ?_
    refine wp0 rfl rfl ?_
    refine wp0 rfl rfl ?_
    refine wp2b rfl rfl (fun c10 => ?_) (fun c10 => ?_)
    · exact wpL rfl rfl (sb_59_166 hJ )
    · refine wp1 rfl rfl ?_
      refine wp3 rfl (am_getf rfl rfl) ?_
      refine wp0 rfl rfl ?_
      refine wp0 rfl rfl ?_
      refine wp2b rfl rfl (fun c11 => ?_) (fun c11 => ?_)
      · exact wpL rfl rfl (sb_59_166 hJ )
      · refine wp0 rfl rfl ?_
        refine wp2 rfl rfl ?_
        exact wpL rfl rfl (sb_59_167 hJ (1) b1)
  · refine wp1 rfl rfl ?_
    refine wp3 rfl (am_getf rfl rfl) ?_
    refine wp0 rfl rfl ?_
    refine wp2b rfl rfl (fun c12 => ?_) (fun c12 => ?_)
    · refine wp1 rfl rfl ?_
      refine wp3 rfl (am_getf rfl rfl) ?_
      refine wp0 rfl rfl ?_
      refine wp2b rfl rfl (fun c13 => ?_) (fun c13 => ?_)
      · exact wpL rfl rfl (sb_59_214 hJ )
      · exact wpL rfl rfl (sb_59_186 hJ )
    · exact wpL rfl rfl (sb_59_186 hJ )
theorem sf_59 {s : cs} {mc : am_H} {D : List pgT} (hJ : J s mc D)   : tb_wp L xs 59 0 (lv_args 0 [.ref 2]) [] (HH s mc D) (SZ mc) := sb_59_0 hJ 
/- 60: FlagMachine$Instruction.onlyOperandFits(I)Z -/
set_option maxRecDepth 20000 in
theorem sb_60_209 {s : cs} {mc : am_H} {D : List pgT} (hJ : J s mc D) (k0 : Int32) (hb_k0 : b01 k0) : tb_wp L xs 60 209 [] [.int k0] (HH s mc D) (SZ mc) := by
  exact wp5z rfl rfl hb_k0 ⟨_, _, hJ, rfl, _, rfl, hb_k0⟩
set_option maxRecDepth 20000 in
theorem sb_60_199 {s : cs} {mc : am_H} {D : List pgT} (hJ : J s mc D) (k0 : Int32) (hb_k0 : b01 k0) : tb_wp L xs 60 199 [] [.int k0] (HH s mc D) (SZ mc) := by
  exact wp5z rfl rfl hb_k0 ⟨_, _, hJ, rfl, _, rfl, hb_k0⟩
set_option maxRecDepth 20000 in
theorem sb_60_188 {s : cs} {mc : am_H} {D : List pgT} (hJ : J s mc D) (k0 : Int32) (hb_k0 : b01 k0) : tb_wp L xs 60 188 [] [.int k0] (HH s mc D) (SZ mc) := by
  exact wp5z rfl rfl hb_k0 ⟨_, _, hJ, rfl, _, rfl, hb_k0⟩
set_option maxRecDepth 20000 in
theorem sb_60_177 {s : cs} {mc : am_H} {D : List pgT} (hJ : J s mc D) (k0 : Int32) (hb_k0 : b01 k0) : tb_wp L xs 60 177 [] [.int k0] (HH s mc D) (SZ mc) := by
  exact wp5z rfl rfl hb_k0 ⟨_, _, hJ, rfl, _, rfl, hb_k0⟩
set_option maxRecDepth 20000 in
theorem sb_60_172 {s : cs} {mc : am_H} {D : List pgT} (hJ : J s mc D)   : tb_wp L xs 60 172 [] [] (HH s mc D) (SZ mc) := by
  refine wp0 rfl rfl ?_
  refine wp2 rfl rfl ?_
  exact wpL rfl rfl (sb_60_177 hJ (1) b1)
set_option maxRecDepth 20000 in
theorem sb_60_162 {s : cs} {mc : am_H} {D : List pgT} (hJ : J s mc D) (k0 : Int32) (hb_k0 : b01 k0) : tb_wp L xs 60 162 [] [.int k0] (HH s mc D) (SZ mc) := by
  exact wp5z rfl rfl hb_k0 ⟨_, _, hJ, rfl, _, rfl, hb_k0⟩
set_option maxRecDepth 20000 in
theorem sb_60_0 {s : cs} {mc : am_H} {D : List pgT} (hJ : J s mc D) (l1 : Int32)  : tb_wp L xs 60 0 [(0, .ref 2), (1, .int l1)] [] (HH s mc D) (SZ mc) := by
  refine wp1 rfl rfl ?_
  refine wp3 rfl (am_getf rfl rfl) ?_
  refine wp2s [148, 153, 163, 178, 189, 200] rfl rfl rfl rfl (am_fa1 ?_ (am_fa1 ?_ (am_fa1 ?_ (am_fa1 ?_ (am_fa1 ?_ (am_fa1 ?_ (am_fa0)))))))
  · refine wp1 rfl rfl ?_
    refine wp4 rfl rfl (sf_56 hJ (l1)) (fun rv h1 hq => ?_)
    obtain ⟨s2, D3, hJ4, rfl, x5, rfl, hb_x5⟩ := hq
    exact wp5z rfl rfl hb_x5 ⟨_, _, hJ4, rfl, _, rfl, hb_x5⟩
  · refine wp1 rfl rfl ?_
    refine wp2b rfl rfl (fun c6 => ?_) (fun c6 => ?_)
    · refine wp0 rfl rfl ?_
      exact wpL rfl rfl (sb_60_162 hJ (0) b0)
    · refine wp0 rfl rfl ?_
      refine wp2 rfl rfl ?_
      exact wpL rfl rfl (sb_60_162 hJ (1) b1)
  · refine wp1 rfl rfl ?_
    refine wp2b rfl rfl (fun c7 => ?_) (fun c7 => ?_)
    · exact wpL rfl rfl (sb_60_172 hJ )
    · refine wp1 rfl rfl ?_
      refine wp0 rfl rfl ?_
      refine wp2b rfl rfl (fun c8 => ?_) (fun c8 => ?_)
      · exact wpL rfl rfl (sb_60_172 hJ )
      · refine wp0 rfl rfl ?_
        exact wpL rfl rfl (sb_60_177 hJ (0) b0)
  · refine wp1 rfl rfl ?_
    refine wp0 rfl rfl ?_
    refine wp2b rfl rfl (fun c9 => ?_) (fun c9 => ?_)
    · refine wp0 rfl rfl ?_
      refine wp2 rfl rfl ?_
      exact wpL rfl rfl (sb_60_188 hJ (1) b1)
    · refine wp0 rfl rfl ?_
      exact wpL rfl rfl (sb_60_188 hJ (0) b0)
  · refine wp1 rfl rfl ?_
    refine wp0 rfl rfl ?_
    refine wp2b rfl rfl (fun c10 => ?_) (fun c10 => ?_)
    · refine wp0 rfl rfl ?_
      refine wp2 rfl rfl ?_
      exact wpL rfl rfl (sb_60_199 hJ (1) b1)
    · refine wp0 rfl rfl ?_
      exact wpL rfl rfl (sb_60_199 hJ (0) b0)
  · refine wp1 rfl rfl ?_
    refine wp2b rfl rfl (fun c11 => ?_) (fun c11 => ?_)
    · refine wp0 rfl rfl ?_
      refine wp2 rfl rfl ?_
      exact wpL rfl rfl (sb_60_209 hJ (1) b1)
    · refine wp0 rfl rfl ?_
      exact wpL rfl rfl (sb_60_209 hJ (0) b0)
theorem sf_60 {s : cs} {mc : am_H} {D : List pgT} (hJ : J s mc D) (l1 : Int32)  : tb_wp L xs 60 0 (lv_args 0 [.ref 2, .int l1]) [] (HH s mc D) (SZ mc) := sb_60_0 hJ l1
/- 61: FlagMachine$Instruction.operandsFit()Z -/
set_option maxRecDepth 20000 in
theorem sb_61_390 {s : cs} {mc : am_H} {D : List pgT} (hJ : J s mc D) (k0 : Int32) (hb_k0 : b01 k0) : tb_wp L xs 61 390 [] [.int k0] (HH s mc D) (SZ mc) := by
  exact wp5z rfl rfl hb_k0 ⟨_, _, hJ, rfl, _, rfl, hb_k0⟩
set_option maxRecDepth 20000 in
theorem sb_61_389 {s : cs} {mc : am_H} {D : List pgT} (hJ : J s mc D)   : tb_wp L xs 61 389 [] [] (HH s mc D) (SZ mc) := by
  refine wp0 rfl rfl ?_
  exact wpL rfl rfl (sb_61_390 hJ (0) b0)
set_option maxRecDepth 20000 in
theorem sb_61_372 {s : cs} {mc : am_H} {D : List pgT} (hJ : J s mc D) (k0 : Int32) (hb_k0 : b01 k0) : tb_wp L xs 61 372 [] [.int k0] (HH s mc D) (SZ mc) := by
  exact wp5z rfl rfl hb_k0 ⟨_, _, hJ, rfl, _, rfl, hb_k0⟩
set_option maxRecDepth 20000 in
theorem sb_61_371 {s : cs} {mc : am_H} {D : List pgT} (hJ : J s mc D)   : tb_wp L xs 61 371 [] [] (HH s mc D) (SZ mc) := by
  refine wp0 rfl rfl ?_
  exact wpL rfl rfl (sb_61_372 hJ (0) b0)
set_option maxRecDepth 20000 in
theorem sb_61_367 {s : cs} {mc : am_H} {D : List pgT} (hJ : J s mc D)   : tb_wp L xs 61 367 [] [] (HH s mc D) (SZ mc) := by
  refine wp0 rfl rfl ?_
  refine wp2 rfl rfl ?_
  exact wpL rfl rfl (sb_61_372 hJ (1) b1)
set_option maxRecDepth 20000 in
theorem sb_61_339 {s : cs} {mc : am_H} {D : List pgT} (hJ : J s mc D) (k0 : Int32) (hb_k0 : b01 k0) : tb_wp L xs 61 339 [] [.int k0] (HH s mc D) (SZ mc) := by
  exact wp5z rfl rfl hb_k0 ⟨_, _, hJ, rfl, _, rfl, hb_k0⟩
set_option maxRecDepth 20000 in
theorem sb_61_338 {s : cs} {mc : am_H} {D : List pgT} (hJ : J s mc D)   : tb_wp L xs 61 338 [] [] (HH s mc D) (SZ mc) := by
  refine wp0 rfl rfl ?_
  exact wpL rfl rfl (sb_61_339 hJ (0) b0)
set_option maxRecDepth 20000 in
theorem sb_61_321 {s : cs} {mc : am_H} {D : List pgT} (hJ : J s mc D) (k0 : Int32) (hb_k0 : b01 k0) : tb_wp L xs 61 321 [] [.int k0] (HH s mc D) (SZ mc) := by
  exact wp5z rfl rfl hb_k0 ⟨_, _, hJ, rfl, _, rfl, hb_k0⟩
set_option maxRecDepth 20000 in
theorem sb_61_320 {s : cs} {mc : am_H} {D : List pgT} (hJ : J s mc D)   : tb_wp L xs 61 320 [] [] (HH s mc D) (SZ mc) := by
  refine wp0 rfl rfl ?_
  exact wpL rfl rfl (sb_61_321 hJ (0) b0)
set_option maxRecDepth 20000 in
theorem sb_61_305 {s : cs} {mc : am_H} {D : List pgT} (hJ : J s mc D) (k0 : Int32) (hb_k0 : b01 k0) : tb_wp L xs 61 305 [] [.int k0] (HH s mc D) (SZ mc) := by
  exact wp5z rfl rfl hb_k0 ⟨_, _, hJ, rfl, _, rfl, hb_k0⟩
set_option maxRecDepth 20000 in
theorem sb_61_304 {s : cs} {mc : am_H} {D : List pgT} (hJ : J s mc D)   : tb_wp L xs 61 304 [] [] (HH s mc D) (SZ mc) := by
  refine wp0 rfl rfl ?_
  exact wpL rfl rfl (sb_61_305 hJ (0) b0)
set_option maxRecDepth 20000 in
theorem sb_61_287 {s : cs} {mc : am_H} {D : List pgT} (hJ : J s mc D) (k0 : Int32) (hb_k0 : b01 k0) : tb_wp L xs 61 287 [] [.int k0] (HH s mc D) (SZ mc) := by
  exact wp5z rfl rfl hb_k0 ⟨_, _, hJ, rfl, _, rfl, hb_k0⟩
set_option maxRecDepth 20000 in
theorem sb_61_286 {s : cs} {mc : am_H} {D : List pgT} (hJ : J s mc D)   : tb_wp L xs 61 286 [] [] (HH s mc D) (SZ mc) := by
  refine wp0 rfl rfl ?_
  exact wpL rfl rfl (sb_61_287 hJ (0) b0)
set_option maxRecDepth 20000 in
theorem sb_61_282 {s : cs} {mc : am_H} {D : List pgT} (hJ : J s mc D)   : tb_wp L xs 61 282 [] [] (HH s mc D) (SZ mc) := by
  refine wp0 rfl rfl ?_
  refine wp2 rfl rfl ?_
  exact wpL rfl rfl (sb_61_287 hJ (1) b1)
set_option maxRecDepth 20000 in
theorem sb_61_264 {s : cs} {mc : am_H} {D : List pgT} (hJ : J s mc D) (k0 : Int32) (hb_k0 : b01 k0) : tb_wp L xs 61 264 [] [.int k0] (HH s mc D) (SZ mc) := by
  exact wp5z rfl rfl hb_k0 ⟨_, _, hJ, rfl, _, rfl, hb_k0⟩
set_option maxRecDepth 20000 in
theorem sb_61_263 {s : cs} {mc : am_H} {D : List pgT} (hJ : J s mc D)   : tb_wp L xs 61 263 [] [] (HH s mc D) (SZ mc) := by
  refine wp0 rfl rfl ?_
  exact wpL rfl rfl (sb_61_264 hJ (0) b0)
set_option maxRecDepth 20000 in
theorem sb_61_259 {s : cs} {mc : am_H} {D : List pgT} (hJ : J s mc D)   : tb_wp L xs 61 259 [] [] (HH s mc D) (SZ mc) := by
  refine wp0 rfl rfl ?_
  refine wp2 rfl rfl ?_
  exact wpL rfl rfl (sb_61_264 hJ (1) b1)
set_option maxRecDepth 20000 in
theorem sb_61_249 {s : cs} {mc : am_H} {D : List pgT} (hJ : J s mc D) (l1 : Int32) (l2 : Int32)  : tb_wp L xs 61 249 [(1, .int l1), (2, .int l2)] [] (HH s mc D) (SZ mc) := by
  refine wp1 rfl rfl ?_
  refine wp0 rfl rfl ?_
  refine wp2b rfl rfl (fun c1 => ?_) (fun c1 => ?_)
  · refine wp1 rfl rfl ?_
    refine wp0 rfl rfl ?_
    refine wp2b rfl rfl (fun c2 => ?_) (fun c2 => ?_)
    · exact wpL rfl rfl (sb_61_259 hJ )
    · exact wpL rfl rfl (sb_61_263 hJ )
  · exact wpL rfl rfl (sb_61_263 hJ )
set_option maxRecDepth 20000 in
theorem sb_61_0 {s : cs} {mc : am_H} {D : List pgT} (hJ : J s mc D)   : tb_wp L xs 61 0 [(0, .ref 2)] [] (HH s mc D) (SZ mc) := by
  refine wp1 rfl rfl ?_
  refine wp3 rfl (am_getf rfl rfl) ?_
  refine wp0 rfl rfl ?_
  refine wp3 rfl (am_iald rfl (by decide)) ?_
  refine wpTi (fun z3 ez3 => ?_)
  refine wp1 rfl rfl ?_
  refine wpV (lv' := [(0, .ref 2), (1, .int z3)]) rfl ?_
  refine wp1 rfl rfl ?_
  refine wp3 rfl (am_getf rfl rfl) ?_
  refine wp0 rfl rfl ?_
  refine wp3 rfl (am_iald rfl (by decide)) ?_
  refine wpTi (fun z4 ez4 => ?_)
  refine wp1 rfl rfl ?_
  refine wpV (lv' := [(0, .ref 2), (1, .int z3), (2, .int z4)]) rfl ?_
  refine wp1 rfl rfl ?_
  refine wp3 rfl (am_getf rfl rfl) ?_
  refine wp2s [232, 265, 288, 306, 322, 340, 373] rfl rfl rfl rfl (am_fa1 ?_ (am_fa1 ?_ (am_fa1 ?_ (am_fa1 ?_ (am_fa1 ?_ (am_fa1 ?_ (am_fa1 ?_ (am_fa0))))))))
  · refine wp1 rfl rfl ?_
    refine wp4 rfl rfl (sf_56 hJ (z3)) (fun rv h1 hq => ?_)
    obtain ⟨s6, D7, hJ8, rfl, x9, rfl, hb_x9⟩ := hq
    refine wp2b rfl rfl (fun c10 => ?_) (fun c10 => ?_)
    · exact wpL rfl rfl (sb_61_249 hJ8 (z3) (z4))
    · refine wp1 rfl rfl ?_
      refine wp0 rfl rfl ?_
      refine wp2b rfl rfl (fun c11 => ?_) (fun c11 => ?_)
      · exact wpL rfl rfl (sb_61_259 hJ8 )
      · refine wp1 rfl rfl ?_
        refine wp0 rfl rfl ?_
        refine wp2b rfl rfl (fun c12 => ?_) (fun c12 => ?_)
        · exact wpL rfl rfl (sb_61_259 hJ8 )
        · exact wpL rfl rfl (sb_61_249 hJ8 (z3) (z4))
  · refine wp1 rfl rfl ?_
    refine wp4 rfl rfl (sf_56 hJ (z3)) (fun rv h1 hq => ?_)
    obtain ⟨s14, D15, hJ16, rfl, x17, rfl, hb_x17⟩ := hq
    refine wp2b rfl rfl (fun c18 => ?_) (fun c18 => ?_)
    · exact wpL rfl rfl (sb_61_286 hJ16 )
    · refine wp1 rfl rfl ?_
      refine wp0 rfl rfl ?_
      refine wp2b rfl rfl (fun c19 => ?_) (fun c19 => ?_)
      · exact wpL rfl rfl (sb_61_282 hJ16 )
      · refine wp1 rfl rfl ?_
        refine wp0 rfl rfl ?_
        refine wp2b rfl rfl (fun c20 => ?_) (fun c20 => ?_)
        · exact wpL rfl rfl (sb_61_282 hJ16 )
        · exact wpL rfl rfl (sb_61_286 hJ16 )
  · refine wp1 rfl rfl ?_
    refine wp4 rfl rfl (sf_56 hJ (z3)) (fun rv h1 hq => ?_)
    obtain ⟨s22, D23, hJ24, rfl, x25, rfl, hb_x25⟩ := hq
    refine wp2b rfl rfl (fun c26 => ?_) (fun c26 => ?_)
    · exact wpL rfl rfl (sb_61_304 hJ24 )
    · refine wp1 rfl rfl ?_
      refine wp0 rfl rfl ?_
      refine wp2b rfl rfl (fun c27 => ?_) (fun c27 => ?_)
      · refine wp0 rfl rfl ?_
        refine wp2 rfl rfl ?_
        exact wpL rfl rfl (sb_61_305 hJ24 (1) b1)
      · exact wpL rfl rfl (sb_61_304 hJ24 )
  · refine wp1 rfl rfl ?_
    refine wp0 rfl rfl ?_
    refine wp2b rfl rfl (fun c28 => ?_) (fun c28 => ?_)
    · refine wp1 rfl rfl ?_
      refine wp0 rfl rfl ?_
      refine wp2b rfl rfl (fun c29 => ?_) (fun c29 => ?_)
      · refine wp0 rfl rfl ?_
        refine wp2 rfl rfl ?_
        exact wpL rfl rfl (sb_61_321 hJ (1) b1)
      · exact wpL rfl rfl (sb_61_320 hJ )
    · exact wpL rfl rfl (sb_61_320 hJ )
  · refine wp1 rfl rfl ?_
    refine wp0 rfl rfl ?_
    refine wp2b rfl rfl (fun c30 => ?_) (fun c30 => ?_)
    · refine wp1 rfl rfl ?_
      refine wp4 rfl rfl (sf_56 hJ (z4)) (fun rv h1 hq => ?_)
      obtain ⟨s32, D33, hJ34, rfl, x35, rfl, hb_x35⟩ := hq
      refine wp2b rfl rfl (fun c36 => ?_) (fun c36 => ?_)
      · exact wpL rfl rfl (sb_61_338 hJ34 )
      · refine wp0 rfl rfl ?_
        refine wp2 rfl rfl ?_
        exact wpL rfl rfl (sb_61_339 hJ34 (1) b1)
    · exact wpL rfl rfl (sb_61_338 hJ )
  · refine wp1 rfl rfl ?_
    refine wp4 rfl rfl (sf_56 hJ (z3)) (fun rv h1 hq => ?_)
    obtain ⟨s38, D39, hJ40, rfl, x41, rfl, hb_x41⟩ := hq
    refine wp2b rfl rfl (fun c42 => ?_) (fun c42 => ?_)
    · exact wpL rfl rfl (sb_61_371 hJ40 )
    · refine wp1 rfl rfl ?_
      refine wp0 rfl rfl ?_
      refine wp2b rfl rfl (fun c43 => ?_) (fun c43 => ?_)
      · exact wpL rfl rfl (sb_61_367 hJ40 )
      · refine wp1 rfl rfl ?_
        refine wp0 rfl rfl ?_
        refine wp2b rfl rfl (fun c44 => ?_) (fun c44 => ?_)
        · refine wp1 rfl rfl ?_
          refine wp3 rfl (am_getf rfl rfl) ?_
          refine wp0 rfl rfl ?_
          refine wp3 rfl (am_iald rfl (by decide)) ?_
          refine wp0 rfl rfl ?_
          refine wp2b rfl rfl (fun c45 => ?_) (fun c45 => ?_)
          · exact wpL rfl rfl (sb_61_367 hJ40 )
          · exact wpL rfl rfl (sb_61_371 hJ40 )
        · exact wpL rfl rfl (sb_61_371 hJ40 )
  · refine wp1 rfl rfl ?_
    refine wp2b rfl rfl (fun c46 => ?_) (fun c46 => ?_)
    · refine wp1 rfl rfl ?_
      refine wp1 rfl rfl ?_
      refine wp4 rfl rfl (sf_60 hJ (z3)) (fun rv h1 hq => ?_)
      obtain ⟨s48, D49, hJ50, rfl, x51, rfl, hb_x51⟩ := hq
      refine wp2b rfl rfl (fun c52 => ?_) (fun c52 => ?_)
      · exact wpL rfl rfl (sb_61_389 hJ50 )
      · refine wp0 rfl rfl ?_
        refine wp2 rfl rfl ?_
        exact wpL rfl rfl (sb_61_390 hJ50 (1) b1)
    · exact wpL rfl rfl (sb_61_389 hJ )
theorem sf_61 {s : cs} {mc : am_H} {D : List pgT} (hJ : J s mc D)   : tb_wp L xs 61 0 (lv_args 0 [.ref 2]) [] (HH s mc D) (SZ mc) := sb_61_0 hJ 
/- 62: FlagMachine$Instruction.registersDiffer()Z -/
set_option maxRecDepth 20000 in
theorem sb_62_40 {s : cs} {mc : am_H} {D : List pgT} (hJ : J s mc D) (k0 : Int32) (hb_k0 : b01 k0) : tb_wp L xs 62 40 [] [.int k0] (HH s mc D) (SZ mc) := by
  exact wp5z rfl rfl hb_k0 ⟨_, _, hJ, rfl, _, rfl, hb_k0⟩
set_option maxRecDepth 20000 in
theorem sb_62_35 {s : cs} {mc : am_H} {D : List pgT} (hJ : J s mc D)   : tb_wp L xs 62 35 [] [] (HH s mc D) (SZ mc) := by
  refine wp0 rfl rfl ?_
  refine wp2 rfl rfl ?_
  exact wpL rfl rfl (sb_62_40 hJ (1) b1)
set_option maxRecDepth 20000 in
theorem sb_62_0 {s : cs} {mc : am_H} {D : List pgT} (hJ : J s mc D)   : tb_wp L xs 62 0 [(0, .ref 2)] [] (HH s mc D) (SZ mc) := by
  refine wp1 rfl rfl ?_
  refine wp3 rfl (am_getf rfl rfl) ?_
  refine wp0 rfl rfl ?_
  refine wp3 rfl (am_iald rfl (by decide)) ?_
  refine wp0 rfl rfl ?_
  refine wp2b rfl rfl (fun c1 => ?_) (fun c1 => ?_)
  · refine wp1 rfl rfl ?_
    refine wp3 rfl (am_getf rfl rfl) ?_
    refine wp0 rfl rfl ?_
    refine wp3 rfl (am_iald rfl (by decide)) ?_
    refine wp0 rfl rfl ?_
    refine wp2b rfl rfl (fun c2 => ?_) (fun c2 => ?_)
    · refine wp1 rfl rfl ?_
      refine wp3 rfl (am_getf rfl rfl) ?_
      refine wp0 rfl rfl ?_
      refine wp3 rfl (am_iald rfl (by decide)) ?_
      refine wp1 rfl rfl ?_
      refine wp3 rfl (am_getf rfl rfl) ?_
      refine wp0 rfl rfl ?_
      refine wp3 rfl (am_iald rfl (by decide)) ?_
      refine wp2b rfl rfl (fun c3 => ?_) (fun c3 => ?_)
      · refine wp0 rfl rfl ?_
        exact wpL rfl rfl (sb_62_40 hJ (0) b0)
      · exact wpL rfl rfl (sb_62_35 hJ )
    · exact wpL rfl rfl (sb_62_35 hJ )
  · exact wpL rfl rfl (sb_62_35 hJ )
theorem sf_62 {s : cs} {mc : am_H} {D : List pgT} (hJ : J s mc D)   : tb_wp L xs 62 0 (lv_args 0 [.ref 2]) [] (HH s mc D) (SZ mc) := sb_62_0 hJ 
/- 63: FlagMachine$Instruction.sizeFits()Z -/
set_option maxRecDepth 20000 in
theorem sb_63_263 {s : cs} {mc : am_H} {D : List pgT} (hJ : J s mc D) (k0 : Int32) (hb_k0 : b01 k0) : tb_wp L xs 63 263 [] [.int k0] (HH s mc D) (SZ mc) := by
  exact wp5z rfl rfl hb_k0 ⟨_, _, hJ, rfl, _, rfl, hb_k0⟩
set_option maxRecDepth 20000 in
theorem sb_63_258 {s : cs} {mc : am_H} {D : List pgT} (hJ : J s mc D)   : tb_wp L xs 63 258 [] [] (HH s mc D) (SZ mc) := by
  refine wp0 rfl rfl ?_
  refine wp2 rfl rfl ?_
  exact wpL rfl rfl (sb_63_263 hJ (1) b1)
set_option maxRecDepth 20000 in
theorem sb_63_232 {s : cs} {mc : am_H} {D : List pgT} (hJ : J s mc D) (k0 : Int32) (hb_k0 : b01 k0) : tb_wp L xs 63 232 [] [.int k0] (HH s mc D) (SZ mc) := by
  exact wp5z rfl rfl hb_k0 ⟨_, _, hJ, rfl, _, rfl, hb_k0⟩
set_option maxRecDepth 20000 in
theorem sb_63_218 {s : cs} {mc : am_H} {D : List pgT} (hJ : J s mc D) (k0 : Int32) (hb_k0 : b01 k0) : tb_wp L xs 63 218 [] [.int k0] (HH s mc D) (SZ mc) := by
  exact wp5z rfl rfl hb_k0 ⟨_, _, hJ, rfl, _, rfl, hb_k0⟩
set_option maxRecDepth 20000 in
theorem sb_63_205 {s : cs} {mc : am_H} {D : List pgT} (hJ : J s mc D) (k0 : Int32) (hb_k0 : b01 k0) : tb_wp L xs 63 205 [] [.int k0] (HH s mc D) (SZ mc) := by
  exact wp5z rfl rfl hb_k0 ⟨_, _, hJ, rfl, _, rfl, hb_k0⟩
set_option maxRecDepth 20000 in
theorem sb_63_200 {s : cs} {mc : am_H} {D : List pgT} (hJ : J s mc D)   : tb_wp L xs 63 200 [] [] (HH s mc D) (SZ mc) := by
  refine wp0 rfl rfl ?_
  refine wp2 rfl rfl ?_
  exact wpL rfl rfl (sb_63_205 hJ (1) b1)
set_option maxRecDepth 20000 in
theorem sb_63_182 {s : cs} {mc : am_H} {D : List pgT} (hJ : J s mc D) (k0 : Int32) (hb_k0 : b01 k0) : tb_wp L xs 63 182 [] [.int k0] (HH s mc D) (SZ mc) := by
  exact wp5z rfl rfl hb_k0 ⟨_, _, hJ, rfl, _, rfl, hb_k0⟩
set_option maxRecDepth 20000 in
theorem sb_63_0 {s : cs} {mc : am_H} {D : List pgT} (hJ : J s mc D)   : tb_wp L xs 63 0 [(0, .ref 2)] [] (HH s mc D) (SZ mc) := by
  refine wp1 rfl rfl ?_
  refine wp3 rfl (am_getf rfl rfl) ?_
  refine wp2s [168, 183, 206, 219, 233] rfl rfl rfl rfl (am_fa1 ?_ (am_fa1 ?_ (am_fa1 ?_ (am_fa1 ?_ (am_fa1 ?_ (am_fa0))))))
  · refine wp1 rfl rfl ?_
    refine wp3 rfl (am_getf rfl rfl) ?_
    refine wp0 rfl rfl ?_
    refine wp2b rfl rfl (fun c1 => ?_) (fun c1 => ?_)
    · refine wp0 rfl rfl ?_
      refine wp2 rfl rfl ?_
      exact wpL rfl rfl (sb_63_182 hJ (1) b1)
    · refine wp0 rfl rfl ?_
      exact wpL rfl rfl (sb_63_182 hJ (0) b0)
  · refine wp1 rfl rfl ?_
    refine wp3 rfl (am_getf rfl rfl) ?_
    refine wp0 rfl rfl ?_
    refine wp2b rfl rfl (fun c2 => ?_) (fun c2 => ?_)
    · exact wpL rfl rfl (sb_63_200 hJ )
    · refine wp1 rfl rfl ?_
      refine wp3 rfl (am_getf rfl rfl) ?_
      refine wp0 rfl rfl ?_
      refine wp2b rfl rfl (fun c3 => ?_) (fun c3 => ?_)
      · exact wpL rfl rfl (sb_63_200 hJ )
      · refine wp0 rfl rfl ?_
        exact wpL rfl rfl (sb_63_205 hJ (0) b0)
  · refine wp1 rfl rfl ?_
    refine wp3 rfl (am_getf rfl rfl) ?_
    refine wp2b rfl rfl (fun c4 => ?_) (fun c4 => ?_)
    · refine wp0 rfl rfl ?_
      refine wp2 rfl rfl ?_
      exact wpL rfl rfl (sb_63_218 hJ (1) b1)
    · refine wp0 rfl rfl ?_
      exact wpL rfl rfl (sb_63_218 hJ (0) b0)
  · refine wp1 rfl rfl ?_
    refine wp3 rfl (am_getf rfl rfl) ?_
    refine wp0 rfl rfl ?_
    refine wp2b rfl rfl (fun c5 => ?_) (fun c5 => ?_)
    · refine wp0 rfl rfl ?_
      refine wp2 rfl rfl ?_
      exact wpL rfl rfl (sb_63_232 hJ (1) b1)
    · refine wp0 rfl rfl ?_
      exact wpL rfl rfl (sb_63_232 hJ (0) b0)
  · refine wp1 rfl rfl ?_
    refine wp3 rfl (am_getf rfl rfl) ?_
    refine wp0 rfl rfl ?_
    refine wp2b rfl rfl (fun c6 => ?_) (fun c6 => ?_)
    · exact wpL rfl rfl (sb_63_258 hJ )
    · refine wp1 rfl rfl ?_
      refine wp3 rfl (am_getf rfl rfl) ?_
      refine wp0 rfl rfl ?_
      refine wp2b rfl rfl (fun c7 => ?_) (fun c7 => ?_)
      · exact wpL rfl rfl (sb_63_258 hJ )
      · refine wp1 rfl rfl ?_
        refine wp3 rfl (am_getf rfl rfl) ?_
        refine wp0 rfl rfl ?_
        refine wp2b rfl rfl (fun c8 => ?_) (fun c8 => ?_)
        · exact wpL rfl rfl (sb_63_258 hJ )
        · refine wp0 rfl rfl ?_
          exact wpL rfl rfl (sb_63_263 hJ (0) b0)
theorem sf_63 {s : cs} {mc : am_H} {D : List pgT} (hJ : J s mc D)   : tb_wp L xs 63 0 (lv_args 0 [.ref 2]) [] (HH s mc D) (SZ mc) := sb_63_0 hJ 
/- 64: FlagMachine$Instruction.thirdFits()Z -/
set_option maxRecDepth 20000 in
theorem sb_64_33 {s : cs} {mc : am_H} {D : List pgT} (hJ : J s mc D) (k0 : Int32) (hb_k0 : b01 k0) : tb_wp L xs 64 33 [] [.int k0] (HH s mc D) (SZ mc) := by
  exact wp5z rfl rfl hb_k0 ⟨_, _, hJ, rfl, _, rfl, hb_k0⟩
set_option maxRecDepth 20000 in
theorem sb_64_32 {s : cs} {mc : am_H} {D : List pgT} (hJ : J s mc D)   : tb_wp L xs 64 32 [] [] (HH s mc D) (SZ mc) := by
  refine wp0 rfl rfl ?_
  exact wpL rfl rfl (sb_64_33 hJ (0) b0)
set_option maxRecDepth 20000 in
theorem sb_64_28 {s : cs} {mc : am_H} {D : List pgT} (hJ : J s mc D)   : tb_wp L xs 64 28 [] [] (HH s mc D) (SZ mc) := by
  refine wp0 rfl rfl ?_
  refine wp2 rfl rfl ?_
  exact wpL rfl rfl (sb_64_33 hJ (1) b1)
set_option maxRecDepth 20000 in
theorem sb_64_0 {s : cs} {mc : am_H} {D : List pgT} (hJ : J s mc D)   : tb_wp L xs 64 0 [(0, .ref 2)] [] (HH s mc D) (SZ mc) := by
  refine wp1 rfl rfl ?_
  refine wp3 rfl (am_getf rfl rfl) ?_
  refine wp0 rfl rfl ?_
  refine wp3 rfl (am_iald rfl (by decide)) ?_
  refine wp2b rfl rfl (fun c1 => ?_) (fun c1 => ?_)
  · exact wpL rfl rfl (sb_64_28 hJ )
  · refine wp1 rfl rfl ?_
    refine wp3 rfl (am_getf rfl rfl) ?_
    refine wp0 rfl rfl ?_
    refine wp2b rfl rfl (fun c2 => ?_) (fun c2 => ?_)
    · refine wp1 rfl rfl ?_
      refine wp3 rfl (am_getf rfl rfl) ?_
      refine wp0 rfl rfl ?_
      refine wp3 rfl (am_iald rfl (by decide)) ?_
      refine wp0 rfl rfl ?_
      refine wp2b rfl rfl (fun c3 => ?_) (fun c3 => ?_)
      · exact wpL rfl rfl (sb_64_28 hJ )
      · exact wpL rfl rfl (sb_64_32 hJ )
    · exact wpL rfl rfl (sb_64_32 hJ )
theorem sf_64 {s : cs} {mc : am_H} {D : List pgT} (hJ : J s mc D)   : tb_wp L xs 64 0 (lv_args 0 [.ref 2]) [] (HH s mc D) (SZ mc) := sb_64_0 hJ 
/- 66: FlagMachine$Memory.breakAddress()J -/
set_option maxRecDepth 20000 in
theorem sb_66_0 {s : cs} {mc : am_H} {D : List pgT} (hJ : J s mc D)   : tb_wp L xs 66 0 [(0, .ref 10)] [] (HH s mc D) (SJ mc) := by
  refine wp0 rfl rfl ?_
  refine wp1 rfl rfl ?_
  refine wp3 rfl (am_getf rfl rfl) ?_
  refine wp0 rfl rfl ?_
  refine wp3 rfl (am_iald rfl (by decide)) ?_
  refine wp0 rfl rfl ?_
  refine wp0 rfl rfl ?_
  exact wp5 rfl rfl ⟨_, _, hJ, rfl, _, rfl⟩
theorem sf_66 {s : cs} {mc : am_H} {D : List pgT} (hJ : J s mc D)   : tb_wp L xs 66 0 (lv_args 0 [.ref 10]) [] (HH s mc D) (SJ mc) := sb_66_0 hJ 
/- 67: FlagMachine$Memory.layRow(III)V -/
set_option maxRecDepth 20000 in
theorem sb_67_0 {s : cs} {mc : am_H} {D : List pgT} (hJ : J s mc D) (l1 : Int32) (l2 : Int32) (l3 : Int32) (hi_l1 : am_in l1 5 = true) : tb_wp L xs 67 0 [(0, .ref 10), (1, .int l1), (2, .int l2), (3, .int l3)] [] (HH s mc D) (SV mc) := by
  refine wp1 rfl rfl ?_
  refine wp3 rfl (am_getf rfl rfl) ?_
  refine wp1 rfl rfl ?_
  refine wp1 rfl rfl ?_
  refine wp3 rfl (am_iast rfl hi_l1) ?_
  have hJ1 : J (s_starts s (upd (g_starts s) (Int32.toNatClampNeg l1) l2)) mc D := hJ
  refine wpH (h' := HH (s_starts s (upd (g_starts s) (Int32.toNatClampNeg l1) l2)) mc D) rfl ?_
  refine wp1 rfl rfl ?_
  refine wp3 rfl (am_getf rfl rfl) ?_
  refine wp1 rfl rfl ?_
  refine wp1 rfl rfl ?_
  refine wp3 rfl (am_iast rfl hi_l1) ?_
  have hJ2 : J (s_ends (s_starts s (upd (g_starts s) (Int32.toNatClampNeg l1) l2)) (upd (g_ends (s_starts s (upd (g_starts s) (Int32.toNatClampNeg l1) l2))) (Int32.toNatClampNeg l1) l3)) mc D := hJ1
  refine wpH (h' := HH (s_ends (s_starts s (upd (g_starts s) (Int32.toNatClampNeg l1) l2)) (upd (g_ends (s_starts s (upd (g_starts s) (Int32.toNatClampNeg l1) l2))) (Int32.toNatClampNeg l1) l3)) mc D) rfl ?_
  exact wp5 rfl rfl ⟨_, _, hJ2, rfl, rfl⟩
theorem sf_67 {s : cs} {mc : am_H} {D : List pgT} (hJ : J s mc D) (l1 : Int32) (l2 : Int32) (l3 : Int32) (hi_l1 : am_in l1 5 = true) : tb_wp L xs 67 0 (lv_args 0 [.ref 10, .int l1, .int l2, .int l3]) [] (HH s mc D) (SV mc) := sb_67_0 hJ l1 l2 l3 hi_l1
/- 68: FlagMachine$Memory.layRows(IIIIII)V -/
set_option maxRecDepth 20000 in
theorem sb_68_0 {s : cs} {mc : am_H} {D : List pgT} (hJ : J s mc D) (l1 : Int32) (l2 : Int32) (l3 : Int32) (l4 : Int32) (l5 : Int32) (l6 : Int32)  : tb_wp L xs 68 0 [(0, .ref 10), (1, .int l1), (2, .int l2), (3, .int l3), (4, .int l4), (5, .int l5), (6, .int l6)] [] (HH s mc D) (SV mc) := by
  refine wp1 rfl rfl ?_
  refine wp0 rfl rfl ?_
  refine wp0 rfl rfl ?_
  refine wp0 rfl rfl ?_
  refine wp0 rfl rfl ?_
  refine wp0 rfl rfl ?_
  refine wp0 rfl rfl ?_
  refine wpTi (fun z1 ez1 => ?_)
  refine wp1 rfl rfl ?_
  refine wpV (lv' := [(0, .ref 10), (1, .int l1), (2, .int l2), (3, .int l3), (4, .int l4), (5, .int l5), (6, .int l6), (7, .int z1)]) rfl ?_
  refine wp1 rfl rfl ?_
  refine wp0 rfl rfl ?_
  refine wp0 rfl rfl ?_
  refine wp1 rfl rfl ?_
  refine wp4 rfl rfl (sf_67 hJ (0) (0) (l2) (by decide)) (fun rv h1 hq => ?_)
  obtain ⟨s3, D4, hJ5, rfl, rfl⟩ := hq
  refine wp1 rfl rfl ?_
  refine wp0 rfl rfl ?_
  refine wp1 rfl rfl ?_
  refine wp1 rfl rfl ?_
  refine wp4 rfl rfl (sf_67 hJ5 (1) (l3) (l4) (by decide)) (fun rv h1 hq => ?_)
  obtain ⟨s8, D9, hJ10, rfl, rfl⟩ := hq
  refine wp1 rfl rfl ?_
  refine wp0 rfl rfl ?_
  refine wp1 rfl rfl ?_
  refine wp1 rfl rfl ?_
  refine wp4 rfl rfl (sf_67 hJ10 (2) (l5) (l6) (by decide)) (fun rv h1 hq => ?_)
  obtain ⟨s13, D14, hJ15, rfl, rfl⟩ := hq
  refine wp1 rfl rfl ?_
  refine wp0 rfl rfl ?_
  refine wp1 rfl rfl ?_
  refine wp1 rfl rfl ?_
  refine wp4 rfl rfl (sf_67 hJ15 (3) (z1) (z1) (by decide)) (fun rv h1 hq => ?_)
  obtain ⟨s18, D19, hJ20, rfl, rfl⟩ := hq
  refine wp1 rfl rfl ?_
  refine wp0 rfl rfl ?_
  refine wp0 rfl rfl ?_
  refine wp0 rfl rfl ?_
  refine wp4 rfl rfl (sf_67 hJ20 (4) (327936) (393472) (by decide)) (fun rv h1 hq => ?_)
  obtain ⟨s23, D24, hJ25, rfl, rfl⟩ := hq
  exact wp5 rfl rfl ⟨_, _, hJ25, rfl, rfl⟩
theorem sf_68 {s : cs} {mc : am_H} {D : List pgT} (hJ : J s mc D) (l1 : Int32) (l2 : Int32) (l3 : Int32) (l4 : Int32) (l5 : Int32) (l6 : Int32)  : tb_wp L xs 68 0 (lv_args 0 [.ref 10, .int l1, .int l2, .int l3, .int l4, .int l5, .int l6]) [] (HH s mc D) (SV mc) := sb_68_0 hJ l1 l2 l3 l4 l5 l6
/- 72: FlagMachine$Memory.placeOf(J)I -/
set_option maxRecDepth 20000 in
theorem sb_72_49 {s : cs} {mc : am_H} {D : List pgT} (hJ : J s mc D)   : tb_wp L xs 72 49 [] [] (HH s mc D) (SI mc) := by
  refine wp0 rfl rfl ?_
  exact wp5i rfl rfl ⟨_, _, hJ, rfl, _, rfl⟩
set_option maxRecDepth 20000 in
theorem sb_72_23 {s : cs} {mc : am_H} {D : List pgT} (hJ : J s mc D) (l0 : Int64)  : tb_wp L xs 72 23 [(0, .long l0)] [] (HH s mc D) (SI mc) := by
  refine wp1 rfl rfl ?_
  refine wp0 rfl rfl ?_
  refine wp0 rfl rfl ?_
  refine wp2b rfl rfl (fun c1 => ?_) (fun c1 => ?_)
  · exact wpL rfl rfl (sb_72_49 hJ )
  · refine wp1 rfl rfl ?_
    refine wp0 rfl rfl ?_
    refine wp0 rfl rfl ?_
    refine wp2b rfl rfl (fun c2 => ?_) (fun c2 => ?_)
    · exact wpL rfl rfl (sb_72_49 hJ )
    · refine wp0 rfl rfl ?_
      refine wp1 rfl rfl ?_
      refine wp0 rfl rfl ?_
      refine wp0 rfl rfl ?_
      refine wp0 rfl rfl ?_
      refine wp0 rfl rfl ?_
      exact wp5i rfl rfl ⟨_, _, hJ, rfl, _, rfl⟩
set_option maxRecDepth 20000 in
theorem sb_72_0 {s : cs} {mc : am_H} {D : List pgT} (hJ : J s mc D) (l0 : Int64)  : tb_wp L xs 72 0 [(0, .long l0)] [] (HH s mc D) (SI mc) := by
  refine wp1 rfl rfl ?_
  refine wp0 rfl rfl ?_
  refine wp0 rfl rfl ?_
  refine wp2b rfl rfl (fun c3 => ?_) (fun c3 => ?_)
  · exact wpL rfl rfl (sb_72_23 hJ (l0))
  · refine wp1 rfl rfl ?_
    refine wp0 rfl rfl ?_
    refine wp0 rfl rfl ?_
    refine wp2b rfl rfl (fun c4 => ?_) (fun c4 => ?_)
    · exact wpL rfl rfl (sb_72_23 hJ (l0))
    · refine wp1 rfl rfl ?_
      refine wp0 rfl rfl ?_
      refine wp0 rfl rfl ?_
      refine wp0 rfl rfl ?_
      exact wp5i rfl rfl ⟨_, _, hJ, rfl, _, rfl⟩
theorem sf_72 {s : cs} {mc : am_H} {D : List pgT} (hJ : J s mc D) (l0 : Int64)  : tb_wp L xs 72 0 (lv_args 0 [.long l0]) [] (HH s mc D) (SI mc) := sb_72_0 hJ l0
/- 77: FlagMachine$Moves.jump(J)V -/
set_option maxRecDepth 20000 in
theorem sb_77_18 {s : cs} {mc : am_H} {D : List pgT} (hJ : J s mc D)   : tb_wp L xs 77 18 [] [] (HH s mc D) (SV mc) := by
  exact wp5 rfl rfl ⟨_, _, hJ, rfl, rfl⟩
set_option maxRecDepth 20000 in
theorem sb_77_0 {s : cs} {mc : am_H} {D : List pgT} (hJ : J s mc D) (l1 : Int64)  : tb_wp L xs 77 0 [(0, .ref 18), (1, .long l1)] [] (HH s mc D) (SV mc) := by
  refine wp1 rfl rfl ?_
  refine wp3 rfl (am_getf rfl rfl) ?_
  refine wp3 rfl (am_getf rfl rfl) ?_
  refine wp2b rfl rfl (fun c1 => ?_) (fun c1 => ?_)
  · refine wp1 rfl rfl ?_
    refine wp3 rfl (am_getf rfl rfl) ?_
    refine wp1 rfl rfl ?_
    refine wp3 rfl (am_putf rfl (Nat.le_of_ble_eq_true rfl) rfl rfl) ?_
    have hJ2 : J (s_next s l1) mc D := hJ
    refine wpH (h' := HH (s_next s l1) mc D) rfl ?_
    exact wpL rfl rfl (sb_77_18 hJ2 )
  · exact wpL rfl rfl (sb_77_18 hJ )
theorem sf_77 {s : cs} {mc : am_H} {D : List pgT} (hJ : J s mc D) (l1 : Int64)  : tb_wp L xs 77 0 (lv_args 0 [.ref 18, .long l1]) [] (HH s mc D) (SV mc) := sb_77_0 hJ l1
/- 91: FlagMachine$Products.divideUnsigned(JI)Z -/
set_option maxRecDepth 20000 in
theorem sb_91_30 (n : Nat) : ∀ {s : cs} {mc : am_H} {D : List pgT} (hJ : J s mc D) (l1 : Int64) (l4 : Int64) (l6 : Int64) (l8 : Int32)  (hm : ((l8 : Int32).toInt + 1).toNat < n), tb_wp L xs 91 30 [(0, .ref 16), (1, .long l1), (4, .long l4), (6, .long l6), (8, .int l8)] [] (HH s mc D) (SZ mc) := by
  induction n with
  | zero => intro s mc D hJ l1 l4 l6 l8 hm; exact absurd hm (Nat.not_lt_zero _)
  | succ n ih =>
    intro s mc D hJ l1 l4 l6 l8 hm
    refine wp1 rfl rfl ?_
    refine wp2b rfl rfl (fun c1 => ?_) (fun c1 => ?_)
    · refine wp1 rfl rfl ?_
      refine wp1 rfl rfl ?_
      refine wp3 rfl (am_putf rfl (Nat.le_of_ble_eq_true rfl) rfl rfl) ?_
      have hJ2 : J (s_quot s l6) mc D := hJ
      refine wpH (h' := HH (s_quot s l6) mc D) rfl ?_
      refine wp1 rfl rfl ?_
      refine wp1 rfl rfl ?_
      refine wp3 rfl (am_putf rfl (Nat.le_of_ble_eq_true rfl) rfl rfl) ?_
      have hJ3 : J (s_rest (s_quot s l6) l4) mc D := hJ2
      refine wpH (h' := HH (s_rest (s_quot s l6) l4) mc D) rfl ?_
      refine wp0 rfl rfl ?_
      exact wp5z rfl rfl b1 ⟨_, _, hJ3, rfl, _, rfl, b1⟩
    · refine wp1 rfl rfl ?_
      refine wp0 rfl rfl ?_
      refine wp0 rfl rfl ?_
      refine wp2b rfl rfl (fun c4 => ?_) (fun c4 => ?_)
      · refine wp0 rfl rfl ?_
        refine wp1 rfl rfl ?_
        refine wpV (lv' := [(0, .ref 16), (1, .long l1), (4, .long l4), (6, .long l6), (8, .int l8), (9, .int 0)]) rfl ?_
        refine wp1 rfl rfl ?_
        refine wp0 rfl rfl ?_
        refine wp0 rfl rfl ?_
        refine wp1 rfl rfl ?_
        refine wp3 rfl (am_getf rfl rfl) ?_
        refine wp1 rfl rfl ?_
        refine wp0 rfl rfl ?_
        refine wp0 rfl rfl ?_
        refine wp0 rfl rfl ?_
        refine wp0 rfl rfl ?_
        refine wpTl (fun z5 ez5 => ?_)
        refine wp1 rfl rfl ?_
        refine wpV (lv' := [(0, .ref 16), (1, .long l1), (4, .long z5), (6, .long l6), (8, .int l8), (9, .int 0)]) rfl ?_
        refine wp1 rfl rfl ?_
        refine wp0 rfl rfl ?_
        refine wp0 rfl rfl ?_
        refine wpTl (fun z6 ez6 => ?_)
        refine wp1 rfl rfl ?_
        refine wpV (lv' := [(0, .ref 16), (1, .long l1), (4, .long z5), (6, .long z6), (8, .int l8), (9, .int 0)]) rfl ?_
        refine wp1 rfl rfl ?_
        refine wp2b rfl rfl (fun c7 => ?_) (fun c7 => ?_)
        · refine wp1 rfl rfl ?_
          refine wp1 rfl rfl ?_
          refine wp4 rfl rfl (sf_3 hJ (z5) (l1)) (fun rv h1 hq => ?_)
          obtain ⟨s9, D10, hJ11, rfl, x12, rfl, hb_x12⟩ := hq
          refine wp2b rfl rfl (fun c13 => ?_) (fun c13 => ?_)
          · refine wp1 rfl rfl ?_
            refine wp1 rfl rfl ?_
            refine wp0 rfl rfl ?_
            refine wpTl (fun z14 ez14 => ?_)
            refine wp1 rfl rfl ?_
            refine wpV (lv' := [(0, .ref 16), (1, .long l1), (4, .long z14), (6, .long z6), (8, .int l8)]) rfl ?_
            refine wp1 rfl rfl ?_
            refine wp0 rfl rfl ?_
            refine wp0 rfl rfl ?_
            refine wpTl (fun z15 ez15 => ?_)
            refine wp1 rfl rfl ?_
            refine wpV (lv' := [(0, .ref 16), (1, .long l1), (4, .long z14), (6, .long z15), (8, .int l8)]) rfl ?_
            refine wp1 rfl rfl ?_
            refine wpV (lv' := [(0, .ref 16), (1, .long l1), (4, .long z14), (6, .long z15), (8, .int (l8 + (-1)))]) rfl ?_
            refine wp2 rfl rfl ?_
            exact wpL rfl rfl (ih hJ11 (l1) (z14) (z15) ((l8 + (-1))) (i32_down c1 hm))
          · refine wp1 rfl rfl ?_
            refine wpV (lv' := [(0, .ref 16), (1, .long l1), (4, .long z5), (6, .long z6), (8, .int (l8 + (-1)))]) rfl ?_
            refine wp2 rfl rfl ?_
            exact wpL rfl rfl (ih hJ11 (l1) (z5) (z6) ((l8 + (-1))) (i32_down c1 hm))
        · refine wp1 rfl rfl ?_
          refine wp1 rfl rfl ?_
          refine wp0 rfl rfl ?_
          refine wpTl (fun z16 ez16 => ?_)
          refine wp1 rfl rfl ?_
          refine wpV (lv' := [(0, .ref 16), (1, .long l1), (4, .long z16), (6, .long z6), (8, .int l8)]) rfl ?_
          refine wp1 rfl rfl ?_
          refine wp0 rfl rfl ?_
          refine wp0 rfl rfl ?_
          refine wpTl (fun z17 ez17 => ?_)
          refine wp1 rfl rfl ?_
          refine wpV (lv' := [(0, .ref 16), (1, .long l1), (4, .long z16), (6, .long z17), (8, .int l8)]) rfl ?_
          refine wp1 rfl rfl ?_
          refine wpV (lv' := [(0, .ref 16), (1, .long l1), (4, .long z16), (6, .long z17), (8, .int (l8 + (-1)))]) rfl ?_
          refine wp2 rfl rfl ?_
          exact wpL rfl rfl (ih hJ (l1) (z16) (z17) ((l8 + (-1))) (i32_down c1 hm))
      · refine wp0 rfl rfl ?_
        refine wp2 rfl rfl ?_
        refine wp1 rfl rfl ?_
        refine wpV (lv' := [(0, .ref 16), (1, .long l1), (4, .long l4), (6, .long l6), (8, .int l8), (9, .int 1)]) rfl ?_
        refine wp1 rfl rfl ?_
        refine wp0 rfl rfl ?_
        refine wp0 rfl rfl ?_
        refine wp1 rfl rfl ?_
        refine wp3 rfl (am_getf rfl rfl) ?_
        refine wp1 rfl rfl ?_
        refine wp0 rfl rfl ?_
        refine wp0 rfl rfl ?_
        refine wp0 rfl rfl ?_
        refine wp0 rfl rfl ?_
        refine wpTl (fun z18 ez18 => ?_)
        refine wp1 rfl rfl ?_
        refine wpV (lv' := [(0, .ref 16), (1, .long l1), (4, .long z18), (6, .long l6), (8, .int l8), (9, .int 1)]) rfl ?_
        refine wp1 rfl rfl ?_
        refine wp0 rfl rfl ?_
        refine wp0 rfl rfl ?_
        refine wpTl (fun z19 ez19 => ?_)
        refine wp1 rfl rfl ?_
        refine wpV (lv' := [(0, .ref 16), (1, .long l1), (4, .long z18), (6, .long z19), (8, .int l8), (9, .int 1)]) rfl ?_
        refine wp1 rfl rfl ?_
        refine wp2b rfl rfl (fun c20 => ?_) (fun c20 => ?_)
        · refine wp1 rfl rfl ?_
          refine wp1 rfl rfl ?_
          refine wp4 rfl rfl (sf_3 hJ (z18) (l1)) (fun rv h1 hq => ?_)
          obtain ⟨s22, D23, hJ24, rfl, x25, rfl, hb_x25⟩ := hq
          refine wp2b rfl rfl (fun c26 => ?_) (fun c26 => ?_)
          · refine wp1 rfl rfl ?_
            refine wp1 rfl rfl ?_
            refine wp0 rfl rfl ?_
            refine wpTl (fun z27 ez27 => ?_)
            refine wp1 rfl rfl ?_
            refine wpV (lv' := [(0, .ref 16), (1, .long l1), (4, .long z27), (6, .long z19), (8, .int l8)]) rfl ?_
            refine wp1 rfl rfl ?_
            refine wp0 rfl rfl ?_
            refine wp0 rfl rfl ?_
            refine wpTl (fun z28 ez28 => ?_)
            refine wp1 rfl rfl ?_
            refine wpV (lv' := [(0, .ref 16), (1, .long l1), (4, .long z27), (6, .long z28), (8, .int l8)]) rfl ?_
            refine wp1 rfl rfl ?_
            refine wpV (lv' := [(0, .ref 16), (1, .long l1), (4, .long z27), (6, .long z28), (8, .int (l8 + (-1)))]) rfl ?_
            refine wp2 rfl rfl ?_
            exact wpL rfl rfl (ih hJ24 (l1) (z27) (z28) ((l8 + (-1))) (i32_down c1 hm))
          · refine wp1 rfl rfl ?_
            refine wpV (lv' := [(0, .ref 16), (1, .long l1), (4, .long z18), (6, .long z19), (8, .int (l8 + (-1)))]) rfl ?_
            refine wp2 rfl rfl ?_
            exact wpL rfl rfl (ih hJ24 (l1) (z18) (z19) ((l8 + (-1))) (i32_down c1 hm))
        · refine wp1 rfl rfl ?_
          refine wp1 rfl rfl ?_
          refine wp0 rfl rfl ?_
          refine wpTl (fun z29 ez29 => ?_)
          refine wp1 rfl rfl ?_
          refine wpV (lv' := [(0, .ref 16), (1, .long l1), (4, .long z29), (6, .long z19), (8, .int l8)]) rfl ?_
          refine wp1 rfl rfl ?_
          refine wp0 rfl rfl ?_
          refine wp0 rfl rfl ?_
          refine wpTl (fun z30 ez30 => ?_)
          refine wp1 rfl rfl ?_
          refine wpV (lv' := [(0, .ref 16), (1, .long l1), (4, .long z29), (6, .long z30), (8, .int l8)]) rfl ?_
          refine wp1 rfl rfl ?_
          refine wpV (lv' := [(0, .ref 16), (1, .long l1), (4, .long z29), (6, .long z30), (8, .int (l8 + (-1)))]) rfl ?_
          refine wp2 rfl rfl ?_
          exact wpL rfl rfl (ih hJ (l1) (z29) (z30) ((l8 + (-1))) (i32_down c1 hm))
set_option maxRecDepth 20000 in
theorem sb_91_0 {s : cs} {mc : am_H} {D : List pgT} (hJ : J s mc D) (l1 : Int64) (l3 : Int32)  : tb_wp L xs 91 0 [(0, .ref 16), (1, .long l1), (3, .int l3)] [] (HH s mc D) (SZ mc) := by
  refine wp1 rfl rfl ?_
  refine wp3 rfl (am_getf rfl rfl) ?_
  refine wp1 rfl rfl ?_
  refine wp4 rfl rfl (sf_3 hJ ((g_upper s)) (l1)) (fun rv h1 hq => ?_)
  obtain ⟨s32, D33, hJ34, rfl, x35, rfl, hb_x35⟩ := hq
  refine wp2b rfl rfl (fun c36 => ?_) (fun c36 => ?_)
  · refine wp0 rfl rfl ?_
    exact wp5z rfl rfl b0 ⟨_, _, hJ34, rfl, _, rfl, b0⟩
  · refine wp1 rfl rfl ?_
    refine wp3 rfl (am_getf rfl rfl) ?_
    refine wpTl (fun z37 ez37 => ?_)
    refine wp1 rfl rfl ?_
    refine wpV (lv' := [(0, .ref 16), (1, .long l1), (3, .int l3), (4, .long z37)]) rfl ?_
    refine wp0 rfl rfl ?_
    refine wp1 rfl rfl ?_
    refine wpV (lv' := [(0, .ref 16), (1, .long l1), (3, .int l3), (4, .long z37), (6, .long 0)]) rfl ?_
    refine wp0 rfl rfl ?_
    refine wp1 rfl rfl ?_
    refine wp0 rfl rfl ?_
    refine wp0 rfl rfl ?_
    refine wp0 rfl rfl ?_
    refine wpTi (fun z38 ez38 => ?_)
    refine wp1 rfl rfl ?_
    refine wpV (lv' := [(0, .ref 16), (1, .long l1), (3, .int l3), (4, .long z37), (6, .long 0), (8, .int z38)]) rfl ?_
    exact wpL rfl rfl (sb_91_30 _ hJ34 (l1) (z37) (0) (z38) (Nat.lt_succ_self _))
theorem sf_91 {s : cs} {mc : am_H} {D : List pgT} (hJ : J s mc D) (l1 : Int64) (l3 : Int32)  : tb_wp L xs 91 0 (lv_args 0 [.ref 16, .long l1, .int l3]) [] (HH s mc D) (SZ mc) := sb_91_0 hJ l1 l3
/- 92: FlagMachine$Products.highOf(JJ)J -/
set_option maxRecDepth 20000 in
theorem sb_92_0 {s : cs} {mc : am_H} {D : List pgT} (hJ : J s mc D) (l0 : Int64) (l2 : Int64)  : tb_wp L xs 92 0 [(0, .long l0), (2, .long l2)] [] (HH s mc D) (SJ mc) := by
  refine wp0 rfl rfl ?_
  refine wp4 rfl rfl (sf_7 hJ (4)) (fun rv h1 hq => ?_)
  obtain ⟨s2, D3, hJ4, rfl, x5, rfl⟩ := hq
  refine wp1 rfl rfl ?_
  refine wpV (lv' := [(0, .long l0), (2, .long l2), (4, .long x5)]) rfl ?_
  refine wp1 rfl rfl ?_
  refine wp1 rfl rfl ?_
  refine wp0 rfl rfl ?_
  refine wpTl (fun z6 ez6 => ?_)
  refine wp1 rfl rfl ?_
  refine wpV (lv' := [(0, .long l0), (2, .long l2), (4, .long x5), (6, .long z6)]) rfl ?_
  refine wp1 rfl rfl ?_
  refine wp0 rfl rfl ?_
  refine wp0 rfl rfl ?_
  refine wpTl (fun z7 ez7 => ?_)
  refine wp1 rfl rfl ?_
  refine wpV (lv' := [(0, .long l0), (2, .long l2), (4, .long x5), (6, .long z6), (8, .long z7)]) rfl ?_
  refine wp1 rfl rfl ?_
  refine wp1 rfl rfl ?_
  refine wp0 rfl rfl ?_
  refine wpTl (fun z8 ez8 => ?_)
  refine wp1 rfl rfl ?_
  refine wpV (lv' := [(0, .long l0), (2, .long l2), (4, .long x5), (6, .long z6), (8, .long z7), (10, .long z8)]) rfl ?_
  refine wp1 rfl rfl ?_
  refine wp0 rfl rfl ?_
  refine wp0 rfl rfl ?_
  refine wpTl (fun z9 ez9 => ?_)
  refine wp1 rfl rfl ?_
  refine wpV (lv' := [(0, .long l0), (2, .long l2), (4, .long x5), (6, .long z6), (8, .long z7), (10, .long z8), (12, .long z9)]) rfl ?_
  refine wp1 rfl rfl ?_
  refine wp1 rfl rfl ?_
  refine wp0 rfl rfl ?_
  refine wp1 rfl rfl ?_
  refine wp1 rfl rfl ?_
  refine wp0 rfl rfl ?_
  refine wp0 rfl rfl ?_
  refine wp0 rfl rfl ?_
  refine wp0 rfl rfl ?_
  refine wpTl (fun z10 ez10 => ?_)
  refine wp1 rfl rfl ?_
  refine wpV (lv' := [(0, .long l0), (2, .long l2), (4, .long x5), (6, .long z6), (8, .long z7), (10, .long z8), (12, .long z9), (14, .long z10)]) rfl ?_
  refine wp1 rfl rfl ?_
  refine wp1 rfl rfl ?_
  refine wp0 rfl rfl ?_
  refine wp1 rfl rfl ?_
  refine wp1 rfl rfl ?_
  refine wp0 rfl rfl ?_
  refine wp0 rfl rfl ?_
  refine wpTl (fun z11 ez11 => ?_)
  refine wp1 rfl rfl ?_
  refine wpV (lv' := [(0, .long l0), (2, .long l2), (4, .long x5), (6, .long z6), (8, .long z7), (10, .long z8), (12, .long z9), (14, .long z10), (16, .long z11)]) rfl ?_
  refine wp1 rfl rfl ?_
  refine wp1 rfl rfl ?_
  refine wp0 rfl rfl ?_
  refine wp1 rfl rfl ?_
  refine wp0 rfl rfl ?_
  refine wp0 rfl rfl ?_
  refine wp0 rfl rfl ?_
  refine wp1 rfl rfl ?_
  refine wp0 rfl rfl ?_
  refine wp0 rfl rfl ?_
  refine wp0 rfl rfl ?_
  exact wp5 rfl rfl ⟨_, _, hJ4, rfl, _, rfl⟩
theorem sf_92 {s : cs} {mc : am_H} {D : List pgT} (hJ : J s mc D) (l0 : Int64) (l2 : Int64)  : tb_wp L xs 92 0 (lv_args 0 [.long l0, .long l2]) [] (HH s mc D) (SJ mc) := sb_92_0 hJ l0 l2
/- 93: FlagMachine$Products.multiply(JJIZ)V -/
set_option maxRecDepth 20000 in
theorem sb_93_139 {s : cs} {mc : am_H} {D : List pgT} (hJ : J s mc D)   : tb_wp L xs 93 139 [] [] (HH s mc D) (SV mc) := by
  exact wp5 rfl rfl ⟨_, _, hJ, rfl, rfl⟩
set_option maxRecDepth 20000 in
theorem sb_93_101 {s : cs} {mc : am_H} {D : List pgT} (hJ : J s mc D) (k1 : Int64) (k2 : Int64) (k3 : Int64)  : tb_wp L xs 93 101 [] [.long k3, .long k2, .long k1, .ref 16] (HH s mc D) (SV mc) := by
  refine wp0 rfl rfl ?_
  refine wp0 rfl rfl ?_
  refine wp3 rfl (am_putf rfl (Nat.le_of_ble_eq_true rfl) rfl rfl) ?_
  have hJ1 : J (s_upper s (k1 - (k2 + k3))) mc D := hJ
  refine wpH (h' := HH (s_upper s (k1 - (k2 + k3))) mc D) rfl ?_
  refine wp2 rfl rfl ?_
  exact wpL rfl rfl (sb_93_139 hJ1 )
set_option maxRecDepth 20000 in
theorem sb_93_88 {s : cs} {mc : am_H} {D : List pgT} (hJ : J s mc D) (l7 : Int64) (l9 : Int64) (k1 : Int64) (k2 : Int64)  : tb_wp L xs 93 88 [(7, .long l7), (9, .long l9)] [.long k2, .long k1, .ref 16] (HH s mc D) (SV mc) := by
  refine wp1 rfl rfl ?_
  refine wp0 rfl rfl ?_
  refine wp0 rfl rfl ?_
  refine wp2b rfl rfl (fun c2 => ?_) (fun c2 => ?_)
  · refine wp0 rfl rfl ?_
    exact wpL rfl rfl (sb_93_101 hJ (k1) (k2) (0))
  · refine wp1 rfl rfl ?_
    refine wp2 rfl rfl ?_
    exact wpL rfl rfl (sb_93_101 hJ (k1) (k2) (l7))
set_option maxRecDepth 20000 in
theorem sb_93_32 {s : cs} {mc : am_H} {D : List pgT} (hJ : J s mc D) (l5 : Int32) (l6 : Int32) (l7 : Int64) (k0 : Int64) (hb_l6 : b01 l6) : tb_wp L xs 93 32 [(0, .ref 16), (5, .int l5), (6, .int l6), (7, .long l7)] [.long k0] (HH s mc D) (SV mc) := by
  refine wp1 rfl rfl ?_
  refine wpV (lv' := [(0, .ref 16), (5, .int l5), (6, .int l6), (7, .long l7), (9, .long k0)]) rfl ?_
  refine wp1 rfl rfl ?_
  refine wp1 rfl rfl ?_
  refine wp0 rfl rfl ?_
  refine wpTl (fun z3 ez3 => ?_)
  refine wp1 rfl rfl ?_
  refine wpV (lv' := [(0, .ref 16), (5, .int l5), (6, .int l6), (7, .long l7), (9, .long k0), (11, .long z3)]) rfl ?_
  refine wp1 rfl rfl ?_
  refine wp0 rfl rfl ?_
  refine wp2b rfl rfl (fun c4 => ?_) (fun c4 => ?_)
  · refine wp1 rfl rfl ?_
    refine wp1 rfl rfl ?_
    refine wp3 rfl (am_putf rfl (Nat.le_of_ble_eq_true rfl) rfl rfl) ?_
    have hJ5 : J (s_lower s z3) mc D := hJ
    refine wpH (h' := HH (s_lower s z3) mc D) rfl ?_
    refine wp1 rfl rfl ?_
    refine wp1 rfl rfl ?_
    refine wp1 rfl rfl ?_
    refine wp4 rfl rfl (sf_92 hJ5 (l7) (k0)) (fun rv h1 hq => ?_)
    obtain ⟨s7, D8, hJ9, rfl, x10, rfl⟩ := hq
    refine wp3 rfl (am_putf rfl (Nat.le_of_ble_eq_true rfl) rfl rfl) ?_
    have hJ11 : J (s_upper s7 x10) mc D8 := hJ9
    refine wpH (h' := HH (s_upper s7 x10) mc D8) rfl ?_
    refine wp1 rfl rfl ?_
    refine wp2b rfl rfl (fun c12 => ?_) (fun c12 => ?_)
    · exact wpL rfl rfl (sb_93_139 hJ11 )
    · refine wp1 rfl rfl ?_
      refine wp0 rfl rfl ?_
      refine wp3 rfl (am_getf rfl rfl) ?_
      refine wp1 rfl rfl ?_
      refine wp0 rfl rfl ?_
      refine wp0 rfl rfl ?_
      refine wp2b rfl rfl (fun c13 => ?_) (fun c13 => ?_)
      · refine wp0 rfl rfl ?_
        exact wpL rfl rfl (sb_93_88 hJ11 (l7) (k0) ((g_upper (s_upper s7 x10))) (0))
      · refine wp1 rfl rfl ?_
        refine wp2 rfl rfl ?_
        exact wpL rfl rfl (sb_93_88 hJ11 (l7) (k0) ((g_upper (s_upper s7 x10))) (k0))
  · refine wp1 rfl rfl ?_
    refine wp1 rfl rfl ?_
    refine wp1 rfl rfl ?_
    refine wp4 rfl rfl (sf_7 hJ (l5)) (fun rv h1 hq => ?_)
    obtain ⟨s15, D16, hJ17, rfl, x18, rfl⟩ := hq
    refine wp0 rfl rfl ?_
    refine wp3 rfl (am_putf rfl (Nat.le_of_ble_eq_true rfl) rfl rfl) ?_
    have hJ19 : J (s_lower s15 (z3 &&& x18)) mc D16 := hJ17
    refine wpH (h' := HH (s_lower s15 (z3 &&& x18)) mc D16) rfl ?_
    refine wp1 rfl rfl ?_
    refine wp1 rfl rfl ?_
    refine wp0 rfl rfl ?_
    refine wp1 rfl rfl ?_
    refine wp0 rfl rfl ?_
    refine wp0 rfl rfl ?_
    refine wp1 rfl rfl ?_
    refine wp4 rfl rfl (sf_7 hJ19 (l5)) (fun rv h1 hq => ?_)
    obtain ⟨s21, D22, hJ23, rfl, x24, rfl⟩ := hq
    refine wp0 rfl rfl ?_
    refine wp3 rfl (am_putf rfl (Nat.le_of_ble_eq_true rfl) rfl rfl) ?_
    have hJ25 : J (s_upper s21 (((Int64.toUInt64 z3 >>> ((Int32.toInt64 (8 * l5)).toUInt64 &&& Int64.toUInt64 63)).toInt64) &&& x24)) mc D22 := hJ23
    refine wpH (h' := HH (s_upper s21 (((Int64.toUInt64 z3 >>> ((Int32.toInt64 (8 * l5)).toUInt64 &&& Int64.toUInt64 63)).toInt64) &&& x24)) mc D22) rfl ?_
    exact wpL rfl rfl (sb_93_139 hJ25 )
set_option maxRecDepth 20000 in
theorem sb_93_15 {s : cs} {mc : am_H} {D : List pgT} (hJ : J s mc D) (l3 : Int64) (l5 : Int32) (l6 : Int32) (k0 : Int64) (hb_l6 : b01 l6) : tb_wp L xs 93 15 [(0, .ref 16), (3, .long l3), (5, .int l5), (6, .int l6)] [.long k0] (HH s mc D) (SV mc) := by
  refine wp1 rfl rfl ?_
  refine wpV (lv' := [(0, .ref 16), (3, .long l3), (5, .int l5), (6, .int l6), (7, .long k0)]) rfl ?_
  refine wp1 rfl rfl ?_
  refine wp2b rfl rfl (fun c26 => ?_) (fun c26 => ?_)
  · refine wp1 rfl rfl ?_
    exact wpL rfl rfl (sb_93_32 hJ (l5) (l6) (k0) (l3) hb_l6)
  · refine wp1 rfl rfl ?_
    refine wp1 rfl rfl ?_
    refine wp4 rfl rfl (sf_17 hJ (l3) (l5)) (fun rv h1 hq => ?_)
    obtain ⟨s28, D29, hJ30, rfl, x31, rfl⟩ := hq
    refine wp2 rfl rfl ?_
    exact wpL rfl rfl (sb_93_32 hJ30 (l5) (l6) (k0) (x31) hb_l6)
set_option maxRecDepth 20000 in
theorem sb_93_0 {s : cs} {mc : am_H} {D : List pgT} (hJ : J s mc D) (l1 : Int64) (l3 : Int64) (l5 : Int32) (l6 : Int32) (hb_l6 : b01 l6) : tb_wp L xs 93 0 [(0, .ref 16), (1, .long l1), (3, .long l3), (5, .int l5), (6, .int l6)] [] (HH s mc D) (SV mc) := by
  refine wp1 rfl rfl ?_
  refine wp2b rfl rfl (fun c32 => ?_) (fun c32 => ?_)
  · refine wp1 rfl rfl ?_
    exact wpL rfl rfl (sb_93_15 hJ (l3) (l5) (l6) (l1) hb_l6)
  · refine wp1 rfl rfl ?_
    refine wp1 rfl rfl ?_
    refine wp4 rfl rfl (sf_17 hJ (l1) (l5)) (fun rv h1 hq => ?_)
    obtain ⟨s34, D35, hJ36, rfl, x37, rfl⟩ := hq
    refine wp2 rfl rfl ?_
    exact wpL rfl rfl (sb_93_15 hJ36 (l3) (l5) (l6) (x37) hb_l6)
theorem sf_93 {s : cs} {mc : am_H} {D : List pgT} (hJ : J s mc D) (l1 : Int64) (l3 : Int64) (l5 : Int32) (l6 : Int32) (hb_l6 : b01 l6) : tb_wp L xs 93 0 (lv_args 0 [.ref 16, .long l1, .long l3, .int l5, .int l6]) [] (HH s mc D) (SV mc) := sb_93_0 hJ l1 l3 l5 l6 hb_l6
/- 97: FlagMachine$Products.putPair(JJ)V -/
set_option maxRecDepth 20000 in
theorem sb_97_55 {s : cs} {mc : am_H} {D : List pgT} (hJ : J s mc D)   : tb_wp L xs 97 55 [] [] (HH s mc D) (SV mc) := by
  exact wp5 rfl rfl ⟨_, _, hJ, rfl, rfl⟩
set_option maxRecDepth 20000 in
theorem sb_97_0 {s : cs} {mc : am_H} {D : List pgT} (hJ : J s mc D) (l1 : Int64) (l3 : Int64)  : tb_wp L xs 97 0 [(0, .ref 16), (1, .long l1), (3, .long l3)] [] (HH s mc D) (SV mc) := by
  refine wp1 rfl rfl ?_
  refine wp3 rfl (am_getf rfl rfl) ?_
  refine wp3 rfl (am_getf rfl rfl) ?_
  refine wpTi (fun z1 ez1 => ?_)
  refine wp1 rfl rfl ?_
  refine wpV (lv' := [(0, .ref 16), (1, .long l1), (3, .long l3), (5, .int z1)]) rfl ?_
  refine wp1 rfl rfl ?_
  refine wp3 rfl (am_getf rfl rfl) ?_
  refine wp0 rfl rfl ?_
  refine wp1 rfl rfl ?_
  refine wp1 rfl rfl ?_
  refine wp4 rfl rfl (sf_37 hJ (0) (z1) (l1) (by decide)) (fun rv h1 hq => ?_)
  obtain ⟨s3, D4, hJ5, rfl, rfl⟩ := hq
  refine wp1 rfl rfl ?_
  refine wp0 rfl rfl ?_
  refine wp2b rfl rfl (fun c7 => ?_) (fun c7 => ?_)
  · refine wp1 rfl rfl ?_
    refine wp3 rfl (am_getf rfl rfl) ?_
    refine wp0 rfl rfl ?_
    refine wp0 rfl rfl ?_
    refine wp1 rfl rfl ?_
    refine wp0 rfl rfl ?_
    refine wp0 rfl rfl ?_
    refine wp1 rfl rfl ?_
    refine wp0 rfl rfl ?_
    refine wp4 rfl rfl (sf_37 hJ5 (0) (2) (((l3 <<< (Int32.toInt64 8 &&& 63)) ||| l1)) (by decide)) (fun rv h1 hq => ?_)
    obtain ⟨s9, D10, hJ11, rfl, rfl⟩ := hq
    refine wp2 rfl rfl ?_
    exact wpL rfl rfl (sb_97_55 hJ11 )
  · refine wp1 rfl rfl ?_
    refine wp3 rfl (am_getf rfl rfl) ?_
    refine wp0 rfl rfl ?_
    refine wp1 rfl rfl ?_
    refine wp1 rfl rfl ?_
    refine wp4 rfl rfl (sf_37 hJ5 (2) (z1) (l3) (by decide)) (fun rv h1 hq => ?_)
    obtain ⟨s14, D15, hJ16, rfl, rfl⟩ := hq
    exact wpL rfl rfl (sb_97_55 hJ16 )
theorem sf_97 {s : cs} {mc : am_H} {D : List pgT} (hJ : J s mc D) (l1 : Int64) (l3 : Int64)  : tb_wp L xs 97 0 (lv_args 0 [.ref 16, .long l1, .long l3]) [] (HH s mc D) (SV mc) := sb_97_0 hJ l1 l3
/- 98: FlagMachine$Products.signFill(JI)J -/
set_option maxRecDepth 20000 in
theorem sb_98_19 {s : cs} {mc : am_H} {D : List pgT} (hJ : J s mc D) (k0 : Int64)  : tb_wp L xs 98 19 [] [.long k0] (HH s mc D) (SJ mc) := by
  exact wp5 rfl rfl ⟨_, _, hJ, rfl, _, rfl⟩
set_option maxRecDepth 20000 in
theorem sb_98_0 {s : cs} {mc : am_H} {D : List pgT} (hJ : J s mc D) (l0 : Int64) (l2 : Int32)  : tb_wp L xs 98 0 [(0, .long l0), (2, .int l2)] [] (HH s mc D) (SJ mc) := by
  refine wp1 rfl rfl ?_
  refine wp1 rfl rfl ?_
  refine wp4 rfl rfl (sf_19 hJ (l2)) (fun rv h1 hq => ?_)
  obtain ⟨s2, D3, hJ4, rfl, x5, rfl⟩ := hq
  refine wp0 rfl rfl ?_
  refine wp0 rfl rfl ?_
  refine wp0 rfl rfl ?_
  refine wp2b rfl rfl (fun c6 => ?_) (fun c6 => ?_)
  · refine wp0 rfl rfl ?_
    exact wpL rfl rfl (sb_98_19 hJ4 (0))
  · refine wp1 rfl rfl ?_
    refine wp4 rfl rfl (sf_7 hJ4 (l2)) (fun rv h1 hq => ?_)
    obtain ⟨s8, D9, hJ10, rfl, x11, rfl⟩ := hq
    refine wp2 rfl rfl ?_
    exact wpL rfl rfl (sb_98_19 hJ10 (x11))
theorem sf_98 {s : cs} {mc : am_H} {D : List pgT} (hJ : J s mc D) (l0 : Int64) (l2 : Int32)  : tb_wp L xs 98 0 (lv_args 0 [.long l0, .int l2]) [] (HH s mc D) (SJ mc) := sb_98_0 hJ l0 l2
/- 104: FlagMachine$Services.startAnew()V -/
set_option maxRecDepth 20000 in
theorem sb_104_0 {s : cs} {mc : am_H} {D : List pgT} (hJ : J s mc D)   : tb_wp L xs 104 0 [(0, .ref 19)] [] (HH s mc D) (SV mc) := by
  refine wp1 rfl rfl ?_
  refine wp0 rfl rfl ?_
  refine wp3 rfl (am_putf rfl (Nat.le_of_ble_eq_true rfl) rfl rfl) ?_
  have hJ1 : J (s_first s 0) mc D := hJ
  refine wpH (h' := HH (s_first s 0) mc D) rfl ?_
  refine wp1 rfl rfl ?_
  refine wp0 rfl rfl ?_
  refine wp3 rfl (am_putf rfl (Nat.le_of_ble_eq_true rfl) rfl rfl) ?_
  have hJ2 : J (s_waiting (s_first s 0) 0) mc D := hJ1
  refine wpH (h' := HH (s_waiting (s_first s 0) 0) mc D) rfl ?_
  refine wp1 rfl rfl ?_
  refine wp0 rfl rfl ?_
  refine wp3 rfl (am_putf rfl (Nat.le_of_ble_eq_true rfl) rfl rfl) ?_
  have hJ3 : J (s_sent (s_waiting (s_first s 0) 0) 0) mc D := hJ2
  refine wpH (h' := HH (s_sent (s_waiting (s_first s 0) 0) 0) mc D) rfl ?_
  exact wp5 rfl rfl ⟨_, _, hJ3, rfl, rfl⟩
theorem sf_104 {s : cs} {mc : am_H} {D : List pgT} (hJ : J s mc D)   : tb_wp L xs 104 0 (lv_args 0 [.ref 19]) [] (HH s mc D) (SV mc) := sb_104_0 hJ 
/- 118: FlagMachine$Stretch.restOfPage(I)I -/
set_option maxRecDepth 20000 in
theorem sb_118_0 {s : cs} {mc : am_H} {D : List pgT} (hJ : J s mc D) (l0 : Int32)  : tb_wp L xs 118 0 [(0, .int l0)] [] (HH s mc D) (SI mc) := by
  refine wp0 rfl rfl ?_
  refine wp1 rfl rfl ?_
  refine wp0 rfl rfl ?_
  refine wp0 rfl rfl ?_
  refine wp0 rfl rfl ?_
  exact wp5i rfl rfl ⟨_, _, hJ, rfl, _, rfl⟩
theorem sf_118 {s : cs} {mc : am_H} {D : List pgT} (hJ : J s mc D) (l0 : Int32)  : tb_wp L xs 118 0 (lv_args 0 [.int l0]) [] (HH s mc D) (SI mc) := sb_118_0 hJ l0
/- 123: FlagMachine$Sums.resultOf(IJJ)J -/
set_option maxRecDepth 20000 in
theorem sb_123_15 {s : cs} {mc : am_H} {D : List pgT} (hJ : J s mc D) (l1 : Int32) (l2 : Int64) (l4 : Int64) (k0 : Int64)  : tb_wp L xs 123 15 [(1, .int l1), (2, .long l2), (4, .long l4)] [.long k0] (HH s mc D) (SJ mc) := by
  refine wp1 rfl rfl ?_
  refine wpV (lv' := [(1, .int l1), (2, .long l2), (4, .long l4), (6, .long k0)]) rfl ?_
  refine wp1 rfl rfl ?_
  refine wp2s [228, 233, 238, 246, 254, 259, 264, 270, 273, 277, 281] rfl rfl rfl rfl (am_fa1 ?_ (am_fa1 ?_ (am_fa1 ?_ (am_fa1 ?_ (am_fa1 ?_ (am_fa1 ?_ (am_fa1 ?_ (am_fa1 ?_ (am_fa1 ?_ (am_fa1 ?_ (am_fa1 ?_ (am_fa0))))))))))))
  · refine wp1 rfl rfl ?_
    refine wp1 rfl rfl ?_
    refine wp0 rfl rfl ?_
    exact wp5 rfl rfl ⟨_, _, hJ, rfl, _, rfl⟩
  · refine wp1 rfl rfl ?_
    refine wp1 rfl rfl ?_
    refine wp0 rfl rfl ?_
    exact wp5 rfl rfl ⟨_, _, hJ, rfl, _, rfl⟩
  · refine wp1 rfl rfl ?_
    refine wp1 rfl rfl ?_
    refine wp0 rfl rfl ?_
    refine wp1 rfl rfl ?_
    refine wp0 rfl rfl ?_
    exact wp5 rfl rfl ⟨_, _, hJ, rfl, _, rfl⟩
  · refine wp1 rfl rfl ?_
    refine wp1 rfl rfl ?_
    refine wp0 rfl rfl ?_
    refine wp1 rfl rfl ?_
    refine wp0 rfl rfl ?_
    exact wp5 rfl rfl ⟨_, _, hJ, rfl, _, rfl⟩
  · refine wp1 rfl rfl ?_
    refine wp1 rfl rfl ?_
    refine wp0 rfl rfl ?_
    exact wp5 rfl rfl ⟨_, _, hJ, rfl, _, rfl⟩
  · refine wp1 rfl rfl ?_
    refine wp1 rfl rfl ?_
    refine wp0 rfl rfl ?_
    exact wp5 rfl rfl ⟨_, _, hJ, rfl, _, rfl⟩
  · refine wp1 rfl rfl ?_
    refine wp0 rfl rfl ?_
    refine wp0 rfl rfl ?_
    exact wp5 rfl rfl ⟨_, _, hJ, rfl, _, rfl⟩
  · refine wp1 rfl rfl ?_
    refine wp0 rfl rfl ?_
    exact wp5 rfl rfl ⟨_, _, hJ, rfl, _, rfl⟩
  · refine wp1 rfl rfl ?_
    refine wp0 rfl rfl ?_
    refine wp0 rfl rfl ?_
    exact wp5 rfl rfl ⟨_, _, hJ, rfl, _, rfl⟩
  · refine wp1 rfl rfl ?_
    refine wp0 rfl rfl ?_
    refine wp0 rfl rfl ?_
    exact wp5 rfl rfl ⟨_, _, hJ, rfl, _, rfl⟩
  · refine wp1 rfl rfl ?_
    refine wp1 rfl rfl ?_
    refine wp0 rfl rfl ?_
    exact wp5 rfl rfl ⟨_, _, hJ, rfl, _, rfl⟩
set_option maxRecDepth 20000 in
theorem sb_123_0 {s : cs} {mc : am_H} {D : List pgT} (hJ : J s mc D) (l1 : Int32) (l2 : Int64) (l4 : Int64)  : tb_wp L xs 123 0 [(0, .ref 15), (1, .int l1), (2, .long l2), (4, .long l4)] [] (HH s mc D) (SJ mc) := by
  refine wp1 rfl rfl ?_
  refine wp3 rfl (am_getf rfl rfl) ?_
  refine wp3 rfl (am_getf rfl rfl) ?_
  refine wp2b rfl rfl (fun c1 => ?_) (fun c1 => ?_)
  · refine wp0 rfl rfl ?_
    exact wpL rfl rfl (sb_123_15 hJ (l1) (l2) (l4) (0))
  · refine wp0 rfl rfl ?_
    refine wp2 rfl rfl ?_
    exact wpL rfl rfl (sb_123_15 hJ (l1) (l2) (l4) (1))
theorem sf_123 {s : cs} {mc : am_H} {D : List pgT} (hJ : J s mc D) (l1 : Int32) (l2 : Int64) (l4 : Int64)  : tb_wp L xs 123 0 (lv_args 0 [.ref 15, .int l1, .long l2, .long l4]) [] (HH s mc D) (SJ mc) := sb_123_0 hJ l1 l2 l4
/- 192: java/lang/Long.bitCount(J)I -/
set_option maxRecDepth 20000 in
theorem sb_192_0 {s : cs} {mc : am_H} {D : List pgT} (hJ : J s mc D) (l0 : Int64)  : tb_wp L xs 192 0 [(0, .long l0)] [] (HH s mc D) (SI mc) := by
  refine wp1 rfl rfl ?_
  refine wp1 rfl rfl ?_
  refine wp0 rfl rfl ?_
  refine wp0 rfl rfl ?_
  refine wp0 rfl rfl ?_
  refine wp0 rfl rfl ?_
  refine wp0 rfl rfl ?_
  refine wpTl (fun z1 ez1 => ?_)
  refine wp1 rfl rfl ?_
  refine wpV (lv' := [(0, .long z1)]) rfl ?_
  refine wp1 rfl rfl ?_
  refine wp0 rfl rfl ?_
  refine wp0 rfl rfl ?_
  refine wp1 rfl rfl ?_
  refine wp0 rfl rfl ?_
  refine wp0 rfl rfl ?_
  refine wp0 rfl rfl ?_
  refine wp0 rfl rfl ?_
  refine wp0 rfl rfl ?_
  refine wpTl (fun z2 ez2 => ?_)
  refine wp1 rfl rfl ?_
  refine wpV (lv' := [(0, .long z2)]) rfl ?_
  refine wp1 rfl rfl ?_
  refine wp1 rfl rfl ?_
  refine wp0 rfl rfl ?_
  refine wp0 rfl rfl ?_
  refine wp0 rfl rfl ?_
  refine wp0 rfl rfl ?_
  refine wp0 rfl rfl ?_
  refine wpTl (fun z3 ez3 => ?_)
  refine wp1 rfl rfl ?_
  refine wpV (lv' := [(0, .long z3)]) rfl ?_
  refine wp1 rfl rfl ?_
  refine wp1 rfl rfl ?_
  refine wp0 rfl rfl ?_
  refine wp0 rfl rfl ?_
  refine wp0 rfl rfl ?_
  refine wpTl (fun z4 ez4 => ?_)
  refine wp1 rfl rfl ?_
  refine wpV (lv' := [(0, .long z4)]) rfl ?_
  refine wp1 rfl rfl ?_
  refine wp1 rfl rfl ?_
  refine wp0 rfl rfl ?_
  refine wp0 rfl rfl ?_
  refine wp0 rfl rfl ?_
  refine wpTl (fun z5 ez5 => ?_)
  refine wp1 rfl rfl ?_
  refine wpV (lv' := [(0, .long z5)]) rfl ?_
  refine wp1 rfl rfl ?_
  refine wp1 rfl rfl ?_
  refine wp0 rfl rfl ?_
  refine wp0 rfl rfl ?_
  refine wp0 rfl rfl ?_
  refine wpTl (fun z6 ez6 => ?_)
  refine wp1 rfl rfl ?_
  refine wpV (lv' := [(0, .long z6)]) rfl ?_
  refine wp1 rfl rfl ?_
  refine wp0 rfl rfl ?_
  refine wp0 rfl rfl ?_
  refine wp0 rfl rfl ?_
  exact wp5i rfl rfl ⟨_, _, hJ, rfl, _, rfl⟩
theorem sf_192 {s : cs} {mc : am_H} {D : List pgT} (hJ : J s mc D) (l0 : Int64)  : tb_wp L xs 192 0 (lv_args 0 [.long l0]) [] (HH s mc D) (SI mc) := sb_192_0 hJ l0
/- 195: java/util/Arrays.fill([JJ)V -/
set_option maxRecDepth 20000 in
theorem sb_195_6 (n : Nat) : ∀ {s : cs} {mc : am_H} {D : List pgT} (hJ : J s mc D) (l1 : Int64) (l3 : Int32) (hn_l3 : 0 ≤ Int32.toInt l3) (hm : ((16 : Int32).toInt - (l3 : Int32).toInt).toNat < n), tb_wp L xs 195 6 [(0, .ref 8), (1, .long l1), (3, .int l3), (4, .int 16)] [] (HH s mc D) (SV mc) := by
  induction n with
  | zero => intro s mc D hJ l1 l3 hn_l3 hm; exact absurd hm (Nat.not_lt_zero _)
  | succ n ih =>
    intro s mc D hJ l1 l3 hn_l3 hm
    refine wp1 rfl rfl ?_
    refine wp1 rfl rfl ?_
    refine wp2b rfl rfl (fun c1 => ?_) (fun c1 => ?_)
    · exact wp5 rfl rfl ⟨_, _, hJ, rfl, rfl⟩
    · refine wp1 rfl rfl ?_
      refine wp1 rfl rfl ?_
      refine wp1 rfl rfl ?_
      refine wp3 rfl (am_last rfl (by simp only [Int32.lt_iff_toInt_lt, Int32.le_iff_toInt_le, ← Int32.toInt_inj] at c1; have hnn := hn_l3; have e0 : (16 : Int32).toInt = 16 := rfl; have g0 : (Int32.ofNat 16).toInt = 16 := rfl; exact am_in_of (by omega) (by omega))) ?_
      have hJ2 : J (s_regs s (vp_updL (g_regs s) (Int32.toNatClampNeg l3) l1)) mc D := hJ
      refine wpH (h' := HH (s_regs s (vp_updL (g_regs s) (Int32.toNatClampNeg l3) l1)) mc D) rfl ?_
      refine wp1 rfl rfl ?_
      refine wpV (lv' := [(0, .ref 8), (1, .long l1), (3, .int (l3 + 1)), (4, .int 16)]) rfl ?_
      refine wp2 rfl rfl ?_
      exact wpL rfl rfl (ih hJ2 (l1) ((l3 + 1)) (i32_upp c1 hn_l3) (i32_up c1 hm))
set_option maxRecDepth 20000 in
theorem sb_195_0 {s : cs} {mc : am_H} {D : List pgT} (hJ : J s mc D) (l1 : Int64)  : tb_wp L xs 195 0 [(0, .ref 8), (1, .long l1)] [] (HH s mc D) (SV mc) := by
  refine wp0 rfl rfl ?_
  refine wp1 rfl rfl ?_
  refine wpV (lv' := [(0, .ref 8), (1, .long l1), (3, .int 0)]) rfl ?_
  refine wp1 rfl rfl ?_
  refine wp3 rfl (am_alen rfl) ?_
  refine wp1 rfl rfl ?_
  refine wpV (lv' := [(0, .ref 8), (1, .long l1), (3, .int 0), (4, .int 16)]) rfl ?_
  exact wpL rfl rfl (sb_195_6 _ hJ (l1) (0) (by decide) (Nat.lt_succ_self _))
theorem sf_195 {s : cs} {mc : am_H} {D : List pgT} (hJ : J s mc D) (l1 : Int64)  : tb_wp L xs 195 0 (lv_args 0 [.ref 8, .long l1]) [] (HH s mc D) (SV mc) := sb_195_0 hJ l1
/- 15: FlagMachine.register(I)J -/
set_option maxRecDepth 20000 in
theorem sb_15_20 {s : cs} {mc : am_H} {D : List pgT} (hJ : J s mc D) (l1 : Int32)  : tb_wp L xs 15 20 [(0, .ref 1), (1, .int l1)] [] (HH s mc D) (SJ mc) := by
  refine wp1 rfl rfl ?_
  refine wp2s [52, 60, 71, 82, 87] rfl rfl rfl rfl (am_fa1 ?_ (am_fa1 ?_ (am_fa1 ?_ (am_fa1 ?_ (am_fa1 ?_ (am_fa0))))))
  · refine wp1 rfl rfl ?_
    refine wp3 rfl (am_getf rfl rfl) ?_
    refine wp3 rfl (am_getf rfl rfl) ?_
    exact wp5 rfl rfl ⟨_, _, hJ, rfl, _, rfl⟩
  · refine wp1 rfl rfl ?_
    refine wp3 rfl (am_getf rfl rfl) ?_
    refine wp3 rfl (am_getf rfl rfl) ?_
    refine wp4 rfl rfl (sf_44 hJ ) (fun rv h1 hq => ?_)
    obtain ⟨s2, D3, hJ4, rfl, x5, rfl⟩ := hq
    exact wp5 rfl rfl ⟨_, _, hJ4, rfl, _, rfl⟩
  · refine wp1 rfl rfl ?_
    refine wp3 rfl (am_getf rfl rfl) ?_
    refine wp3 rfl (am_getf rfl rfl) ?_
    refine wp4 rfl rfl (sf_66 hJ ) (fun rv h1 hq => ?_)
    obtain ⟨s7, D8, hJ9, rfl, x10, rfl⟩ := hq
    exact wp5 rfl rfl ⟨_, _, hJ9, rfl, _, rfl⟩
  · refine wp1 rfl rfl ?_
    refine wp3 rfl (am_getf rfl rfl) ?_
    exact wp5 rfl rfl ⟨_, _, hJ, rfl, _, rfl⟩
  · refine wp0 rfl rfl ?_
    exact wp5 rfl rfl ⟨_, _, hJ, rfl, _, rfl⟩
set_option maxRecDepth 20000 in
theorem sb_15_0 {s : cs} {mc : am_H} {D : List pgT} (hJ : J s mc D) (l1 : Int32)  : tb_wp L xs 15 0 [(0, .ref 1), (1, .int l1)] [] (HH s mc D) (SJ mc) := by
  refine wp1 rfl rfl ?_
  refine wp2b rfl rfl (fun c11 => ?_) (fun c11 => ?_)
  · exact wpL rfl rfl (sb_15_20 hJ (l1))
  · refine wp1 rfl rfl ?_
    refine wp0 rfl rfl ?_
    refine wp2b rfl rfl (fun c12 => ?_) (fun c12 => ?_)
    · exact wpL rfl rfl (sb_15_20 hJ (l1))
    · refine wp1 rfl rfl ?_
      refine wp3 rfl (am_getf rfl rfl) ?_
      refine wp3 rfl (am_getf rfl rfl) ?_
      refine wp1 rfl rfl ?_
      refine wp3 rfl (am_lald rfl (by simp only [Int32.lt_iff_toInt_lt, Int32.le_iff_toInt_le, ← Int32.toInt_inj] at c11 c12; have e0 : (0 : Int32).toInt = 0 := rfl; have g0 : (Int32.ofNat 0).toInt = 0 := rfl; have e1 : (15 : Int32).toInt = 15 := rfl; have g1 : (Int32.ofNat 15).toInt = 15 := rfl; exact am_in_of (by omega) (by omega))) ?_
      exact wp5 rfl rfl ⟨_, _, hJ, rfl, _, rfl⟩
theorem sf_15 {s : cs} {mc : am_H} {D : List pgT} (hJ : J s mc D) (l1 : Int32)  : tb_wp L xs 15 0 (lv_args 0 [.ref 1, .int l1]) [] (HH s mc D) (SJ mc) := sb_15_0 hJ l1
/- 34: FlagMachine$Core.memoryAddress()J -/
set_option maxRecDepth 20000 in
theorem sb_34_30 {s : cs} {mc : am_H} {D : List pgT} (hJ : J s mc D) (k0 : Int64)  : tb_wp L xs 34 30 [(0, .ref 7)] [.long k0] (HH s mc D) (SJ mc) := by
  refine wp1 rfl rfl ?_
  refine wpV (lv' := [(0, .ref 7), (1, .long k0)]) rfl ?_
  refine wp1 rfl rfl ?_
  refine wp1 rfl rfl ?_
  refine wp1 rfl rfl ?_
  refine wp3 rfl (am_getf rfl rfl) ?_
  refine wp3 rfl (am_getf rfl rfl) ?_
  refine wp4 rfl rfl (sf_38 hJ ((g_index s))) (fun rv h1 hq => ?_)
  obtain ⟨s2, D3, hJ4, rfl, x5, rfl⟩ := hq
  refine wp1 rfl rfl ?_
  refine wp3 rfl (am_getf rfl rfl) ?_
  refine wp3 rfl (am_getf rfl rfl) ?_
  refine wp0 rfl rfl ?_
  refine wp0 rfl rfl ?_
  refine wp0 rfl rfl ?_
  refine wp1 rfl rfl ?_
  refine wp3 rfl (am_getf rfl rfl) ?_
  refine wp3 rfl (am_getf rfl rfl) ?_
  refine wp0 rfl rfl ?_
  refine wp0 rfl rfl ?_
  exact wp5 rfl rfl ⟨_, _, hJ4, rfl, _, rfl⟩
set_option maxRecDepth 20000 in
theorem sb_34_0 {s : cs} {mc : am_H} {D : List pgT} (hJ : J s mc D)   : tb_wp L xs 34 0 [(0, .ref 7)] [] (HH s mc D) (SJ mc) := by
  refine wp1 rfl rfl ?_
  refine wp3 rfl (am_getf rfl rfl) ?_
  refine wp3 rfl (am_getf rfl rfl) ?_
  refine wp0 rfl rfl ?_
  refine wp2b rfl rfl (fun c6 => ?_) (fun c6 => ?_)
  · refine wp1 rfl rfl ?_
    refine wp3 rfl (am_getf rfl rfl) ?_
    refine wp2 rfl rfl ?_
    exact wpL rfl rfl (sb_34_30 hJ ((g_next s)))
  · refine wp1 rfl rfl ?_
    refine wp1 rfl rfl ?_
    refine wp3 rfl (am_getf rfl rfl) ?_
    refine wp3 rfl (am_getf rfl rfl) ?_
    refine wp4 rfl rfl (sf_38 hJ ((g_base s))) (fun rv h1 hq => ?_)
    obtain ⟨s8, D9, hJ10, rfl, x11, rfl⟩ := hq
    exact wpL rfl rfl (sb_34_30 hJ10 (x11))
theorem sf_34 {s : cs} {mc : am_H} {D : List pgT} (hJ : J s mc D)   : tb_wp L xs 34 0 (lv_args 0 [.ref 7]) [] (HH s mc D) (SJ mc) := sb_34_0 hJ 
/- 36: FlagMachine$Core.prepare(I)V -/
set_option maxRecDepth 20000 in
theorem sb_36_41 {s : cs} {mc : am_H} {D : List pgT} (hJ : J s mc D) (k1 : Int64)  : tb_wp L xs 36 41 [] [.long k1, .ref 7] (HH s mc D) (SV mc) := by
  refine wp3 rfl (am_putf rfl (Nat.le_of_ble_eq_true rfl) rfl rfl) ?_
  have hJ1 : J (s_address s k1) mc D := hJ
  refine wpH (h' := HH (s_address s k1) mc D) rfl ?_
  exact wp5 rfl rfl ⟨_, _, hJ1, rfl, rfl⟩
set_option maxRecDepth 20000 in
theorem sb_36_0 {s : cs} {mc : am_H} {D : List pgT} (hJ : J s mc D) (l1 : Int32)  : tb_wp L xs 36 0 [(0, .ref 7), (1, .int l1)] [] (HH s mc D) (SV mc) := by
  refine wp1 rfl rfl ?_
  refine wp0 rfl rfl ?_
  refine wp3 rfl (am_putf rfl (Nat.le_of_ble_eq_true rfl) rfl rfl) ?_
  have hJ2 : J (s_stop s 0) mc D := hJ
  refine wpH (h' := HH (s_stop s 0) mc D) rfl ?_
  refine wp1 rfl rfl ?_
  refine wp0 rfl rfl ?_
  refine wp3 rfl (am_putf rfl (Nat.le_of_ble_eq_true rfl) rfl rfl) ?_
  have hJ3 : J (s_stopv (s_stop s 0) 0) mc D := hJ2
  refine wpH (h' := HH (s_stopv (s_stop s 0) 0) mc D) rfl ?_
  refine wp1 rfl rfl ?_
  refine wp1 rfl rfl ?_
  refine wp3 rfl (am_getf rfl rfl) ?_
  refine wp1 rfl rfl ?_
  refine wp0 rfl rfl ?_
  refine wp0 rfl rfl ?_
  refine wp3 rfl (am_putf rfl (Nat.le_of_ble_eq_true rfl) rfl rfl) ?_
  have hJ4 : J (s_next (s_stopv (s_stop s 0) 0) ((g_ip (s_stopv (s_stop s 0) 0)) + (Int32.toInt64 l1))) mc D := hJ3
  refine wpH (h' := HH (s_next (s_stopv (s_stop s 0) 0) ((g_ip (s_stopv (s_stop s 0) 0)) + (Int32.toInt64 l1))) mc D) rfl ?_
  refine wp1 rfl rfl ?_
  refine wp1 rfl rfl ?_
  refine wp3 rfl (am_getf rfl rfl) ?_
  refine wp0 rfl rfl ?_
  refine wp4 rfl rfl (sf_55 hJ4 (2)) (fun rv h1 hq => ?_)
  obtain ⟨s6, D7, hJ8, rfl, x9, rfl, hb_x9⟩ := hq
  refine wp2b rfl rfl (fun c10 => ?_) (fun c10 => ?_)
  · refine wp0 rfl rfl ?_
    exact wpL rfl rfl (sb_36_41 hJ8 (0))
  · refine wp1 rfl rfl ?_
    refine wp4 rfl rfl (sf_34 hJ8 ) (fun rv h1 hq => ?_)
    obtain ⟨s12, D13, hJ14, rfl, x15, rfl⟩ := hq
    refine wp2 rfl rfl ?_
    exact wpL rfl rfl (sb_36_41 hJ14 (x15))
theorem sf_36 {s : cs} {mc : am_H} {D : List pgT} (hJ : J s mc D) (l1 : Int32)  : tb_wp L xs 36 0 (lv_args 0 [.ref 7, .int l1]) [] (HH s mc D) (SV mc) := sb_36_0 hJ l1
/- 40: FlagMachine$Core.startAnew()V -/
set_option maxRecDepth 20000 in
theorem sb_40_0 {s : cs} {mc : am_H} {D : List pgT} (hJ : J s mc D)   : tb_wp L xs 40 0 [(0, .ref 7)] [] (HH s mc D) (SV mc) := by
  refine wp1 rfl rfl ?_
  refine wp3 rfl (am_getf rfl rfl) ?_
  refine wp0 rfl rfl ?_
  refine wp4 rfl rfl (sf_195 hJ (0)) (fun rv h1 hq => ?_)
  obtain ⟨s2, D3, hJ4, rfl, rfl⟩ := hq
  refine wp1 rfl rfl ?_
  refine wp3 rfl (am_getf rfl rfl) ?_
  refine wp0 rfl rfl ?_
  refine wp0 rfl rfl ?_
  refine wp3 rfl (am_last rfl (by decide)) ?_
  have hJ6 : J (s_regs s2 (vp_updL (g_regs s2) (Int32.toNatClampNeg 4) 2147479552)) mc D3 := hJ4
  refine wpH (h' := HH (s_regs s2 (vp_updL (g_regs s2) (Int32.toNatClampNeg 4) 2147479552)) mc D3) rfl ?_
  refine wp1 rfl rfl ?_
  refine wp3 rfl (am_getf rfl rfl) ?_
  refine wp4 rfl rfl (sf_45 hJ6 ) (fun rv h1 hq => ?_)
  obtain ⟨s8, D9, hJ10, rfl, rfl⟩ := hq
  refine wp1 rfl rfl ?_
  refine wp0 rfl rfl ?_
  refine wp3 rfl (am_putf rfl (Nat.le_of_ble_eq_true rfl) rfl rfl) ?_
  have hJ12 : J (s_ip s8 4194304) mc D9 := hJ10
  refine wpH (h' := HH (s_ip s8 4194304) mc D9) rfl ?_
  refine wp1 rfl rfl ?_
  refine wp0 rfl rfl ?_
  refine wp3 rfl (am_putf rfl (Nat.le_of_ble_eq_true rfl) rfl rfl) ?_
  have hJ13 : J (s_stop (s_ip s8 4194304) 0) mc D9 := hJ12
  refine wpH (h' := HH (s_stop (s_ip s8 4194304) 0) mc D9) rfl ?_
  refine wp1 rfl rfl ?_
  refine wp0 rfl rfl ?_
  refine wp3 rfl (am_putf rfl (Nat.le_of_ble_eq_true rfl) rfl rfl) ?_
  have hJ14 : J (s_stopv (s_stop (s_ip s8 4194304) 0) 0) mc D9 := hJ13
  refine wpH (h' := HH (s_stopv (s_stop (s_ip s8 4194304) 0) 0) mc D9) rfl ?_
  exact wp5 rfl rfl ⟨_, _, hJ14, rfl, rfl⟩
theorem sf_40 {s : cs} {mc : am_H} {D : List pgT} (hJ : J s mc D)   : tb_wp L xs 40 0 (lv_args 0 [.ref 7]) [] (HH s mc D) (SV mc) := sb_40_0 hJ 
/- 46: FlagMachine$Flags.holds(I)Z -/
set_option maxRecDepth 20000 in
theorem sb_46_28 {s : cs} {mc : am_H} {D : List pgT} (hJ : J s mc D) (k0 : Int32) (hb_k0 : b01 k0) : tb_wp L xs 46 28 [] [.int k0] (HH s mc D) (SZ mc) := by
  exact wp5z rfl rfl hb_k0 ⟨_, _, hJ, rfl, _, rfl, hb_k0⟩
set_option maxRecDepth 20000 in
theorem sb_46_11 {s : cs} {mc : am_H} {D : List pgT} (hJ : J s mc D) (l1 : Int32) (k0 : Int32) (hb_k0 : b01 k0) : tb_wp L xs 46 11 [(0, .ref 9), (1, .int l1)] [.int k0] (HH s mc D) (SZ mc) := by
  refine wp1 rfl rfl ?_
  refine wpV (lv' := [(0, .ref 9), (1, .int l1), (2, .int k0)]) rfl ?_
  refine wp1 rfl rfl ?_
  refine wp1 rfl rfl ?_
  refine wp0 rfl rfl ?_
  refine wp0 rfl rfl ?_
  refine wp4 rfl rfl (sf_47 hJ ((l1 >>> (1 &&& 31)))) (fun rv h1 hq => ?_)
  obtain ⟨s2, D3, hJ4, rfl, x5, rfl, hb_x5⟩ := hq
  refine wp1 rfl rfl ?_
  refine wp2b rfl rfl (fun c6 => ?_) (fun c6 => ?_)
  · refine wp0 rfl rfl ?_
    exact wpL rfl rfl (sb_46_28 hJ4 (0) b0)
  · refine wp0 rfl rfl ?_
    refine wp2 rfl rfl ?_
    exact wpL rfl rfl (sb_46_28 hJ4 (1) b1)
set_option maxRecDepth 20000 in
theorem sb_46_0 {s : cs} {mc : am_H} {D : List pgT} (hJ : J s mc D) (l1 : Int32)  : tb_wp L xs 46 0 [(0, .ref 9), (1, .int l1)] [] (HH s mc D) (SZ mc) := by
  refine wp1 rfl rfl ?_
  refine wp0 rfl rfl ?_
  refine wp0 rfl rfl ?_
  refine wp2b rfl rfl (fun c7 => ?_) (fun c7 => ?_)
  · refine wp0 rfl rfl ?_
    exact wpL rfl rfl (sb_46_11 hJ (l1) (0) b0)
  · refine wp0 rfl rfl ?_
    refine wp2 rfl rfl ?_
    exact wpL rfl rfl (sb_46_11 hJ (l1) (1) b1)
theorem sf_46 {s : cs} {mc : am_H} {D : List pgT} (hJ : J s mc D) (l1 : Int32)  : tb_wp L xs 46 0 (lv_args 0 [.ref 9, .int l1]) [] (HH s mc D) (SZ mc) := sb_46_0 hJ l1
/- 51: FlagMachine$Flags.tellResult(JI)V -/
set_option maxRecDepth 20000 in
theorem sb_51_54 {s : cs} {mc : am_H} {D : List pgT} (hJ : J s mc D) (k1 : Int32) (hb_k1 : b01 k1) : tb_wp L xs 51 54 [] [.int k1, .ref 9] (HH s mc D) (SV mc) := by
  refine wp3 rfl (am_putf rfl (Nat.le_of_ble_eq_true rfl) (b01_nar hb_k1) (b01_fit hb_k1)) ?_
  have hJ1 := J_parity hJ hb_k1
  refine wpH (h' := HH (s_parity s k1) mc D) rfl ?_
  exact wp5 rfl rfl ⟨_, _, hJ1, rfl, rfl⟩
set_option maxRecDepth 20000 in
theorem sb_51_32 {s : cs} {mc : am_H} {D : List pgT} (hJ : J s mc D) (l1 : Int64) (k1 : Int32) (hb_k1 : b01 k1) : tb_wp L xs 51 32 [(0, .ref 9), (1, .long l1)] [.int k1, .ref 9] (HH s mc D) (SV mc) := by
  refine wp3 rfl (am_putf rfl (Nat.le_of_ble_eq_true rfl) (b01_nar hb_k1) (b01_fit hb_k1)) ?_
  have hJ2 := J_sign hJ hb_k1
  refine wpH (h' := HH (s_sign s k1) mc D) rfl ?_
  refine wp1 rfl rfl ?_
  refine wp1 rfl rfl ?_
  refine wp0 rfl rfl ?_
  refine wp0 rfl rfl ?_
  refine wp4 rfl rfl (sf_192 hJ2 ((l1 &&& 255))) (fun rv h1 hq => ?_)
  obtain ⟨s4, D5, hJ6, rfl, x7, rfl⟩ := hq
  refine wp0 rfl rfl ?_
  refine wp0 rfl rfl ?_
  refine wp2b rfl rfl (fun c8 => ?_) (fun c8 => ?_)
  · refine wp0 rfl rfl ?_
    refine wp2 rfl rfl ?_
    exact wpL rfl rfl (sb_51_54 hJ6 (1) b1)
  · refine wp0 rfl rfl ?_
    exact wpL rfl rfl (sb_51_54 hJ6 (0) b0)
set_option maxRecDepth 20000 in
theorem sb_51_12 {s : cs} {mc : am_H} {D : List pgT} (hJ : J s mc D) (l1 : Int64) (l3 : Int32) (k1 : Int32) (hb_k1 : b01 k1) : tb_wp L xs 51 12 [(0, .ref 9), (1, .long l1), (3, .int l3)] [.int k1, .ref 9] (HH s mc D) (SV mc) := by
  refine wp3 rfl (am_putf rfl (Nat.le_of_ble_eq_true rfl) (b01_nar hb_k1) (b01_fit hb_k1)) ?_
  have hJ9 := J_zero hJ hb_k1
  refine wpH (h' := HH (s_zero s k1) mc D) rfl ?_
  refine wp1 rfl rfl ?_
  refine wp1 rfl rfl ?_
  refine wp1 rfl rfl ?_
  refine wp4 rfl rfl (sf_19 hJ9 (l3)) (fun rv h1 hq => ?_)
  obtain ⟨s11, D12, hJ13, rfl, x14, rfl⟩ := hq
  refine wp0 rfl rfl ?_
  refine wp0 rfl rfl ?_
  refine wp0 rfl rfl ?_
  refine wp2b rfl rfl (fun c15 => ?_) (fun c15 => ?_)
  · refine wp0 rfl rfl ?_
    exact wpL rfl rfl (sb_51_32 hJ13 (l1) (0) b0)
  · refine wp0 rfl rfl ?_
    refine wp2 rfl rfl ?_
    exact wpL rfl rfl (sb_51_32 hJ13 (l1) (1) b1)
set_option maxRecDepth 20000 in
theorem sb_51_0 {s : cs} {mc : am_H} {D : List pgT} (hJ : J s mc D) (l1 : Int64) (l3 : Int32)  : tb_wp L xs 51 0 [(0, .ref 9), (1, .long l1), (3, .int l3)] [] (HH s mc D) (SV mc) := by
  refine wp1 rfl rfl ?_
  refine wp1 rfl rfl ?_
  refine wp0 rfl rfl ?_
  refine wp0 rfl rfl ?_
  refine wp2b rfl rfl (fun c16 => ?_) (fun c16 => ?_)
  · refine wp0 rfl rfl ?_
    refine wp2 rfl rfl ?_
    exact wpL rfl rfl (sb_51_12 hJ (l1) (l3) (1) b1)
  · refine wp0 rfl rfl ?_
    exact wpL rfl rfl (sb_51_12 hJ (l1) (l3) (0) b0)
theorem sf_51 {s : cs} {mc : am_H} {D : List pgT} (hJ : J s mc D) (l1 : Int64) (l3 : Int32)  : tb_wp L xs 51 0 (lv_args 0 [.ref 9, .long l1, .int l3]) [] (HH s mc D) (SV mc) := sb_51_0 hJ l1 l3
/- 52: FlagMachine$Flags.tellSum(JJJI)V -/
set_option maxRecDepth 20000 in
theorem sb_52_61 {s : cs} {mc : am_H} {D : List pgT} (hJ : J s mc D) (l5 : Int64) (l7 : Int32) (k1 : Int32) (hb_k1 : b01 k1) : tb_wp L xs 52 61 [(0, .ref 9), (5, .long l5), (7, .int l7)] [.int k1, .ref 9] (HH s mc D) (SV mc) := by
  refine wp3 rfl (am_putf rfl (Nat.le_of_ble_eq_true rfl) (b01_nar hb_k1) (b01_fit hb_k1)) ?_
  have hJ1 := J_over hJ hb_k1
  refine wpH (h' := HH (s_over s k1) mc D) rfl ?_
  refine wp1 rfl rfl ?_
  refine wp1 rfl rfl ?_
  refine wp1 rfl rfl ?_
  refine wp4 rfl rfl (sf_51 hJ1 (l5) (l7)) (fun rv h1 hq => ?_)
  obtain ⟨s3, D4, hJ5, rfl, rfl⟩ := hq
  exact wp5 rfl rfl ⟨_, _, hJ5, rfl, rfl⟩
set_option maxRecDepth 20000 in
theorem sb_52_35 {s : cs} {mc : am_H} {D : List pgT} (hJ : J s mc D) (l1 : Int64) (l3 : Int64) (l5 : Int64) (l7 : Int32) (l8 : Int64) (k1 : Int32) (hb_k1 : b01 k1) : tb_wp L xs 52 35 [(0, .ref 9), (1, .long l1), (3, .long l3), (5, .long l5), (7, .int l7), (8, .long l8)] [.int k1, .ref 9] (HH s mc D) (SV mc) := by
  refine wp3 rfl (am_putf rfl (Nat.le_of_ble_eq_true rfl) (b01_nar hb_k1) (b01_fit hb_k1)) ?_
  have hJ7 := J_carry hJ hb_k1
  refine wpH (h' := HH (s_carry s k1) mc D) rfl ?_
  refine wp1 rfl rfl ?_
  refine wp1 rfl rfl ?_
  refine wp1 rfl rfl ?_
  refine wp0 rfl rfl ?_
  refine wp1 rfl rfl ?_
  refine wp1 rfl rfl ?_
  refine wp0 rfl rfl ?_
  refine wp0 rfl rfl ?_
  refine wp1 rfl rfl ?_
  refine wp0 rfl rfl ?_
  refine wp0 rfl rfl ?_
  refine wp0 rfl rfl ?_
  refine wp2b rfl rfl (fun c8 => ?_) (fun c8 => ?_)
  · refine wp0 rfl rfl ?_
    exact wpL rfl rfl (sb_52_61 hJ7 (l5) (l7) (0) b0)
  · refine wp0 rfl rfl ?_
    refine wp2 rfl rfl ?_
    exact wpL rfl rfl (sb_52_61 hJ7 (l5) (l7) (1) b1)
set_option maxRecDepth 20000 in
theorem sb_52_0 {s : cs} {mc : am_H} {D : List pgT} (hJ : J s mc D) (l1 : Int64) (l3 : Int64) (l5 : Int64) (l7 : Int32)  : tb_wp L xs 52 0 [(0, .ref 9), (1, .long l1), (3, .long l3), (5, .long l5), (7, .int l7)] [] (HH s mc D) (SV mc) := by
  refine wp1 rfl rfl ?_
  refine wp4 rfl rfl (sf_19 hJ (l7)) (fun rv h1 hq => ?_)
  obtain ⟨s10, D11, hJ12, rfl, x13, rfl⟩ := hq
  refine wp1 rfl rfl ?_
  refine wpV (lv' := [(0, .ref 9), (1, .long l1), (3, .long l3), (5, .long l5), (7, .int l7), (8, .long x13)]) rfl ?_
  refine wp1 rfl rfl ?_
  refine wp1 rfl rfl ?_
  refine wp1 rfl rfl ?_
  refine wp0 rfl rfl ?_
  refine wp1 rfl rfl ?_
  refine wp1 rfl rfl ?_
  refine wp0 rfl rfl ?_
  refine wp1 rfl rfl ?_
  refine wp0 rfl rfl ?_
  refine wp0 rfl rfl ?_
  refine wp0 rfl rfl ?_
  refine wp0 rfl rfl ?_
  refine wp1 rfl rfl ?_
  refine wp0 rfl rfl ?_
  refine wp0 rfl rfl ?_
  refine wp0 rfl rfl ?_
  refine wp2b rfl rfl (fun c14 => ?_) (fun c14 => ?_)
  · refine wp0 rfl rfl ?_
    exact wpL rfl rfl (sb_52_35 hJ12 (l1) (l3) (l5) (l7) (x13) (0) b0)
  · refine wp0 rfl rfl ?_
    refine wp2 rfl rfl ?_
    exact wpL rfl rfl (sb_52_35 hJ12 (l1) (l3) (l5) (l7) (x13) (1) b1)
theorem sf_52 {s : cs} {mc : am_H} {D : List pgT} (hJ : J s mc D) (l1 : Int64) (l3 : Int64) (l5 : Int64) (l7 : Int32)  : tb_wp L xs 52 0 (lv_args 0 [.ref 9, .long l1, .long l3, .long l5, .int l7]) [] (HH s mc D) (SV mc) := sb_52_0 hJ l1 l3 l5 l7
/- 57: FlagMachine$Instruction.isSound()Z -/
set_option maxRecDepth 20000 in
theorem sb_57_79 {s : cs} {mc : am_H} {D : List pgT} (hJ : J s mc D) (k0 : Int32) (hb_k0 : b01 k0) : tb_wp L xs 57 79 [] [.int k0] (HH s mc D) (SZ mc) := by
  exact wp5z rfl rfl hb_k0 ⟨_, _, hJ, rfl, _, rfl, hb_k0⟩
set_option maxRecDepth 20000 in
theorem sb_57_78 {s : cs} {mc : am_H} {D : List pgT} (hJ : J s mc D)   : tb_wp L xs 57 78 [] [] (HH s mc D) (SZ mc) := by
  refine wp0 rfl rfl ?_
  exact wpL rfl rfl (sb_57_79 hJ (0) b0)
set_option maxRecDepth 20000 in
theorem sb_57_74 {s : cs} {mc : am_H} {D : List pgT} (hJ : J s mc D)   : tb_wp L xs 57 74 [] [] (HH s mc D) (SZ mc) := by
  refine wp0 rfl rfl ?_
  refine wp2 rfl rfl ?_
  exact wpL rfl rfl (sb_57_79 hJ (1) b1)
set_option maxRecDepth 20000 in
theorem sb_57_59 {s : cs} {mc : am_H} {D : List pgT} (hJ : J s mc D)   : tb_wp L xs 57 59 [(0, .ref 2)] [] (HH s mc D) (SZ mc) := by
  refine wp1 rfl rfl ?_
  refine wp0 rfl rfl ?_
  refine wp4 rfl rfl (sf_55 hJ (3)) (fun rv h1 hq => ?_)
  obtain ⟨s2, D3, hJ4, rfl, x5, rfl, hb_x5⟩ := hq
  refine wp2b rfl rfl (fun c6 => ?_) (fun c6 => ?_)
  · exact wpL rfl rfl (sb_57_74 hJ4 )
  · refine wp1 rfl rfl ?_
    refine wp4 rfl rfl (sf_59 hJ4 ) (fun rv h1 hq => ?_)
    obtain ⟨s8, D9, hJ10, rfl, x11, rfl, hb_x11⟩ := hq
    refine wp2b rfl rfl (fun c12 => ?_) (fun c12 => ?_)
    · exact wpL rfl rfl (sb_57_78 hJ10 )
    · exact wpL rfl rfl (sb_57_74 hJ10 )
set_option maxRecDepth 20000 in
theorem sb_57_0 {s : cs} {mc : am_H} {D : List pgT} (hJ : J s mc D)   : tb_wp L xs 57 0 [(0, .ref 2)] [] (HH s mc D) (SZ mc) := by
  refine wp1 rfl rfl ?_
  refine wp3 rfl (am_getf rfl rfl) ?_
  refine wp2b rfl rfl (fun c13 => ?_) (fun c13 => ?_)
  · exact wpL rfl rfl (sb_57_78 hJ )
  · refine wp1 rfl rfl ?_
    refine wp3 rfl (am_getf rfl rfl) ?_
    refine wp0 rfl rfl ?_
    refine wp2b rfl rfl (fun c14 => ?_) (fun c14 => ?_)
    · exact wpL rfl rfl (sb_57_78 hJ )
    · refine wp1 rfl rfl ?_
      refine wp4 rfl rfl (sf_63 hJ ) (fun rv h1 hq => ?_)
      obtain ⟨s16, D17, hJ18, rfl, x19, rfl, hb_x19⟩ := hq
      refine wp2b rfl rfl (fun c20 => ?_) (fun c20 => ?_)
      · exact wpL rfl rfl (sb_57_78 hJ18 )
      · refine wp1 rfl rfl ?_
        refine wp4 rfl rfl (sf_54 hJ18 ) (fun rv h1 hq => ?_)
        obtain ⟨s22, D23, hJ24, rfl, x25, rfl, hb_x25⟩ := hq
        refine wp2b rfl rfl (fun c26 => ?_) (fun c26 => ?_)
        · exact wpL rfl rfl (sb_57_78 hJ24 )
        · refine wp1 rfl rfl ?_
          refine wp4 rfl rfl (sf_64 hJ24 ) (fun rv h1 hq => ?_)
          obtain ⟨s28, D29, hJ30, rfl, x31, rfl, hb_x31⟩ := hq
          refine wp2b rfl rfl (fun c32 => ?_) (fun c32 => ?_)
          · exact wpL rfl rfl (sb_57_78 hJ30 )
          · refine wp1 rfl rfl ?_
            refine wp4 rfl rfl (sf_61 hJ30 ) (fun rv h1 hq => ?_)
            obtain ⟨s34, D35, hJ36, rfl, x37, rfl, hb_x37⟩ := hq
            refine wp2b rfl rfl (fun c38 => ?_) (fun c38 => ?_)
            · exact wpL rfl rfl (sb_57_78 hJ36 )
            · refine wp1 rfl rfl ?_
              refine wp0 rfl rfl ?_
              refine wp4 rfl rfl (sf_55 hJ36 (2)) (fun rv h1 hq => ?_)
              obtain ⟨s40, D41, hJ42, rfl, x43, rfl, hb_x43⟩ := hq
              refine wp2b rfl rfl (fun c44 => ?_) (fun c44 => ?_)
              · exact wpL rfl rfl (sb_57_59 hJ42 )
              · refine wp1 rfl rfl ?_
                refine wp4 rfl rfl (sf_58 hJ42 ) (fun rv h1 hq => ?_)
                obtain ⟨s46, D47, hJ48, rfl, x49, rfl, hb_x49⟩ := hq
                refine wp2b rfl rfl (fun c50 => ?_) (fun c50 => ?_)
                · exact wpL rfl rfl (sb_57_78 hJ48 )
                · exact wpL rfl rfl (sb_57_59 hJ48 )
theorem sf_57 {s : cs} {mc : am_H} {D : List pgT} (hJ : J s mc D)   : tb_wp L xs 57 0 (lv_args 0 [.ref 2]) [] (HH s mc D) (SZ mc) := sb_57_0 hJ 
/- 71: FlagMachine$Memory.placeFor(JII)I -/
set_option maxRecDepth 20000 in
theorem sb_71_83 {s : cs} {mc : am_H} {D : List pgT} (hJ : J s mc D) (k0 : Int32)  : tb_wp L xs 71 83 [] [.int k0] (HH s mc D) (SI mc) := by
  exact wp5i rfl rfl ⟨_, _, hJ, rfl, _, rfl⟩
set_option maxRecDepth 20000 in
theorem sb_71_23 (n : Nat) : ∀ {s : cs} {mc : am_H} {D : List pgT} (hJ : J s mc D) (l3 : Int32) (l5 : Int32) (l6 : Int32) (l7 : Int32) (hn_l7 : 0 ≤ Int32.toInt l7) (hm : ((5 : Int32).toInt - (l7 : Int32).toInt).toNat < n), tb_wp L xs 71 23 [(0, .ref 10), (3, .int l3), (5, .int l5), (6, .int l6), (7, .int l7)] [] (HH s mc D) (SI mc) := by
  induction n with
  | zero => intro s mc D hJ l3 l5 l6 l7 hn_l7 hm; exact absurd hm (Nat.not_lt_zero _)
  | succ n ih =>
    intro s mc D hJ l3 l5 l6 l7 hn_l7 hm
    refine wp1 rfl rfl ?_
    refine wp0 rfl rfl ?_
    refine wp2b rfl rfl (fun c1 => ?_) (fun c1 => ?_)
    · refine wp1 rfl rfl ?_
      refine wp1 rfl rfl ?_
      refine wp0 rfl rfl ?_
      refine wp1 rfl rfl ?_
      refine wp2b rfl rfl (fun c2 => ?_) (fun c2 => ?_)
      · refine wp1 rfl rfl ?_
        exact wpL rfl rfl (sb_71_83 hJ (l5))
      · refine wp0 rfl rfl ?_
        refine wp2 rfl rfl ?_
        exact wpL rfl rfl (sb_71_83 hJ ((-1)))
    · refine wp1 rfl rfl ?_
      refine wp1 rfl rfl ?_
      refine wp3 rfl (am_getf rfl rfl) ?_
      refine wp1 rfl rfl ?_
      refine wp3 rfl (am_iald rfl (by simp only [Int32.lt_iff_toInt_lt, Int32.le_iff_toInt_le, ← Int32.toInt_inj] at c1; have hnn := hn_l7; have e0 : (5 : Int32).toInt = 5 := rfl; have g0 : (Int32.ofNat 5).toInt = 5 := rfl; exact am_in_of (by omega) (by omega))) ?_
      refine wp2b rfl rfl (fun c3 => ?_) (fun c3 => ?_)
      · refine wp1 rfl rfl ?_
        refine wpV (lv' := [(0, .ref 10), (3, .int l3), (5, .int l5), (6, .int l6), (7, .int (l7 + 1))]) rfl ?_
        refine wp2 rfl rfl ?_
        exact wpL rfl rfl (ih hJ (l3) (l5) (l6) ((l7 + 1)) (i32_upp c1 hn_l7) (i32_up c1 hm))
      · refine wp1 rfl rfl ?_
        refine wp1 rfl rfl ?_
        refine wp3 rfl (am_getf rfl rfl) ?_
        refine wp1 rfl rfl ?_
        refine wp3 rfl (am_iald rfl (by simp only [Int32.lt_iff_toInt_lt, Int32.le_iff_toInt_le, ← Int32.toInt_inj] at c1; have hnn := hn_l7; have e0 : (5 : Int32).toInt = 5 := rfl; have g0 : (Int32.ofNat 5).toInt = 5 := rfl; exact am_in_of (by omega) (by omega))) ?_
        refine wp2b rfl rfl (fun c4 => ?_) (fun c4 => ?_)
        · refine wp1 rfl rfl ?_
          refine wpV (lv' := [(0, .ref 10), (3, .int l3), (5, .int l5), (6, .int l6), (7, .int (l7 + 1))]) rfl ?_
          refine wp2 rfl rfl ?_
          exact wpL rfl rfl (ih hJ (l3) (l5) (l6) ((l7 + 1)) (i32_upp c1 hn_l7) (i32_up c1 hm))
        · refine wp1 rfl rfl ?_
          refine wp3 rfl (am_getf rfl rfl) ?_
          refine wp1 rfl rfl ?_
          refine wp3 rfl (am_iald rfl (by simp only [Int32.lt_iff_toInt_lt, Int32.le_iff_toInt_le, ← Int32.toInt_inj] at c1; have hnn := hn_l7; have e0 : (5 : Int32).toInt = 5 := rfl; have g0 : (Int32.ofNat 5).toInt = 5 := rfl; exact am_in_of (by omega) (by omega))) ?_
          refine wpTi (fun z5 ez5 => ?_)
          refine wp1 rfl rfl ?_
          refine wpV (lv' := [(0, .ref 10), (3, .int l3), (5, .int l5), (6, .int z5), (7, .int l7)]) rfl ?_
          refine wp1 rfl rfl ?_
          refine wpV (lv' := [(0, .ref 10), (3, .int l3), (5, .int l5), (6, .int z5), (7, .int (l7 + 1))]) rfl ?_
          refine wp2 rfl rfl ?_
          exact wpL rfl rfl (ih hJ (l3) (l5) (z5) ((l7 + 1)) (i32_upp c1 hn_l7) (i32_up c1 hm))
set_option maxRecDepth 20000 in
theorem sb_71_21 {s : cs} {mc : am_H} {D : List pgT} (hJ : J s mc D) (l3 : Int32) (l5 : Int32) (l6 : Int32) (k0 : Int32) (hn_k0 : 0 ≤ Int32.toInt k0) : tb_wp L xs 71 21 [(0, .ref 10), (3, .int l3), (5, .int l5), (6, .int l6)] [.int k0] (HH s mc D) (SI mc) := by
  refine wp1 rfl rfl ?_
  refine wpV (lv' := [(0, .ref 10), (3, .int l3), (5, .int l5), (6, .int l6), (7, .int k0)]) rfl ?_
  exact wpL rfl rfl (sb_71_23 _ hJ (l3) (l5) (l6) (k0) hn_k0 (Nat.lt_succ_self _))
set_option maxRecDepth 20000 in
theorem sb_71_0 {s : cs} {mc : am_H} {D : List pgT} (hJ : J s mc D) (l1 : Int64) (l3 : Int32) (l4 : Int32)  : tb_wp L xs 71 0 [(0, .ref 10), (1, .long l1), (3, .int l3), (4, .int l4)] [] (HH s mc D) (SI mc) := by
  refine wp1 rfl rfl ?_
  refine wp4 rfl rfl (sf_72 hJ (l1)) (fun rv h1 hq => ?_)
  obtain ⟨s7, D8, hJ9, rfl, x10, rfl⟩ := hq
  refine wp1 rfl rfl ?_
  refine wpV (lv' := [(0, .ref 10), (1, .long l1), (3, .int l3), (4, .int l4), (5, .int x10)]) rfl ?_
  refine wp1 rfl rfl ?_
  refine wp1 rfl rfl ?_
  refine wpV (lv' := [(0, .ref 10), (1, .long l1), (3, .int l3), (4, .int l4), (5, .int x10), (6, .int x10)]) rfl ?_
  refine wp1 rfl rfl ?_
  refine wp0 rfl rfl ?_
  refine wp2b rfl rfl (fun c11 => ?_) (fun c11 => ?_)
  · refine wp0 rfl rfl ?_
    refine wp2 rfl rfl ?_
    exact wpL rfl rfl (sb_71_21 hJ9 (l3) (x10) (x10) (2) (by decide))
  · refine wp0 rfl rfl ?_
    exact wpL rfl rfl (sb_71_21 hJ9 (l3) (x10) (x10) (0) (by decide))
theorem sf_71 {s : cs} {mc : am_H} {D : List pgT} (hJ : J s mc D) (l1 : Int64) (l3 : Int32) (l4 : Int32)  : tb_wp L xs 71 0 (lv_args 0 [.ref 10, .long l1, .int l3, .int l4]) [] (HH s mc D) (SI mc) := sb_71_0 hJ l1 l3 l4
/- 90: FlagMachine$Products.divideSigned(JI)Z -/
set_option maxRecDepth 20000 in
theorem sb_90_217 {s : cs} {mc : am_H} {D : List pgT} (hJ : J s mc D) (k1 : Int64)  : tb_wp L xs 90 217 [] [.long k1, .ref 16] (HH s mc D) (SZ mc) := by
  refine wp3 rfl (am_putf rfl (Nat.le_of_ble_eq_true rfl) rfl rfl) ?_
  have hJ1 : J (s_rest s k1) mc D := hJ
  refine wpH (h' := HH (s_rest s k1) mc D) rfl ?_
  refine wp0 rfl rfl ?_
  exact wp5z rfl rfl b1 ⟨_, _, hJ1, rfl, _, rfl, b1⟩
set_option maxRecDepth 20000 in
theorem sb_90_193 {s : cs} {mc : am_H} {D : List pgT} (hJ : J s mc D) (l4 : Int64) (l6 : Int32) (k1 : Int64) (hb_l6 : b01 l6) : tb_wp L xs 90 193 [(0, .ref 16), (4, .long l4), (6, .int l6)] [.long k1, .ref 16] (HH s mc D) (SZ mc) := by
  refine wp3 rfl (am_putf rfl (Nat.le_of_ble_eq_true rfl) rfl rfl) ?_
  have hJ2 : J (s_quot s k1) mc D := hJ
  refine wpH (h' := HH (s_quot s k1) mc D) rfl ?_
  refine wp1 rfl rfl ?_
  refine wp1 rfl rfl ?_
  refine wp2b rfl rfl (fun c3 => ?_) (fun c3 => ?_)
  · refine wp1 rfl rfl ?_
    refine wp3 rfl (am_getf rfl rfl) ?_
    exact wpL rfl rfl (sb_90_217 hJ2 ((g_rest (s_quot s k1))))
  · refine wp1 rfl rfl ?_
    refine wp3 rfl (am_getf rfl rfl) ?_
    refine wp0 rfl rfl ?_
    refine wp1 rfl rfl ?_
    refine wp0 rfl rfl ?_
    refine wp2 rfl rfl ?_
    exact wpL rfl rfl (sb_90_217 hJ2 (((-(g_rest (s_quot s k1))) &&& l4)))
set_option maxRecDepth 20000 in
theorem sb_90_156 {s : cs} {mc : am_H} {D : List pgT} (hJ : J s mc D) (l4 : Int64) (l6 : Int32) (l7 : Int32) (k0 : Int64) (hb_l6 : b01 l6) (hb_l7 : b01 l7) : tb_wp L xs 90 156 [(0, .ref 16), (4, .long l4), (6, .int l6), (7, .int l7)] [.long k0] (HH s mc D) (SZ mc) := by
  refine wp1 rfl rfl ?_
  refine wpV (lv' := [(0, .ref 16), (4, .long l4), (6, .int l6), (7, .int l7), (10, .long k0)]) rfl ?_
  refine wp1 rfl rfl ?_
  refine wp1 rfl rfl ?_
  refine wp3 rfl (am_getf rfl rfl) ?_
  refine wp4 rfl rfl (sf_3 hJ (k0) ((g_quot s))) (fun rv h1 hq => ?_)
  obtain ⟨s5, D6, hJ7, rfl, x8, rfl, hb_x8⟩ := hq
  refine wp2b rfl rfl (fun c9 => ?_) (fun c9 => ?_)
  · refine wp1 rfl rfl ?_
    refine wp1 rfl rfl ?_
    refine wp2b rfl rfl (fun c10 => ?_) (fun c10 => ?_)
    · refine wp1 rfl rfl ?_
      refine wp3 rfl (am_getf rfl rfl) ?_
      exact wpL rfl rfl (sb_90_193 hJ7 (l4) (l6) ((g_quot s5)) hb_l6)
    · refine wp1 rfl rfl ?_
      refine wp3 rfl (am_getf rfl rfl) ?_
      refine wp0 rfl rfl ?_
      refine wp1 rfl rfl ?_
      refine wp0 rfl rfl ?_
      refine wp2 rfl rfl ?_
      exact wpL rfl rfl (sb_90_193 hJ7 (l4) (l6) (((-(g_quot s5)) &&& l4)) hb_l6)
  · refine wp0 rfl rfl ?_
    exact wp5z rfl rfl b0 ⟨_, _, hJ7, rfl, _, rfl, b0⟩
set_option maxRecDepth 20000 in
theorem sb_90_124 {s : cs} {mc : am_H} {D : List pgT} (hJ : J s mc D) (l3 : Int32) (l4 : Int64) (l6 : Int32) (l7 : Int32) (k0 : Int64) (hb_l6 : b01 l6) (hb_l7 : b01 l7) : tb_wp L xs 90 124 [(0, .ref 16), (3, .int l3), (4, .long l4), (6, .int l6), (7, .int l7)] [.long k0] (HH s mc D) (SZ mc) := by
  refine wp1 rfl rfl ?_
  refine wpV (lv' := [(0, .ref 16), (3, .int l3), (4, .long l4), (6, .int l6), (7, .int l7), (8, .long k0)]) rfl ?_
  refine wp1 rfl rfl ?_
  refine wp1 rfl rfl ?_
  refine wp1 rfl rfl ?_
  refine wp4 rfl rfl (sf_91 hJ (k0) (l3)) (fun rv h1 hq => ?_)
  obtain ⟨s12, D13, hJ14, rfl, x15, rfl, hb_x15⟩ := hq
  refine wp2b rfl rfl (fun c16 => ?_) (fun c16 => ?_)
  · refine wp0 rfl rfl ?_
    exact wp5z rfl rfl b0 ⟨_, _, hJ14, rfl, _, rfl, b0⟩
  · refine wp1 rfl rfl ?_
    refine wp2b rfl rfl (fun c17 => ?_) (fun c17 => ?_)
    · refine wp1 rfl rfl ?_
      refine wp4 rfl rfl (sf_19 hJ14 (l3)) (fun rv h1 hq => ?_)
      obtain ⟨s19, D20, hJ21, rfl, x22, rfl⟩ := hq
      refine wp0 rfl rfl ?_
      refine wp0 rfl rfl ?_
      exact wpL rfl rfl (sb_90_156 hJ21 (l4) (l6) (l7) ((x22 - 1)) hb_l6 hb_l7)
    · refine wp1 rfl rfl ?_
      refine wp4 rfl rfl (sf_19 hJ14 (l3)) (fun rv h1 hq => ?_)
      obtain ⟨s24, D25, hJ26, rfl, x27, rfl⟩ := hq
      refine wp2 rfl rfl ?_
      exact wpL rfl rfl (sb_90_156 hJ26 (l4) (l6) (l7) (x27) hb_l6 hb_l7)
set_option maxRecDepth 20000 in
theorem sb_90_104 {s : cs} {mc : am_H} {D : List pgT} (hJ : J s mc D) (l1 : Int64) (l3 : Int32) (l4 : Int64) (l6 : Int32) (l7 : Int32) (hb_l6 : b01 l6) (hb_l7 : b01 l7) : tb_wp L xs 90 104 [(0, .ref 16), (1, .long l1), (3, .int l3), (4, .long l4), (6, .int l6), (7, .int l7)] [] (HH s mc D) (SZ mc) := by
  refine wp1 rfl rfl ?_
  refine wp1 rfl rfl ?_
  refine wp4 rfl rfl (sf_19 hJ (l3)) (fun rv h1 hq => ?_)
  obtain ⟨s29, D30, hJ31, rfl, x32, rfl⟩ := hq
  refine wp0 rfl rfl ?_
  refine wp0 rfl rfl ?_
  refine wp0 rfl rfl ?_
  refine wp2b rfl rfl (fun c33 => ?_) (fun c33 => ?_)
  · refine wp1 rfl rfl ?_
    exact wpL rfl rfl (sb_90_124 hJ31 (l3) (l4) (l6) (l7) (l1) hb_l6 hb_l7)
  · refine wp1 rfl rfl ?_
    refine wp0 rfl rfl ?_
    refine wp1 rfl rfl ?_
    refine wp0 rfl rfl ?_
    refine wp2 rfl rfl ?_
    exact wpL rfl rfl (sb_90_124 hJ31 (l3) (l4) (l6) (l7) (((-l1) &&& l4)) hb_l6 hb_l7)
set_option maxRecDepth 20000 in
theorem sb_90_98 {s : cs} {mc : am_H} {D : List pgT} (hJ : J s mc D) (l1 : Int64) (l3 : Int32) (l4 : Int64) (l6 : Int32) (l7 : Int32) (k1 : Int64) (hb_l6 : b01 l6) (hb_l7 : b01 l7) : tb_wp L xs 90 98 [(0, .ref 16), (1, .long l1), (3, .int l3), (4, .long l4), (6, .int l6), (7, .int l7)] [.long k1, .ref 16] (HH s mc D) (SZ mc) := by
  refine wp1 rfl rfl ?_
  refine wp0 rfl rfl ?_
  refine wp3 rfl (am_putf rfl (Nat.le_of_ble_eq_true rfl) rfl rfl) ?_
  have hJ34 : J (s_upper s (k1 &&& l4)) mc D := hJ
  refine wpH (h' := HH (s_upper s (k1 &&& l4)) mc D) rfl ?_
  exact wpL rfl rfl (sb_90_104 hJ34 (l1) (l3) (l4) (l6) (l7) hb_l6 hb_l7)
set_option maxRecDepth 20000 in
theorem sb_90_53 {s : cs} {mc : am_H} {D : List pgT} (hJ : J s mc D) (l1 : Int64) (l3 : Int32) (l4 : Int64) (l6 : Int32) (k0 : Int32) (hb_l6 : b01 l6) (hb_k0 : b01 k0) : tb_wp L xs 90 53 [(0, .ref 16), (1, .long l1), (3, .int l3), (4, .long l4), (6, .int l6)] [.int k0] (HH s mc D) (SZ mc) := by
  refine wp1 rfl rfl ?_
  refine wpV (lv' := [(0, .ref 16), (1, .long l1), (3, .int l3), (4, .long l4), (6, .int l6), (7, .int k0)]) rfl ?_
  refine wp1 rfl rfl ?_
  refine wp2b rfl rfl (fun c35 => ?_) (fun c35 => ?_)
  · exact wpL rfl rfl (sb_90_104 hJ (l1) (l3) (l4) (l6) (k0) hb_l6 hb_k0)
  · refine wp1 rfl rfl ?_
    refine wp1 rfl rfl ?_
    refine wp3 rfl (am_getf rfl rfl) ?_
    refine wp0 rfl rfl ?_
    refine wp1 rfl rfl ?_
    refine wp0 rfl rfl ?_
    refine wp3 rfl (am_putf rfl (Nat.le_of_ble_eq_true rfl) rfl rfl) ?_
    have hJ36 : J (s_lower s ((-(g_lower s)) &&& l4)) mc D := hJ
    refine wpH (h' := HH (s_lower s ((-(g_lower s)) &&& l4)) mc D) rfl ?_
    refine wp1 rfl rfl ?_
    refine wp1 rfl rfl ?_
    refine wp3 rfl (am_getf rfl rfl) ?_
    refine wp0 rfl rfl ?_
    refine wp0 rfl rfl ?_
    refine wp2b rfl rfl (fun c37 => ?_) (fun c37 => ?_)
    · refine wp1 rfl rfl ?_
      refine wp3 rfl (am_getf rfl rfl) ?_
      refine wp0 rfl rfl ?_
      refine wp2 rfl rfl ?_
      exact wpL rfl rfl (sb_90_98 hJ36 (l1) (l3) (l4) (l6) (k0) ((-(g_upper (s_lower s ((-(g_lower s)) &&& l4))))) hb_l6 hb_k0)
    · refine wp1 rfl rfl ?_
      refine wp3 rfl (am_getf rfl rfl) ?_
      refine wp0 rfl rfl ?_
      refine wp0 rfl rfl ?_
      exact wpL rfl rfl (sb_90_98 hJ36 (l1) (l3) (l4) (l6) (k0) (((g_upper (s_lower s ((-(g_lower s)) &&& l4))) ^^^ (-1))) hb_l6 hb_k0)
set_option maxRecDepth 20000 in
theorem sb_90_45 {s : cs} {mc : am_H} {D : List pgT} (hJ : J s mc D) (l1 : Int64) (l3 : Int32) (l4 : Int64) (l6 : Int32) (k0 : Int32) (k1 : Int32) (hb_l6 : b01 l6) (hb_k0 : b01 k0) (hb_k1 : b01 k1) : tb_wp L xs 90 45 [(0, .ref 16), (1, .long l1), (3, .int l3), (4, .long l4), (6, .int l6)] [.int k1, .int k0] (HH s mc D) (SZ mc) := by
  refine wp2b rfl rfl (fun c38 => ?_) (fun c38 => ?_)
  · refine wp0 rfl rfl ?_
    exact wpL rfl rfl (sb_90_53 hJ (l1) (l3) (l4) (l6) (0) hb_l6 b0)
  · refine wp0 rfl rfl ?_
    refine wp2 rfl rfl ?_
    exact wpL rfl rfl (sb_90_53 hJ (l1) (l3) (l4) (l6) (1) hb_l6 b1)
set_option maxRecDepth 20000 in
theorem sb_90_25 {s : cs} {mc : am_H} {D : List pgT} (hJ : J s mc D) (l1 : Int64) (l3 : Int32) (l4 : Int64) (k0 : Int32) (hb_k0 : b01 k0) : tb_wp L xs 90 25 [(0, .ref 16), (1, .long l1), (3, .int l3), (4, .long l4)] [.int k0] (HH s mc D) (SZ mc) := by
  refine wp1 rfl rfl ?_
  refine wpV (lv' := [(0, .ref 16), (1, .long l1), (3, .int l3), (4, .long l4), (6, .int k0)]) rfl ?_
  refine wp1 rfl rfl ?_
  refine wp1 rfl rfl ?_
  refine wp1 rfl rfl ?_
  refine wp4 rfl rfl (sf_19 hJ (l3)) (fun rv h1 hq => ?_)
  obtain ⟨s40, D41, hJ42, rfl, x43, rfl⟩ := hq
  refine wp0 rfl rfl ?_
  refine wp0 rfl rfl ?_
  refine wp0 rfl rfl ?_
  refine wp2b rfl rfl (fun c44 => ?_) (fun c44 => ?_)
  · refine wp0 rfl rfl ?_
    exact wpL rfl rfl (sb_90_45 hJ42 (l1) (l3) (l4) (k0) (k0) (0) hb_k0 hb_k0 b0)
  · refine wp0 rfl rfl ?_
    refine wp2 rfl rfl ?_
    exact wpL rfl rfl (sb_90_45 hJ42 (l1) (l3) (l4) (k0) (k0) (1) hb_k0 hb_k0 b1)
set_option maxRecDepth 20000 in
theorem sb_90_0 {s : cs} {mc : am_H} {D : List pgT} (hJ : J s mc D) (l1 : Int64) (l3 : Int32)  : tb_wp L xs 90 0 [(0, .ref 16), (1, .long l1), (3, .int l3)] [] (HH s mc D) (SZ mc) := by
  refine wp1 rfl rfl ?_
  refine wp4 rfl rfl (sf_7 hJ (l3)) (fun rv h1 hq => ?_)
  obtain ⟨s46, D47, hJ48, rfl, x49, rfl⟩ := hq
  refine wp1 rfl rfl ?_
  refine wpV (lv' := [(0, .ref 16), (1, .long l1), (3, .int l3), (4, .long x49)]) rfl ?_
  refine wp1 rfl rfl ?_
  refine wp3 rfl (am_getf rfl rfl) ?_
  refine wp1 rfl rfl ?_
  refine wp4 rfl rfl (sf_19 hJ48 (l3)) (fun rv h1 hq => ?_)
  obtain ⟨s51, D52, hJ53, rfl, x54, rfl⟩ := hq
  refine wp0 rfl rfl ?_
  refine wp0 rfl rfl ?_
  refine wp0 rfl rfl ?_
  refine wp2b rfl rfl (fun c55 => ?_) (fun c55 => ?_)
  · refine wp0 rfl rfl ?_
    exact wpL rfl rfl (sb_90_25 hJ53 (l1) (l3) (x49) (0) b0)
  · refine wp0 rfl rfl ?_
    refine wp2 rfl rfl ?_
    exact wpL rfl rfl (sb_90_25 hJ53 (l1) (l3) (x49) (1) b1)
theorem sf_90 {s : cs} {mc : am_H} {D : List pgT} (hJ : J s mc D) (l1 : Int64) (l3 : Int32)  : tb_wp L xs 90 0 (lv_args 0 [.ref 16, .long l1, .int l3]) [] (HH s mc D) (SZ mc) := sb_90_0 hJ l1 l3
/- 48: FlagMachine$Flags.tellBits(JI)V -/
set_option maxRecDepth 20000 in
theorem sb_48_0 {s : cs} {mc : am_H} {D : List pgT} (hJ : J s mc D) (l1 : Int64) (l3 : Int32)  : tb_wp L xs 48 0 [(0, .ref 9), (1, .long l1), (3, .int l3)] [] (HH s mc D) (SV mc) := by
  refine wp1 rfl rfl ?_
  refine wp0 rfl rfl ?_
  refine wp3 rfl (am_putf rfl (Nat.le_of_ble_eq_true rfl) (b01_nar b0) (b01_fit b0)) ?_
  have hJ1 := J_carry hJ b0
  refine wpH (h' := HH (s_carry s 0) mc D) rfl ?_
  refine wp1 rfl rfl ?_
  refine wp0 rfl rfl ?_
  refine wp3 rfl (am_putf rfl (Nat.le_of_ble_eq_true rfl) (b01_nar b0) (b01_fit b0)) ?_
  have hJ2 := J_over hJ1 b0
  refine wpH (h' := HH (s_over (s_carry s 0) 0) mc D) rfl ?_
  refine wp1 rfl rfl ?_
  refine wp1 rfl rfl ?_
  refine wp1 rfl rfl ?_
  refine wp4 rfl rfl (sf_51 hJ2 (l1) (l3)) (fun rv h1 hq => ?_)
  obtain ⟨s4, D5, hJ6, rfl, rfl⟩ := hq
  exact wp5 rfl rfl ⟨_, _, hJ6, rfl, rfl⟩
theorem sf_48 {s : cs} {mc : am_H} {D : List pgT} (hJ : J s mc D) (l1 : Int64) (l3 : Int32)  : tb_wp L xs 48 0 (lv_args 0 [.ref 9, .long l1, .int l3]) [] (HH s mc D) (SV mc) := sb_48_0 hJ l1 l3
/- 49: FlagMachine$Flags.tellDifference(JJJI)V -/
set_option maxRecDepth 20000 in
theorem sb_49_64 {s : cs} {mc : am_H} {D : List pgT} (hJ : J s mc D) (l5 : Int64) (l7 : Int32) (k1 : Int32) (hb_k1 : b01 k1) : tb_wp L xs 49 64 [(0, .ref 9), (5, .long l5), (7, .int l7)] [.int k1, .ref 9] (HH s mc D) (SV mc) := by
  refine wp3 rfl (am_putf rfl (Nat.le_of_ble_eq_true rfl) (b01_nar hb_k1) (b01_fit hb_k1)) ?_
  have hJ1 := J_over hJ hb_k1
  refine wpH (h' := HH (s_over s k1) mc D) rfl ?_
  refine wp1 rfl rfl ?_
  refine wp1 rfl rfl ?_
  refine wp1 rfl rfl ?_
  refine wp4 rfl rfl (sf_51 hJ1 (l5) (l7)) (fun rv h1 hq => ?_)
  obtain ⟨s3, D4, hJ5, rfl, rfl⟩ := hq
  exact wp5 rfl rfl ⟨_, _, hJ5, rfl, rfl⟩
set_option maxRecDepth 20000 in
theorem sb_49_39 {s : cs} {mc : am_H} {D : List pgT} (hJ : J s mc D) (l1 : Int64) (l3 : Int64) (l5 : Int64) (l7 : Int32) (l8 : Int64) (k1 : Int32) (hb_k1 : b01 k1) : tb_wp L xs 49 39 [(0, .ref 9), (1, .long l1), (3, .long l3), (5, .long l5), (7, .int l7), (8, .long l8)] [.int k1, .ref 9] (HH s mc D) (SV mc) := by
  refine wp3 rfl (am_putf rfl (Nat.le_of_ble_eq_true rfl) (b01_nar hb_k1) (b01_fit hb_k1)) ?_
  have hJ7 := J_carry hJ hb_k1
  refine wpH (h' := HH (s_carry s k1) mc D) rfl ?_
  refine wp1 rfl rfl ?_
  refine wp1 rfl rfl ?_
  refine wp1 rfl rfl ?_
  refine wp0 rfl rfl ?_
  refine wp1 rfl rfl ?_
  refine wp1 rfl rfl ?_
  refine wp0 rfl rfl ?_
  refine wp0 rfl rfl ?_
  refine wp1 rfl rfl ?_
  refine wp0 rfl rfl ?_
  refine wp0 rfl rfl ?_
  refine wp0 rfl rfl ?_
  refine wp2b rfl rfl (fun c8 => ?_) (fun c8 => ?_)
  · refine wp0 rfl rfl ?_
    exact wpL rfl rfl (sb_49_64 hJ7 (l5) (l7) (0) b0)
  · refine wp0 rfl rfl ?_
    refine wp2 rfl rfl ?_
    exact wpL rfl rfl (sb_49_64 hJ7 (l5) (l7) (1) b1)
set_option maxRecDepth 20000 in
theorem sb_49_0 {s : cs} {mc : am_H} {D : List pgT} (hJ : J s mc D) (l1 : Int64) (l3 : Int64) (l5 : Int64) (l7 : Int32)  : tb_wp L xs 49 0 [(0, .ref 9), (1, .long l1), (3, .long l3), (5, .long l5), (7, .int l7)] [] (HH s mc D) (SV mc) := by
  refine wp1 rfl rfl ?_
  refine wp4 rfl rfl (sf_19 hJ (l7)) (fun rv h1 hq => ?_)
  obtain ⟨s10, D11, hJ12, rfl, x13, rfl⟩ := hq
  refine wp1 rfl rfl ?_
  refine wpV (lv' := [(0, .ref 9), (1, .long l1), (3, .long l3), (5, .long l5), (7, .int l7), (8, .long x13)]) rfl ?_
  refine wp1 rfl rfl ?_
  refine wp1 rfl rfl ?_
  refine wp0 rfl rfl ?_
  refine wp0 rfl rfl ?_
  refine wp1 rfl rfl ?_
  refine wp0 rfl rfl ?_
  refine wp1 rfl rfl ?_
  refine wp0 rfl rfl ?_
  refine wp0 rfl rfl ?_
  refine wp1 rfl rfl ?_
  refine wp0 rfl rfl ?_
  refine wp1 rfl rfl ?_
  refine wp0 rfl rfl ?_
  refine wp0 rfl rfl ?_
  refine wp1 rfl rfl ?_
  refine wp0 rfl rfl ?_
  refine wp0 rfl rfl ?_
  refine wp0 rfl rfl ?_
  refine wp2b rfl rfl (fun c14 => ?_) (fun c14 => ?_)
  · refine wp0 rfl rfl ?_
    exact wpL rfl rfl (sb_49_39 hJ12 (l1) (l3) (l5) (l7) (x13) (0) b0)
  · refine wp0 rfl rfl ?_
    refine wp2 rfl rfl ?_
    exact wpL rfl rfl (sb_49_39 hJ12 (l1) (l3) (l5) (l7) (x13) (1) b1)
theorem sf_49 {s : cs} {mc : am_H} {D : List pgT} (hJ : J s mc D) (l1 : Int64) (l3 : Int64) (l5 : Int64) (l7 : Int32)  : tb_wp L xs 49 0 (lv_args 0 [.ref 9, .long l1, .long l3, .long l5, .int l7]) [] (HH s mc D) (SV mc) := sb_49_0 hJ l1 l3 l5 l7
/- 124: FlagMachine$Sums.tellFlags(IJJJ)V -/
set_option maxRecDepth 20000 in
theorem sb_124_222 {s : cs} {mc : am_H} {D : List pgT} (hJ : J s mc D)   : tb_wp L xs 124 222 [] [] (HH s mc D) (SV mc) := by
  exact wp5 rfl rfl ⟨_, _, hJ, rfl, rfl⟩
set_option maxRecDepth 20000 in
theorem sb_124_0 {s : cs} {mc : am_H} {D : List pgT} (hJ : J s mc D) (l1 : Int32) (l2 : Int64) (l4 : Int64) (l6 : Int64)  : tb_wp L xs 124 0 [(0, .ref 15), (1, .int l1), (2, .long l2), (4, .long l4), (6, .long l6)] [] (HH s mc D) (SV mc) := by
  refine wp1 rfl rfl ?_
  refine wp3 rfl (am_getf rfl rfl) ?_
  refine wp3 rfl (am_getf rfl rfl) ?_
  refine wpTi (fun z1 ez1 => ?_)
  refine wp1 rfl rfl ?_
  refine wpV (lv' := [(0, .ref 15), (1, .int l1), (2, .long l2), (4, .long l4), (6, .long l6), (8, .int z1)]) rfl ?_
  refine wp1 rfl rfl ?_
  refine wp3 rfl (am_getf rfl rfl) ?_
  refine wp3 rfl (am_getf rfl rfl) ?_
  refine wpTi (fun z2 ez2 => ?_)
  refine wp1 rfl rfl ?_
  refine wpV (lv' := [(0, .ref 15), (1, .int l1), (2, .long l2), (4, .long l4), (6, .long l6), (8, .int z1), (9, .int z2)]) rfl ?_
  refine wp1 rfl rfl ?_
  refine wp2s [108, 125, 142, 145, 161, 186, 211] rfl rfl rfl rfl (am_fa1 ?_ (am_fa1 ?_ (am_fa1 ?_ (am_fa1 ?_ (am_fa1 ?_ (am_fa1 ?_ (am_fa1 ?_ (am_fa0))))))))
  · refine wp1 rfl rfl ?_
    refine wp3 rfl (am_getf rfl rfl) ?_
    refine wp1 rfl rfl ?_
    refine wp1 rfl rfl ?_
    refine wp1 rfl rfl ?_
    refine wp1 rfl rfl ?_
    refine wp4 rfl rfl (sf_52 hJ (l2) (l4) (l6) (z1)) (fun rv h1 hq => ?_)
    obtain ⟨s4, D5, hJ6, rfl, rfl⟩ := hq
    refine wp2 rfl rfl ?_
    exact wpL rfl rfl (sb_124_222 hJ6 )
  · refine wp1 rfl rfl ?_
    refine wp3 rfl (am_getf rfl rfl) ?_
    refine wp1 rfl rfl ?_
    refine wp1 rfl rfl ?_
    refine wp1 rfl rfl ?_
    refine wp1 rfl rfl ?_
    refine wp4 rfl rfl (sf_49 hJ (l2) (l4) (l6) (z1)) (fun rv h1 hq => ?_)
    obtain ⟨s9, D10, hJ11, rfl, rfl⟩ := hq
    refine wp2 rfl rfl ?_
    exact wpL rfl rfl (sb_124_222 hJ11 )
  · refine wp2 rfl rfl ?_
    exact wpL rfl rfl (sb_124_222 hJ )
  · refine wp1 rfl rfl ?_
    refine wp3 rfl (am_getf rfl rfl) ?_
    refine wp0 rfl rfl ?_
    refine wp1 rfl rfl ?_
    refine wp1 rfl rfl ?_
    refine wp1 rfl rfl ?_
    refine wp4 rfl rfl (sf_49 hJ (0) (l2) (l6) (z1)) (fun rv h1 hq => ?_)
    obtain ⟨s14, D15, hJ16, rfl, rfl⟩ := hq
    refine wp2 rfl rfl ?_
    exact wpL rfl rfl (sb_124_222 hJ16 )
  · refine wp1 rfl rfl ?_
    refine wp3 rfl (am_getf rfl rfl) ?_
    refine wp1 rfl rfl ?_
    refine wp0 rfl rfl ?_
    refine wp1 rfl rfl ?_
    refine wp1 rfl rfl ?_
    refine wp4 rfl rfl (sf_52 hJ (l2) (1) (l6) (z1)) (fun rv h1 hq => ?_)
    obtain ⟨s19, D20, hJ21, rfl, rfl⟩ := hq
    refine wp1 rfl rfl ?_
    refine wp3 rfl (am_getf rfl rfl) ?_
    refine wp1 rfl rfl ?_
    refine wp3 rfl (am_putf rfl (Nat.le_of_ble_eq_true rfl) (b01_nar (ez2 ▸ hJ.2.1)) (b01_fit (ez2 ▸ hJ.2.1))) ?_
    have hJ23 := J_carry hJ21 (ez2 ▸ hJ.2.1)
    refine wpH (h' := HH (s_carry s19 z2) mc D20) rfl ?_
    refine wp2 rfl rfl ?_
    exact wpL rfl rfl (sb_124_222 hJ23 )
  · refine wp1 rfl rfl ?_
    refine wp3 rfl (am_getf rfl rfl) ?_
    refine wp1 rfl rfl ?_
    refine wp0 rfl rfl ?_
    refine wp1 rfl rfl ?_
    refine wp1 rfl rfl ?_
    refine wp4 rfl rfl (sf_49 hJ (l2) (1) (l6) (z1)) (fun rv h1 hq => ?_)
    obtain ⟨s25, D26, hJ27, rfl, rfl⟩ := hq
    refine wp1 rfl rfl ?_
    refine wp3 rfl (am_getf rfl rfl) ?_
    refine wp1 rfl rfl ?_
    refine wp3 rfl (am_putf rfl (Nat.le_of_ble_eq_true rfl) (b01_nar (ez2 ▸ hJ.2.1)) (b01_fit (ez2 ▸ hJ.2.1))) ?_
    have hJ29 := J_carry hJ27 (ez2 ▸ hJ.2.1)
    refine wpH (h' := HH (s_carry s25 z2) mc D26) rfl ?_
    refine wp2 rfl rfl ?_
    exact wpL rfl rfl (sb_124_222 hJ29 )
  · refine wp1 rfl rfl ?_
    refine wp3 rfl (am_getf rfl rfl) ?_
    refine wp1 rfl rfl ?_
    refine wp1 rfl rfl ?_
    refine wp4 rfl rfl (sf_48 hJ (l6) (z1)) (fun rv h1 hq => ?_)
    obtain ⟨s31, D32, hJ33, rfl, rfl⟩ := hq
    exact wpL rfl rfl (sb_124_222 hJ33 )
theorem sf_124 {s : cs} {mc : am_H} {D : List pgT} (hJ : J s mc D) (l1 : Int32) (l2 : Int64) (l4 : Int64) (l6 : Int64)  : tb_wp L xs 124 0 (lv_args 0 [.ref 15, .int l1, .long l2, .long l4, .long l6]) [] (HH s mc D) (SV mc) := sb_124_0 hJ l1 l2 l4 l6
end SG

section SG
variable {L : Nat} {xs : Nat → Int32}
theorem b01_in {x : Int32} {n : Nat} (h : b01 x) (hn : 2 ≤ n := by decide) : am_in x n = true := by
  rcases h with rfl | rfl
  · exact am_in_of (by decide) (by show (0 : Int) < n; omega)
  · exact am_in_of (by decide) (by show (1 : Int) < n; omega)
theorem am_in_nn {x : Int32} {n : Nat} (h : am_in x n = true) : 0 ≤ x.toInt := by
  have h1 : ¬ x < 0 := fun z => by simp [am_in, z] at h
  have h2 : ¬ x.toInt < 0 := fun z => h1 (Int32.lt_iff_toInt_lt.mpr z)
  omega
theorem sf_107_1_0 {s : cs} {mc : am_H} {D : List pgT} (hJ : J s mc D) (x1 : Int32) : tb_wp L xs 107 0 (lv_args 0 [.ref 11, .ref 5, .int x1]) [] (HH s mc D) (SV mc) := pg_become (i := 1) (i2 := 0) (by decide) (by decide) hJ x1
theorem sf_108_1 {s : cs} {mc : am_H} {D : List pgT} (hJ : J s mc D) (x0 : Int32) : tb_wp L xs 108 0 (lv_args 0 [.ref 11, .int x0]) [] (HH s mc D) (SI mc) := pg_byteAt (i := 1) (by decide) hJ x0
theorem sf_108_2 {s : cs} {mc : am_H} {D : List pgT} (hJ : J s mc D) (x0 : Int32) : tb_wp L xs 108 0 (lv_args 0 [.ref 20, .int x0]) [] (HH s mc D) (SI mc) := pg_byteAt (i := 2) (by decide) hJ x0
theorem sf_108_3 {s : cs} {mc : am_H} {D : List pgT} (hJ : J s mc D) (x0 : Int32) : tb_wp L xs 108 0 (lv_args 0 [.ref 22, .int x0]) [] (HH s mc D) (SI mc) := pg_byteAt (i := 3) (by decide) hJ x0
theorem sf_110_1 {s : cs} {mc : am_H} {D : List pgT} (hJ : J s mc D) (x0 : Int32) (x1 : Int32) : tb_wp L xs 110 0 (lv_args 0 [.ref 11, .int x0, .int x1]) [] (HH s mc D) (SV mc) := pg_clearFrom (i := 1) (by decide) hJ x0 x1
theorem sf_112_3_1 {s : cs} {mc : am_H} {D : List pgT} (hJ : J s mc D) (x1 : Int32) (x2 : Int32) (x3 : Int32) : tb_wp L xs 112 0 (lv_args 0 [.ref 22, .ref 11, .int x1, .int x2, .int x3]) [] (HH s mc D) (SV mc) := pg_copyFrom (i := 3) (i2 := 1) (by decide) (by decide) hJ x1 x2 x3
theorem sf_116_0 {s : cs} {mc : am_H} {D : List pgT} (hJ : J s mc D) (x0 : Int32) (x1 : Int32) : tb_wp L xs 116 0 (lv_args 0 [.ref 5, .int x0, .int x1]) [] (HH s mc D) (SV mc) := pg_putByte (i := 0) (by decide) hJ x0 x1
theorem sf_116_1 {s : cs} {mc : am_H} {D : List pgT} (hJ : J s mc D) (x0 : Int32) (x1 : Int32) : tb_wp L xs 116 0 (lv_args 0 [.ref 11, .int x0, .int x1]) [] (HH s mc D) (SV mc) := pg_putByte (i := 1) (by decide) hJ x0 x1
theorem sf_116_2 {s : cs} {mc : am_H} {D : List pgT} (hJ : J s mc D) (x0 : Int32) (x1 : Int32) : tb_wp L xs 116 0 (lv_args 0 [.ref 20, .int x0, .int x1]) [] (HH s mc D) (SV mc) := pg_putByte (i := 2) (by decide) hJ x0 x1
theorem sf_117_1 {s : cs} {mc : am_H} {D : List pgT} (hJ : J s mc D) (x0 : Int32) (x1 : Int32) (x2 : Int64) : tb_wp L xs 117 0 (lv_args 0 [.ref 11, .int x0, .int x1, .long x2]) [] (HH s mc D) (SV mc) := pg_putWord (i := 1) (by decide) hJ x0 x1 x2
theorem sf_119_1 {s : cs} {mc : am_H} {D : List pgT} (hJ : J s mc D) (x0 : Int32) (x1 : Int32) : tb_wp L xs 119 0 (lv_args 0 [.ref 11, .int x0, .int x1]) [] (HH s mc D) (SJ mc) := pg_wordAt (i := 1) (by decide) hJ x0 x1
/- 3: FlagMachine.below(JJ)Z -/
set_option maxRecDepth 20000 in
theorem sb_3_19 {s : cs} {mc : am_H} {D : List pgT} (hJ : J s mc D) (k0 : Int32) (hb_k0 : b01 k0) : tb_wp L xs 3 19 [] [.int k0] (HH s mc D) (SZ mc) := by
  exact wp5z rfl rfl hb_k0 ⟨_, _, hJ, rfl, _, rfl, hb_k0⟩
set_option maxRecDepth 20000 in
theorem sb_3_0 {s : cs} {mc : am_H} {D : List pgT} (hJ : J s mc D) (l0 : Int64) (l2 : Int64)  : tb_wp L xs 3 0 [(0, .long l0), (2, .long l2)] [] (HH s mc D) (SZ mc) := by
  refine wp1 rfl rfl ?_
  refine wp0 rfl rfl ?_
  refine wp0 rfl rfl ?_
  refine wp1 rfl rfl ?_
  refine wp0 rfl rfl ?_
  refine wp0 rfl rfl ?_
  refine wp0 rfl rfl ?_
  refine wp2b rfl rfl (fun c1 => ?_) (fun c1 => ?_)
  · refine wp0 rfl rfl ?_
    exact wpL rfl rfl (sb_3_19 hJ (0) b0)
  · refine wp0 rfl rfl ?_
    refine wp2 rfl rfl ?_
    exact wpL rfl rfl (sb_3_19 hJ (1) b1)
theorem sf_3 {s : cs} {mc : am_H} {D : List pgT} (hJ : J s mc D) (l0 : Int64) (l2 : Int64)  : tb_wp L xs 3 0 (lv_args 0 [.long l0, .long l2]) [] (HH s mc D) (SZ mc) := sb_3_0 hJ l0 l2
/- 4: FlagMachine.fill(IJ)V -/
set_option maxRecDepth 20000 in
theorem sb_4_3 (n : Nat) : ∀ {s : cs} {mc : am_H} {D : List pgT} (hJ : J s mc D) (l1 : Int32) (l2 : Int64) (l4 : Int32) (hn_l4 : 0 ≤ Int32.toInt l4) (hm : ((8 : Int32).toInt - (l4 : Int32).toInt).toNat < n), tb_wp L xs 4 3 [(0, .ref 1), (1, .int l1), (2, .long l2), (4, .int l4)] [] (HH s mc D) (SV mc) := by
  induction n with
  | zero => intro s mc D hJ l1 l2 l4 hn_l4 hm; exact absurd hm (Nat.not_lt_zero _)
  | succ n ih =>
    intro s mc D hJ l1 l2 l4 hn_l4 hm
    refine wp1 rfl rfl ?_
    refine wp0 rfl rfl ?_
    refine wp2b rfl rfl (fun c1 => ?_) (fun c1 => ?_)
    · exact wp5 rfl rfl ⟨_, _, hJ, rfl, rfl⟩
    · refine wp1 rfl rfl ?_
      refine wp0 rfl rfl ?_
      refine wp1 rfl rfl ?_
      refine wp0 rfl rfl ?_
      refine wp0 rfl rfl ?_
      refine wpTl (fun z2 ez2 => ?_)
      refine wp1 rfl rfl ?_
      refine wpV (lv' := [(0, .ref 1), (1, .int l1), (2, .long l2), (4, .int l4), (5, .long z2)]) rfl ?_
      refine wp1 rfl rfl ?_
      refine wp0 rfl rfl ?_
      refine wp0 rfl rfl ?_
      refine wp2b rfl rfl (fun c3 => ?_) (fun c3 => ?_)
      · refine wp1 rfl rfl ?_
        refine wpV (lv' := [(0, .ref 1), (1, .int l1), (2, .long l2), (4, .int (l4 + 1))]) rfl ?_
        refine wp2 rfl rfl ?_
        exact wpL rfl rfl (ih hJ (l1) (l2) ((l4 + 1)) (i32_upp c1 hn_l4) (i32_up c1 hm))
      · refine wp1 rfl rfl ?_
        refine wp0 rfl rfl ?_
        refine wp0 rfl rfl ?_
        refine wp2b rfl rfl (fun c4 => ?_) (fun c4 => ?_)
        · refine wp1 rfl rfl ?_
          refine wpV (lv' := [(0, .ref 1), (1, .int l1), (2, .long l2), (4, .int (l4 + 1))]) rfl ?_
          refine wp2 rfl rfl ?_
          exact wpL rfl rfl (ih hJ (l1) (l2) ((l4 + 1)) (i32_upp c1 hn_l4) (i32_up c1 hm))
        · refine wp1 rfl rfl ?_
          refine wp3 rfl (am_getf rfl rfl) ?_
          refine wp1 rfl rfl ?_
          refine wp0 rfl rfl ?_
          refine wp1 rfl rfl ?_
          refine wp0 rfl rfl ?_
          refine wp1 rfl rfl ?_
          refine wp0 rfl rfl ?_
          refine wp0 rfl rfl ?_
          refine wp0 rfl rfl ?_
          refine wp0 rfl rfl ?_
          refine wp0 rfl rfl ?_
          refine wp4 rfl rfl (sf_116_0 hJ ((Int64.toInt32 z2)) (((Int64.toInt32 ((Int64.toUInt64 l2 >>> ((Int32.toInt64 (8 * l4)).toUInt64 &&& Int64.toUInt64 63)).toInt64)) &&& 255))) (fun rv h1 hq => ?_)
          obtain ⟨s6, D7, hJ8, rfl, rfl⟩ := hq
          refine wp1 rfl rfl ?_
          refine wpV (lv' := [(0, .ref 1), (1, .int l1), (2, .long l2), (4, .int (l4 + 1))]) rfl ?_
          refine wp2 rfl rfl ?_
          exact wpL rfl rfl (ih hJ8 (l1) (l2) ((l4 + 1)) (i32_upp c1 hn_l4) (i32_up c1 hm))
set_option maxRecDepth 20000 in
theorem sb_4_0 {s : cs} {mc : am_H} {D : List pgT} (hJ : J s mc D) (l1 : Int32) (l2 : Int64)  : tb_wp L xs 4 0 [(0, .ref 1), (1, .int l1), (2, .long l2)] [] (HH s mc D) (SV mc) := by
  refine wp0 rfl rfl ?_
  refine wp1 rfl rfl ?_
  refine wpV (lv' := [(0, .ref 1), (1, .int l1), (2, .long l2), (4, .int 0)]) rfl ?_
  exact wpL rfl rfl (sb_4_3 _ hJ (l1) (l2) (0) (by decide) (Nat.lt_succ_self _))
theorem sf_4 {s : cs} {mc : am_H} {D : List pgT} (hJ : J s mc D) (l1 : Int32) (l2 : Int64)  : tb_wp L xs 4 0 (lv_args 0 [.ref 1, .int l1, .long l2]) [] (HH s mc D) (SV mc) := sb_4_0 hJ l1 l2
/- 5: FlagMachine.finish(I)I -/
set_option maxRecDepth 20000 in
theorem sb_5_50 {s : cs} {mc : am_H} {D : List pgT} (hJ : J s mc D) (l1 : Int32) (k1 : Int32) (hb_k1 : b01 k1) : tb_wp L xs 5 50 [(1, .int l1)] [.int k1, .ref 1] (HH s mc D) (SI mc) := by
  refine wp3 rfl (am_putf rfl (Nat.le_of_ble_eq_true rfl) (b01_nar hb_k1) (b01_fit hb_k1)) ?_
  have hJ1 := J_ended hJ hb_k1
  refine wpH (h' := HH (s_ended s k1) mc D) rfl ?_
  refine wp1 rfl rfl ?_
  exact wp5i rfl rfl ⟨_, _, hJ1, rfl, _, rfl⟩
set_option maxRecDepth 20000 in
theorem sb_5_39 {s : cs} {mc : am_H} {D : List pgT} (hJ : J s mc D) (l1 : Int32)  : tb_wp L xs 5 39 [(0, .ref 1), (1, .int l1)] [] (HH s mc D) (SI mc) := by
  refine wp1 rfl rfl ?_
  refine wp1 rfl rfl ?_
  refine wp0 rfl rfl ?_
  refine wp2b rfl rfl (fun c2 => ?_) (fun c2 => ?_)
  · refine wp0 rfl rfl ?_
    refine wp2 rfl rfl ?_
    exact wpL rfl rfl (sb_5_50 hJ (l1) (1) b1)
  · refine wp0 rfl rfl ?_
    exact wpL rfl rfl (sb_5_50 hJ (l1) (0) b0)
set_option maxRecDepth 20000 in
theorem sb_5_15 {s : cs} {mc : am_H} {D : List pgT} (hJ : J s mc D) (l1 : Int32)  : tb_wp L xs 5 15 [(0, .ref 1), (1, .int l1)] [] (HH s mc D) (SI mc) := by
  refine wp1 rfl rfl ?_
  refine wp3 rfl (am_getf rfl rfl) ?_
  refine wp1 rfl rfl ?_
  refine wp3 rfl (am_getf rfl rfl) ?_
  refine wp3 rfl (am_getf rfl rfl) ?_
  refine wp3 rfl (am_putf rfl (Nat.le_of_ble_eq_true rfl) rfl rfl) ?_
  have hJ3 : J (s_ip s (g_next s)) mc D := hJ
  refine wpH (h' := HH (s_ip s (g_next s)) mc D) rfl ?_
  refine wp1 rfl rfl ?_
  refine wp0 rfl rfl ?_
  refine wp3 rfl (am_getf rfl rfl) ?_
  refine wp0 rfl rfl ?_
  refine wp0 rfl rfl ?_
  refine wp3 rfl (am_putf rfl (Nat.le_of_ble_eq_true rfl) rfl rfl) ?_
  have hJ4 : J (s_steps (s_ip s (g_next s)) ((g_steps (s_ip s (g_next s))) + 1)) mc D := hJ3
  refine wpH (h' := HH (s_steps (s_ip s (g_next s)) ((g_steps (s_ip s (g_next s))) + 1)) mc D) rfl ?_
  exact wpL rfl rfl (sb_5_39 hJ4 (l1))
set_option maxRecDepth 20000 in
theorem sb_5_0 {s : cs} {mc : am_H} {D : List pgT} (hJ : J s mc D) (l1 : Int32)  : tb_wp L xs 5 0 [(0, .ref 1), (1, .int l1)] [] (HH s mc D) (SI mc) := by
  refine wp1 rfl rfl ?_
  refine wp2b rfl rfl (fun c5 => ?_) (fun c5 => ?_)
  · exact wpL rfl rfl (sb_5_15 hJ (l1))
  · refine wp1 rfl rfl ?_
    refine wp0 rfl rfl ?_
    refine wp2b rfl rfl (fun c6 => ?_) (fun c6 => ?_)
    · exact wpL rfl rfl (sb_5_15 hJ (l1))
    · refine wp1 rfl rfl ?_
      refine wp0 rfl rfl ?_
      refine wp2b rfl rfl (fun c7 => ?_) (fun c7 => ?_)
      · exact wpL rfl rfl (sb_5_15 hJ (l1))
      · exact wpL rfl rfl (sb_5_39 hJ (l1))
theorem sf_5 {s : cs} {mc : am_H} {D : List pgT} (hJ : J s mc D) (l1 : Int32)  : tb_wp L xs 5 0 (lv_args 0 [.ref 1, .int l1]) [] (HH s mc D) (SI mc) := sb_5_0 hJ l1
/- 7: FlagMachine.maskOf(I)J -/
set_option maxRecDepth 20000 in
theorem sb_7_20 {s : cs} {mc : am_H} {D : List pgT} (hJ : J s mc D) (k0 : Int64)  : tb_wp L xs 7 20 [] [.long k0] (HH s mc D) (SJ mc) := by
  exact wp5 rfl rfl ⟨_, _, hJ, rfl, _, rfl⟩
set_option maxRecDepth 20000 in
theorem sb_7_0 {s : cs} {mc : am_H} {D : List pgT} (hJ : J s mc D) (l0 : Int32)  : tb_wp L xs 7 0 [(0, .int l0)] [] (HH s mc D) (SJ mc) := by
  refine wp1 rfl rfl ?_
  refine wp0 rfl rfl ?_
  refine wp2b rfl rfl (fun c1 => ?_) (fun c1 => ?_)
  · refine wp0 rfl rfl ?_
    refine wp0 rfl rfl ?_
    refine wp1 rfl rfl ?_
    refine wp0 rfl rfl ?_
    refine wp0 rfl rfl ?_
    refine wp0 rfl rfl ?_
    refine wp0 rfl rfl ?_
    exact wpL rfl rfl (sb_7_20 hJ (((1 <<< (Int32.toInt64 (8 * l0) &&& 63)) - 1)))
  · refine wp0 rfl rfl ?_
    refine wp2 rfl rfl ?_
    exact wpL rfl rfl (sb_7_20 hJ ((-1)))
theorem sf_7 {s : cs} {mc : am_H} {D : List pgT} (hJ : J s mc D) (l0 : Int32)  : tb_wp L xs 7 0 (lv_args 0 [.int l0]) [] (HH s mc D) (SJ mc) := sb_7_0 hJ l0
/- 8: FlagMachine.memory(IIII)V -/
set_option maxRecDepth 20000 in
theorem sb_8_0 {s : cs} {mc : am_H} {D : List pgT} (hJ : J s mc D) (l1 : Int32) (l2 : Int32) (l3 : Int32) (l4 : Int32)  : tb_wp L xs 8 0 [(0, .ref 1), (1, .int l1), (2, .int l2), (3, .int l3), (4, .int l4)] [] (HH s mc D) (SV mc) := by
  refine wp1 rfl rfl ?_
  refine wp3 rfl (am_getf rfl rfl) ?_
  refine wp1 rfl rfl ?_
  refine wp3 rfl (am_putf rfl (Nat.le_of_ble_eq_true rfl) rfl rfl) ?_
  have hJ1 : J (s_base s l1) mc D := hJ
  refine wpH (h' := HH (s_base s l1) mc D) rfl ?_
  refine wp1 rfl rfl ?_
  refine wp3 rfl (am_getf rfl rfl) ?_
  refine wp1 rfl rfl ?_
  refine wp3 rfl (am_putf rfl (Nat.le_of_ble_eq_true rfl) rfl rfl) ?_
  have hJ2 : J (s_index (s_base s l1) l2) mc D := hJ1
  refine wpH (h' := HH (s_index (s_base s l1) l2) mc D) rfl ?_
  refine wp1 rfl rfl ?_
  refine wp3 rfl (am_getf rfl rfl) ?_
  refine wp1 rfl rfl ?_
  refine wp3 rfl (am_putf rfl (Nat.le_of_ble_eq_true rfl) rfl rfl) ?_
  have hJ3 : J (s_scale (s_index (s_base s l1) l2) l3) mc D := hJ2
  refine wpH (h' := HH (s_scale (s_index (s_base s l1) l2) l3) mc D) rfl ?_
  refine wp1 rfl rfl ?_
  refine wp3 rfl (am_getf rfl rfl) ?_
  refine wp1 rfl rfl ?_
  refine wp3 rfl (am_putf rfl (Nat.le_of_ble_eq_true rfl) rfl rfl) ?_
  have hJ4 : J (s_disp (s_scale (s_index (s_base s l1) l2) l3) l4) mc D := hJ3
  refine wpH (h' := HH (s_disp (s_scale (s_index (s_base s l1) l2) l3) l4) mc D) rfl ?_
  exact wp5 rfl rfl ⟨_, _, hJ4, rfl, rfl⟩
theorem sf_8 {s : cs} {mc : am_H} {D : List pgT} (hJ : J s mc D) (l1 : Int32) (l2 : Int32) (l3 : Int32) (l4 : Int32)  : tb_wp L xs 8 0 (lv_args 0 [.ref 1, .int l1, .int l2, .int l3, .int l4]) [] (HH s mc D) (SV mc) := sb_8_0 hJ l1 l2 l3 l4
/- 9: FlagMachine.number(J)V -/
set_option maxRecDepth 20000 in
theorem sb_9_0 {s : cs} {mc : am_H} {D : List pgT} (hJ : J s mc D) (l1 : Int64)  : tb_wp L xs 9 0 [(0, .ref 1), (1, .long l1)] [] (HH s mc D) (SV mc) := by
  refine wp1 rfl rfl ?_
  refine wp3 rfl (am_getf rfl rfl) ?_
  refine wp1 rfl rfl ?_
  refine wp3 rfl (am_putf rfl (Nat.le_of_ble_eq_true rfl) rfl rfl) ?_
  have hJ1 : J (s_number s l1) mc D := hJ
  refine wpH (h' := HH (s_number s l1) mc D) rfl ?_
  exact wp5 rfl rfl ⟨_, _, hJ1, rfl, rfl⟩
theorem sf_9 {s : cs} {mc : am_H} {D : List pgT} (hJ : J s mc D) (l1 : Int64)  : tb_wp L xs 9 0 (lv_args 0 [.ref 1, .long l1]) [] (HH s mc D) (SV mc) := sb_9_0 hJ l1
/- 10: FlagMachine.op(III)V -/
set_option maxRecDepth 20000 in
theorem sb_10_27 (n : Nat) : ∀ {s : cs} {mc : am_H} {D : List pgT} (hJ : J s mc D) (l4 : Int32) (hn_l4 : 0 ≤ Int32.toInt l4) (hm : ((3 : Int32).toInt - (l4 : Int32).toInt).toNat < n), tb_wp L xs 10 27 [(0, .ref 1), (4, .int l4)] [] (HH s mc D) (SV mc) := by
  induction n with
  | zero => intro s mc D hJ l4 hn_l4 hm; exact absurd hm (Nat.not_lt_zero _)
  | succ n ih =>
    intro s mc D hJ l4 hn_l4 hm
    refine wp1 rfl rfl ?_
    refine wp0 rfl rfl ?_
    refine wp2b rfl rfl (fun c1 => ?_) (fun c1 => ?_)
    · exact wp5 rfl rfl ⟨_, _, hJ, rfl, rfl⟩
    · refine wp1 rfl rfl ?_
      refine wp3 rfl (am_getf rfl rfl) ?_
      refine wp3 rfl (am_getf rfl rfl) ?_
      refine wp1 rfl rfl ?_
      refine wp0 rfl rfl ?_
      refine wp3 rfl (am_iast rfl (by simp only [Int32.lt_iff_toInt_lt, Int32.le_iff_toInt_le, ← Int32.toInt_inj] at c1; have hnn := hn_l4; have e0 : (3 : Int32).toInt = 3 := rfl; have g0 : (Int32.ofNat 3).toInt = 3 := rfl; exact am_in_of (by omega) (by omega))) ?_
      have hJ2 : J (s_kinds s (upd (g_kinds s) (Int32.toNatClampNeg l4) 0)) mc D := hJ
      refine wpH (h' := HH (s_kinds s (upd (g_kinds s) (Int32.toNatClampNeg l4) 0)) mc D) rfl ?_
      refine wp1 rfl rfl ?_
      refine wp3 rfl (am_getf rfl rfl) ?_
      refine wp3 rfl (am_getf rfl rfl) ?_
      refine wp1 rfl rfl ?_
      refine wp0 rfl rfl ?_
      refine wp3 rfl (am_iast rfl (by simp only [Int32.lt_iff_toInt_lt, Int32.le_iff_toInt_le, ← Int32.toInt_inj] at c1; have hnn := hn_l4; have e0 : (3 : Int32).toInt = 3 := rfl; have g0 : (Int32.ofNat 3).toInt = 3 := rfl; exact am_in_of (by omega) (by omega))) ?_
      have hJ3 : J (s_hregs (s_kinds s (upd (g_kinds s) (Int32.toNatClampNeg l4) 0)) (upd (g_hregs (s_kinds s (upd (g_kinds s) (Int32.toNatClampNeg l4) 0))) (Int32.toNatClampNeg l4) 0)) mc D := J_hregs hJ2 (by decide)
      refine wpH (h' := HH (s_hregs (s_kinds s (upd (g_kinds s) (Int32.toNatClampNeg l4) 0)) (upd (g_hregs (s_kinds s (upd (g_kinds s) (Int32.toNatClampNeg l4) 0))) (Int32.toNatClampNeg l4) 0)) mc D) rfl ?_
      refine wp1 rfl rfl ?_
      refine wpV (lv' := [(0, .ref 1), (4, .int (l4 + 1))]) rfl ?_
      refine wp2 rfl rfl ?_
      exact wpL rfl rfl (ih hJ3 ((l4 + 1)) (i32_upp c1 hn_l4) (i32_up c1 hm))
set_option maxRecDepth 20000 in
theorem sb_10_0 {s : cs} {mc : am_H} {D : List pgT} (hJ : J s mc D) (l1 : Int32) (l2 : Int32) (l3 : Int32)  : tb_wp L xs 10 0 [(0, .ref 1), (1, .int l1), (2, .int l2), (3, .int l3)] [] (HH s mc D) (SV mc) := by
  refine wp1 rfl rfl ?_
  refine wp3 rfl (am_getf rfl rfl) ?_
  refine wp1 rfl rfl ?_
  refine wp3 rfl (am_putf rfl (Nat.le_of_ble_eq_true rfl) rfl rfl) ?_
  have hJ4 : J (s_op s l1) mc D := hJ
  refine wpH (h' := HH (s_op s l1) mc D) rfl ?_
  refine wp1 rfl rfl ?_
  refine wp3 rfl (am_getf rfl rfl) ?_
  refine wp1 rfl rfl ?_
  refine wp3 rfl (am_putf rfl (Nat.le_of_ble_eq_true rfl) rfl rfl) ?_
  have hJ5 : J (s_size (s_op s l1) l2) mc D := hJ4
  refine wpH (h' := HH (s_size (s_op s l1) l2) mc D) rfl ?_
  refine wp1 rfl rfl ?_
  refine wp3 rfl (am_getf rfl rfl) ?_
  refine wp1 rfl rfl ?_
  refine wp3 rfl (am_putf rfl (Nat.le_of_ble_eq_true rfl) rfl rfl) ?_
  have hJ6 : J (s_condition (s_size (s_op s l1) l2) l3) mc D := hJ5
  refine wpH (h' := HH (s_condition (s_size (s_op s l1) l2) l3) mc D) rfl ?_
  refine wp0 rfl rfl ?_
  refine wp1 rfl rfl ?_
  refine wpV (lv' := [(0, .ref 1), (1, .int l1), (2, .int l2), (3, .int l3), (4, .int 0)]) rfl ?_
  exact wpL rfl rfl (sb_10_27 _ hJ6 (0) (by decide) (Nat.lt_succ_self _))
theorem sf_10 {s : cs} {mc : am_H} {D : List pgT} (hJ : J s mc D) (l1 : Int32) (l2 : Int32) (l3 : Int32)  : tb_wp L xs 10 0 (lv_args 0 [.ref 1, .int l1, .int l2, .int l3]) [] (HH s mc D) (SV mc) := sb_10_0 hJ l1 l2 l3
/- 11: FlagMachine.operand(III)Z -/
set_option maxRecDepth 20000 in
theorem sb_11_41 {s : cs} {mc : am_H} {D : List pgT} (hJ : J s mc D) (l1 : Int32) (l2 : Int32) (l3 : Int32) (hi_l1 : am_in l1 3 = true) (hi_l3 : am_in l3 16 = true) : tb_wp L xs 11 41 [(0, .ref 1), (1, .int l1), (2, .int l2), (3, .int l3)] [] (HH s mc D) (SZ mc) := by
  refine wp1 rfl rfl ?_
  refine wp3 rfl (am_getf rfl rfl) ?_
  refine wp3 rfl (am_getf rfl rfl) ?_
  refine wp1 rfl rfl ?_
  refine wp1 rfl rfl ?_
  refine wp3 rfl (am_iast rfl hi_l1) ?_
  have hJ3 : J (s_kinds s (upd (g_kinds s) (Int32.toNatClampNeg l1) l2)) mc D := hJ
  refine wpH (h' := HH (s_kinds s (upd (g_kinds s) (Int32.toNatClampNeg l1) l2)) mc D) rfl ?_
  refine wp1 rfl rfl ?_
  refine wp3 rfl (am_getf rfl rfl) ?_
  refine wp3 rfl (am_getf rfl rfl) ?_
  refine wp1 rfl rfl ?_
  refine wp1 rfl rfl ?_
  refine wp3 rfl (am_iast rfl hi_l1) ?_
  have hJ4 : J (s_hregs (s_kinds s (upd (g_kinds s) (Int32.toNatClampNeg l1) l2)) (upd (g_hregs (s_kinds s (upd (g_kinds s) (Int32.toNatClampNeg l1) l2))) (Int32.toNatClampNeg l1) l3)) mc D := J_hregs hJ3 hi_l3
  refine wpH (h' := HH (s_hregs (s_kinds s (upd (g_kinds s) (Int32.toNatClampNeg l1) l2)) (upd (g_hregs (s_kinds s (upd (g_kinds s) (Int32.toNatClampNeg l1) l2))) (Int32.toNatClampNeg l1) l3)) mc D) rfl ?_
  refine wp0 rfl rfl ?_
  exact wp5z rfl rfl b1 ⟨_, _, hJ4, rfl, _, rfl, b1⟩
set_option maxRecDepth 20000 in
theorem sb_11_39 {s : cs} {mc : am_H} {D : List pgT} (hJ : J s mc D)   : tb_wp L xs 11 39 [] [] (HH s mc D) (SZ mc) := by
  refine wp0 rfl rfl ?_
  exact wp5z rfl rfl b0 ⟨_, _, hJ, rfl, _, rfl, b0⟩
set_option maxRecDepth 20000 in
theorem sb_11_18 {s : cs} {mc : am_H} {D : List pgT} (hJ : J s mc D)   : tb_wp L xs 11 18 [] [] (HH s mc D) (SZ mc) := by
  refine wp0 rfl rfl ?_
  exact wp5z rfl rfl b0 ⟨_, _, hJ, rfl, _, rfl, b0⟩
set_option maxRecDepth 20000 in
theorem sb_11_0 {s : cs} {mc : am_H} {D : List pgT} (hJ : J s mc D) (l1 : Int32) (l2 : Int32) (l3 : Int32)  : tb_wp L xs 11 0 [(0, .ref 1), (1, .int l1), (2, .int l2), (3, .int l3)] [] (HH s mc D) (SZ mc) := by
  refine wp1 rfl rfl ?_
  refine wp2b rfl rfl (fun c5 => ?_) (fun c5 => ?_)
  · exact wpL rfl rfl (sb_11_18 hJ )
  · refine wp1 rfl rfl ?_
    refine wp0 rfl rfl ?_
    refine wp2b rfl rfl (fun c6 => ?_) (fun c6 => ?_)
    · exact wpL rfl rfl (sb_11_18 hJ )
    · refine wp1 rfl rfl ?_
      refine wp2b rfl rfl (fun c7 => ?_) (fun c7 => ?_)
      · exact wpL rfl rfl (sb_11_18 hJ )
      · refine wp1 rfl rfl ?_
        refine wp0 rfl rfl ?_
        refine wp2b rfl rfl (fun c8 => ?_) (fun c8 => ?_)
        · refine wp1 rfl rfl ?_
          refine wp2b rfl rfl (fun c9 => ?_) (fun c9 => ?_)
          · exact wpL rfl rfl (sb_11_39 hJ )
          · refine wp1 rfl rfl ?_
            refine wp0 rfl rfl ?_
            refine wp2b rfl rfl (fun c10 => ?_) (fun c10 => ?_)
            · exact wpL rfl rfl (sb_11_39 hJ )
            · refine wp1 rfl rfl ?_
              refine wp0 rfl rfl ?_
              refine wp2b rfl rfl (fun c11 => ?_) (fun c11 => ?_)
              · exact wpL rfl rfl (sb_11_41 hJ (l1) (l2) (l3) (by simp only [Int32.lt_iff_toInt_lt, Int32.le_iff_toInt_le, ← Int32.toInt_inj] at c5 c6; have e0 : (0 : Int32).toInt = 0 := rfl; have g0 : (Int32.ofNat 0).toInt = 0 := rfl; have e1 : (2 : Int32).toInt = 2 := rfl; have g1 : (Int32.ofNat 2).toInt = 2 := rfl; exact am_in_of (by omega) (by omega)) (by simp only [Int32.lt_iff_toInt_lt, Int32.le_iff_toInt_le, ← Int32.toInt_inj] at c10 c9; have e0 : (0 : Int32).toInt = 0 := rfl; have g0 : (Int32.ofNat 0).toInt = 0 := rfl; have e1 : (15 : Int32).toInt = 15 := rfl; have g1 : (Int32.ofNat 15).toInt = 15 := rfl; exact am_in_of (by omega) (by omega)))
              · refine wp1 rfl rfl ?_
                refine wp2b rfl rfl (fun c12 => ?_) (fun c12 => ?_)
                · exact wpL rfl rfl (sb_11_41 hJ (l1) (l2) (l3) (by simp only [Int32.lt_iff_toInt_lt, Int32.le_iff_toInt_le, ← Int32.toInt_inj] at c5 c6; have e0 : (0 : Int32).toInt = 0 := rfl; have g0 : (Int32.ofNat 0).toInt = 0 := rfl; have e1 : (2 : Int32).toInt = 2 := rfl; have g1 : (Int32.ofNat 2).toInt = 2 := rfl; exact am_in_of (by omega) (by omega)) (by simp only [Int32.lt_iff_toInt_lt, Int32.le_iff_toInt_le, ← Int32.toInt_inj] at c10 c12 c9; have e0 : (0 : Int32).toInt = 0 := rfl; have g0 : (Int32.ofNat 0).toInt = 0 := rfl; have e1 : (15 : Int32).toInt = 15 := rfl; have g1 : (Int32.ofNat 15).toInt = 15 := rfl; exact am_in_of (by omega) (by omega)))
                · exact wpL rfl rfl (sb_11_39 hJ )
        · exact wpL rfl rfl (sb_11_18 hJ )
theorem sf_11 {s : cs} {mc : am_H} {D : List pgT} (hJ : J s mc D) (l1 : Int32) (l2 : Int32) (l3 : Int32)  : tb_wp L xs 11 0 (lv_args 0 [.ref 1, .int l1, .int l2, .int l3]) [] (HH s mc D) (SZ mc) := sb_11_0 hJ l1 l2 l3
/- 16: FlagMachine.set(IJ)Z -/
set_option maxRecDepth 20000 in
theorem sb_16_39 {s : cs} {mc : am_H} {D : List pgT} (hJ : J s mc D)   : tb_wp L xs 16 39 [] [] (HH s mc D) (SZ mc) := by
  refine wp0 rfl rfl ?_
  exact wp5z rfl rfl b1 ⟨_, _, hJ, rfl, _, rfl, b1⟩
set_option maxRecDepth 20000 in
theorem sb_16_10 {s : cs} {mc : am_H} {D : List pgT} (hJ : J s mc D)   : tb_wp L xs 16 10 [] [] (HH s mc D) (SZ mc) := by
  refine wp0 rfl rfl ?_
  exact wp5z rfl rfl b0 ⟨_, _, hJ, rfl, _, rfl, b0⟩
set_option maxRecDepth 20000 in
theorem sb_16_0 {s : cs} {mc : am_H} {D : List pgT} (hJ : J s mc D) (l1 : Int32) (l2 : Int64)  : tb_wp L xs 16 0 [(0, .ref 1), (1, .int l1), (2, .long l2)] [] (HH s mc D) (SZ mc) := by
  refine wp1 rfl rfl ?_
  refine wp2b rfl rfl (fun c1 => ?_) (fun c1 => ?_)
  · exact wpL rfl rfl (sb_16_10 hJ )
  · refine wp1 rfl rfl ?_
    refine wp0 rfl rfl ?_
    refine wp2b rfl rfl (fun c2 => ?_) (fun c2 => ?_)
    · refine wp1 rfl rfl ?_
      refine wp0 rfl rfl ?_
      refine wp2b rfl rfl (fun c3 => ?_) (fun c3 => ?_)
      · refine wp1 rfl rfl ?_
        refine wp3 rfl (am_getf rfl rfl) ?_
        refine wp1 rfl rfl ?_
        refine wp3 rfl (am_putf rfl (Nat.le_of_ble_eq_true rfl) rfl rfl) ?_
        have hJ4 : J (s_ip s l2) mc D := hJ
        refine wpH (h' := HH (s_ip s l2) mc D) rfl ?_
        refine wp2 rfl rfl ?_
        exact wpL rfl rfl (sb_16_39 hJ4 )
      · refine wp1 rfl rfl ?_
        refine wp3 rfl (am_getf rfl rfl) ?_
        refine wp3 rfl (am_getf rfl rfl) ?_
        refine wp1 rfl rfl ?_
        refine wp1 rfl rfl ?_
        refine wp3 rfl (am_last rfl (by simp only [Int32.lt_iff_toInt_lt, Int32.le_iff_toInt_le, ← Int32.toInt_inj] at c1 c2 c3; have e0 : (0 : Int32).toInt = 0 := rfl; have g0 : (Int32.ofNat 0).toInt = 0 := rfl; have e1 : (16 : Int32).toInt = 16 := rfl; have g1 : (Int32.ofNat 16).toInt = 16 := rfl; exact am_in_of (by omega) (by omega))) ?_
        have hJ5 : J (s_regs s (vp_updL (g_regs s) (Int32.toNatClampNeg l1) l2)) mc D := hJ
        refine wpH (h' := HH (s_regs s (vp_updL (g_regs s) (Int32.toNatClampNeg l1) l2)) mc D) rfl ?_
        exact wpL rfl rfl (sb_16_39 hJ5 )
    · exact wpL rfl rfl (sb_16_10 hJ )
theorem sf_16 {s : cs} {mc : am_H} {D : List pgT} (hJ : J s mc D) (l1 : Int32) (l2 : Int64)  : tb_wp L xs 16 0 (lv_args 0 [.ref 1, .int l1, .long l2]) [] (HH s mc D) (SZ mc) := sb_16_0 hJ l1 l2
/- 17: FlagMachine.signed(JI)J -/
set_option maxRecDepth 20000 in
theorem sb_17_0 {s : cs} {mc : am_H} {D : List pgT} (hJ : J s mc D) (l0 : Int64) (l2 : Int32)  : tb_wp L xs 17 0 [(0, .long l0), (2, .int l2)] [] (HH s mc D) (SJ mc) := by
  refine wp0 rfl rfl ?_
  refine wp0 rfl rfl ?_
  refine wp1 rfl rfl ?_
  refine wp0 rfl rfl ?_
  refine wp0 rfl rfl ?_
  refine wpTi (fun z1 ez1 => ?_)
  refine wp1 rfl rfl ?_
  refine wpV (lv' := [(0, .long l0), (2, .int l2), (3, .int z1)]) rfl ?_
  refine wp1 rfl rfl ?_
  refine wp1 rfl rfl ?_
  refine wp0 rfl rfl ?_
  refine wp1 rfl rfl ?_
  refine wp0 rfl rfl ?_
  exact wp5 rfl rfl ⟨_, _, hJ, rfl, _, rfl⟩
theorem sf_17 {s : cs} {mc : am_H} {D : List pgT} (hJ : J s mc D) (l0 : Int64) (l2 : Int32)  : tb_wp L xs 17 0 (lv_args 0 [.long l0, .int l2]) [] (HH s mc D) (SJ mc) := sb_17_0 hJ l0 l2
/- 19: FlagMachine.topOf(I)J -/
set_option maxRecDepth 20000 in
theorem sb_19_0 {s : cs} {mc : am_H} {D : List pgT} (hJ : J s mc D) (l0 : Int32)  : tb_wp L xs 19 0 [(0, .int l0)] [] (HH s mc D) (SJ mc) := by
  refine wp0 rfl rfl ?_
  refine wp0 rfl rfl ?_
  refine wp1 rfl rfl ?_
  refine wp0 rfl rfl ?_
  refine wp0 rfl rfl ?_
  refine wp0 rfl rfl ?_
  refine wp0 rfl rfl ?_
  exact wp5 rfl rfl ⟨_, _, hJ, rfl, _, rfl⟩
theorem sf_19 {s : cs} {mc : am_H} {D : List pgT} (hJ : J s mc D) (l0 : Int32)  : tb_wp L xs 19 0 (lv_args 0 [.int l0]) [] (HH s mc D) (SJ mc) := sb_19_0 hJ l0
/- 20: FlagMachine.value()J -/
set_option maxRecDepth 20000 in
theorem sb_20_0 {s : cs} {mc : am_H} {D : List pgT} (hJ : J s mc D)   : tb_wp L xs 20 0 [(0, .ref 1)] [] (HH s mc D) (SJ mc) := by
  refine wp1 rfl rfl ?_
  refine wp3 rfl (am_getf rfl rfl) ?_
  refine wp3 rfl (am_getf rfl rfl) ?_
  exact wp5 rfl rfl ⟨_, _, hJ, rfl, _, rfl⟩
theorem sf_20 {s : cs} {mc : am_H} {D : List pgT} (hJ : J s mc D)   : tb_wp L xs 20 0 (lv_args 0 [.ref 1]) [] (HH s mc D) (SJ mc) := sb_20_0 hJ 
/- 22: FlagMachine$Bits.highestBit(J)I -/
set_option maxRecDepth 20000 in
theorem sb_22_23 {s : cs} {mc : am_H} {D : List pgT} (hJ : J s mc D) (l2 : Int32)  : tb_wp L xs 22 23 [(2, .int l2)] [] (HH s mc D) (SI mc) := by
  refine wp1 rfl rfl ?_
  exact wp5i rfl rfl ⟨_, _, hJ, rfl, _, rfl⟩
set_option maxRecDepth 20000 in
theorem sb_22_3 (n : Nat) : ∀ {s : cs} {mc : am_H} {D : List pgT} (hJ : J s mc D) (l0 : Int64) (l2 : Int32)  (hm : ((l2 : Int32).toInt + 1).toNat < n), tb_wp L xs 22 3 [(0, .long l0), (2, .int l2)] [] (HH s mc D) (SI mc) := by
  induction n with
  | zero => intro s mc D hJ l0 l2 hm; exact absurd hm (Nat.not_lt_zero _)
  | succ n ih =>
    intro s mc D hJ l0 l2 hm
    refine wp1 rfl rfl ?_
    refine wp2b rfl rfl (fun c1 => ?_) (fun c1 => ?_)
    · exact wpL rfl rfl (sb_22_23 hJ (l2))
    · refine wp1 rfl rfl ?_
      refine wp1 rfl rfl ?_
      refine wp0 rfl rfl ?_
      refine wp0 rfl rfl ?_
      refine wp0 rfl rfl ?_
      refine wp0 rfl rfl ?_
      refine wp0 rfl rfl ?_
      refine wp2b rfl rfl (fun c2 => ?_) (fun c2 => ?_)
      · refine wp1 rfl rfl ?_
        refine wpV (lv' := [(0, .long l0), (2, .int (l2 + (-1)))]) rfl ?_
        refine wp2 rfl rfl ?_
        exact wpL rfl rfl (ih hJ (l0) ((l2 + (-1))) (i32_downe c1 hm))
      · exact wpL rfl rfl (sb_22_23 hJ (l2))
set_option maxRecDepth 20000 in
theorem sb_22_0 {s : cs} {mc : am_H} {D : List pgT} (hJ : J s mc D) (l0 : Int64)  : tb_wp L xs 22 0 [(0, .long l0)] [] (HH s mc D) (SI mc) := by
  refine wp0 rfl rfl ?_
  refine wp1 rfl rfl ?_
  refine wpV (lv' := [(0, .long l0), (2, .int 63)]) rfl ?_
  exact wpL rfl rfl (sb_22_3 _ hJ (l0) (63) (Nat.lt_succ_self _))
theorem sf_22 {s : cs} {mc : am_H} {D : List pgT} (hJ : J s mc D) (l0 : Int64)  : tb_wp L xs 22 0 (lv_args 0 [.long l0]) [] (HH s mc D) (SI mc) := sb_22_0 hJ l0
/- 23: FlagMachine$Bits.lowestBit(J)I -/
set_option maxRecDepth 20000 in
theorem sb_23_24 {s : cs} {mc : am_H} {D : List pgT} (hJ : J s mc D) (l2 : Int32) (hn_l2 : 0 ≤ Int32.toInt l2) : tb_wp L xs 23 24 [(2, .int l2)] [] (HH s mc D) (SI mc) := by
  refine wp1 rfl rfl ?_
  exact wp5i rfl rfl ⟨_, _, hJ, rfl, _, rfl⟩
set_option maxRecDepth 20000 in
theorem sb_23_2 (n : Nat) : ∀ {s : cs} {mc : am_H} {D : List pgT} (hJ : J s mc D) (l0 : Int64) (l2 : Int32) (hn_l2 : 0 ≤ Int32.toInt l2) (hm : ((63 : Int32).toInt - (l2 : Int32).toInt).toNat < n), tb_wp L xs 23 2 [(0, .long l0), (2, .int l2)] [] (HH s mc D) (SI mc) := by
  induction n with
  | zero => intro s mc D hJ l0 l2 hn_l2 hm; exact absurd hm (Nat.not_lt_zero _)
  | succ n ih =>
    intro s mc D hJ l0 l2 hn_l2 hm
    refine wp1 rfl rfl ?_
    refine wp0 rfl rfl ?_
    refine wp2b rfl rfl (fun c1 => ?_) (fun c1 => ?_)
    · exact wpL rfl rfl (sb_23_24 hJ (l2) hn_l2)
    · refine wp1 rfl rfl ?_
      refine wp1 rfl rfl ?_
      refine wp0 rfl rfl ?_
      refine wp0 rfl rfl ?_
      refine wp0 rfl rfl ?_
      refine wp0 rfl rfl ?_
      refine wp0 rfl rfl ?_
      refine wp2b rfl rfl (fun c2 => ?_) (fun c2 => ?_)
      · refine wp1 rfl rfl ?_
        refine wpV (lv' := [(0, .long l0), (2, .int (l2 + 1))]) rfl ?_
        refine wp2 rfl rfl ?_
        exact wpL rfl rfl (ih hJ (l0) ((l2 + 1)) (i32_upp c1 hn_l2) (i32_up c1 hm))
      · exact wpL rfl rfl (sb_23_24 hJ (l2) hn_l2)
set_option maxRecDepth 20000 in
theorem sb_23_0 {s : cs} {mc : am_H} {D : List pgT} (hJ : J s mc D) (l0 : Int64)  : tb_wp L xs 23 0 [(0, .long l0)] [] (HH s mc D) (SI mc) := by
  refine wp0 rfl rfl ?_
  refine wp1 rfl rfl ?_
  refine wpV (lv' := [(0, .long l0), (2, .int 0)]) rfl ?_
  exact wpL rfl rfl (sb_23_2 _ hJ (l0) (0) (by decide) (Nat.lt_succ_self _))
theorem sf_23 {s : cs} {mc : am_H} {D : List pgT} (hJ : J s mc D) (l0 : Int64)  : tb_wp L xs 23 0 (lv_args 0 [.long l0]) [] (HH s mc D) (SI mc) := sb_23_0 hJ l0
/- 24: FlagMachine$Bits.overflowOfOne(IJJI)Z -/
set_option maxRecDepth 20000 in
theorem sb_24_116 {s : cs} {mc : am_H} {D : List pgT} (hJ : J s mc D) (k0 : Int32) (hb_k0 : b01 k0) : tb_wp L xs 24 116 [] [.int k0] (HH s mc D) (SZ mc) := by
  exact wp5z rfl rfl hb_k0 ⟨_, _, hJ, rfl, _, rfl, hb_k0⟩
set_option maxRecDepth 20000 in
theorem sb_24_101 {s : cs} {mc : am_H} {D : List pgT} (hJ : J s mc D) (k0 : Int32) (hb_k0 : b01 k0) : tb_wp L xs 24 101 [] [.int k0] (HH s mc D) (SZ mc) := by
  exact wp5z rfl rfl hb_k0 ⟨_, _, hJ, rfl, _, rfl, hb_k0⟩
set_option maxRecDepth 20000 in
theorem sb_24_93 {s : cs} {mc : am_H} {D : List pgT} (hJ : J s mc D) (k0 : Int32) (k1 : Int32) (hb_k0 : b01 k0) (hb_k1 : b01 k1) : tb_wp L xs 24 93 [] [.int k1, .int k0] (HH s mc D) (SZ mc) := by
  refine wp2b rfl rfl (fun c1 => ?_) (fun c1 => ?_)
  · refine wp0 rfl rfl ?_
    exact wpL rfl rfl (sb_24_101 hJ (0) b0)
  · refine wp0 rfl rfl ?_
    refine wp2 rfl rfl ?_
    exact wpL rfl rfl (sb_24_101 hJ (1) b1)
set_option maxRecDepth 20000 in
theorem sb_24_73 {s : cs} {mc : am_H} {D : List pgT} (hJ : J s mc D) (k0 : Int32) (hb_k0 : b01 k0) : tb_wp L xs 24 73 [] [.int k0] (HH s mc D) (SZ mc) := by
  exact wp5z rfl rfl hb_k0 ⟨_, _, hJ, rfl, _, rfl, hb_k0⟩
set_option maxRecDepth 20000 in
theorem sb_24_22 {s : cs} {mc : am_H} {D : List pgT} (hJ : J s mc D) (l1 : Int32) (l2 : Int64) (l4 : Int64) (l7 : Int64) (k0 : Int32) (hb_k0 : b01 k0) : tb_wp L xs 24 22 [(0, .ref 17), (1, .int l1), (2, .long l2), (4, .long l4), (7, .long l7)] [.int k0] (HH s mc D) (SZ mc) := by
  refine wp1 rfl rfl ?_
  refine wpV (lv' := [(0, .ref 17), (1, .int l1), (2, .long l2), (4, .long l4), (7, .long l7), (9, .int k0)]) rfl ?_
  refine wp1 rfl rfl ?_
  refine wp2s [56, 74, 102, 117] rfl rfl rfl rfl (am_fa1 ?_ (am_fa1 ?_ (am_fa1 ?_ (am_fa1 ?_ (am_fa0)))))
  · refine wp1 rfl rfl ?_
    refine wp3 rfl (am_getf rfl rfl) ?_
    refine wp3 rfl (am_getf rfl rfl) ?_
    refine wp1 rfl rfl ?_
    refine wp2b rfl rfl (fun c2 => ?_) (fun c2 => ?_)
    · refine wp0 rfl rfl ?_
      exact wpL rfl rfl (sb_24_73 hJ (0) b0)
    · refine wp0 rfl rfl ?_
      refine wp2 rfl rfl ?_
      exact wpL rfl rfl (sb_24_73 hJ (1) b1)
  · refine wp1 rfl rfl ?_
    refine wp1 rfl rfl ?_
    refine wp1 rfl rfl ?_
    refine wp0 rfl rfl ?_
    refine wp0 rfl rfl ?_
    refine wp0 rfl rfl ?_
    refine wp0 rfl rfl ?_
    refine wp0 rfl rfl ?_
    refine wp2b rfl rfl (fun c3 => ?_) (fun c3 => ?_)
    · refine wp0 rfl rfl ?_
      exact wpL rfl rfl (sb_24_93 hJ (k0) (0) hb_k0 b0)
    · refine wp0 rfl rfl ?_
      refine wp2 rfl rfl ?_
      exact wpL rfl rfl (sb_24_93 hJ (k0) (1) hb_k0 b1)
  · refine wp1 rfl rfl ?_
    refine wp1 rfl rfl ?_
    refine wp0 rfl rfl ?_
    refine wp0 rfl rfl ?_
    refine wp0 rfl rfl ?_
    refine wp2b rfl rfl (fun c4 => ?_) (fun c4 => ?_)
    · refine wp0 rfl rfl ?_
      exact wpL rfl rfl (sb_24_116 hJ (0) b0)
    · refine wp0 rfl rfl ?_
      refine wp2 rfl rfl ?_
      exact wpL rfl rfl (sb_24_116 hJ (1) b1)
  · refine wp0 rfl rfl ?_
    exact wp5z rfl rfl b0 ⟨_, _, hJ, rfl, _, rfl, b0⟩
set_option maxRecDepth 20000 in
theorem sb_24_0 {s : cs} {mc : am_H} {D : List pgT} (hJ : J s mc D) (l1 : Int32) (l2 : Int64) (l4 : Int64) (l6 : Int32)  : tb_wp L xs 24 0 [(0, .ref 17), (1, .int l1), (2, .long l2), (4, .long l4), (6, .int l6)] [] (HH s mc D) (SZ mc) := by
  refine wp1 rfl rfl ?_
  refine wp4 rfl rfl (sf_19 hJ (l6)) (fun rv h1 hq => ?_)
  obtain ⟨s6, D7, hJ8, rfl, x9, rfl⟩ := hq
  refine wp1 rfl rfl ?_
  refine wpV (lv' := [(0, .ref 17), (1, .int l1), (2, .long l2), (4, .long l4), (6, .int l6), (7, .long x9)]) rfl ?_
  refine wp1 rfl rfl ?_
  refine wp1 rfl rfl ?_
  refine wp0 rfl rfl ?_
  refine wp0 rfl rfl ?_
  refine wp0 rfl rfl ?_
  refine wp2b rfl rfl (fun c10 => ?_) (fun c10 => ?_)
  · refine wp0 rfl rfl ?_
    exact wpL rfl rfl (sb_24_22 hJ8 (l1) (l2) (l4) (x9) (0) b0)
  · refine wp0 rfl rfl ?_
    refine wp2 rfl rfl ?_
    exact wpL rfl rfl (sb_24_22 hJ8 (l1) (l2) (l4) (x9) (1) b1)
theorem sf_24 {s : cs} {mc : am_H} {D : List pgT} (hJ : J s mc D) (l1 : Int32) (l2 : Int64) (l4 : Int64) (l6 : Int32)  : tb_wp L xs 24 0 (lv_args 0 [.ref 17, .int l1, .long l2, .long l4, .int l6]) [] (HH s mc D) (SZ mc) := sb_24_0 hJ l1 l2 l4 l6
/- 28: FlagMachine$Bits.shiftOnce(IJI)J -/
set_option maxRecDepth 20000 in
theorem sb_28_78 {s : cs} {mc : am_H} {D : List pgT} (hJ : J s mc D) (k0 : Int64) (k1 : Int64)  : tb_wp L xs 28 78 [] [.long k1, .long k0] (HH s mc D) (SJ mc) := by
  refine wp0 rfl rfl ?_
  exact wp5 rfl rfl ⟨_, _, hJ, rfl, _, rfl⟩
set_option maxRecDepth 20000 in
theorem sb_28_58 {s : cs} {mc : am_H} {D : List pgT} (hJ : J s mc D) (k0 : Int64) (k1 : Int32) (hb_k1 : b01 k1) : tb_wp L xs 28 58 [] [.int k1, .long k0] (HH s mc D) (SJ mc) := by
  refine wp0 rfl rfl ?_
  refine wp0 rfl rfl ?_
  exact wp5 rfl rfl ⟨_, _, hJ, rfl, _, rfl⟩
set_option maxRecDepth 20000 in
theorem sb_28_0 {s : cs} {mc : am_H} {D : List pgT} (hJ : J s mc D) (l0 : Int32) (l1 : Int64) (l3 : Int32)  : tb_wp L xs 28 0 [(0, .int l0), (1, .long l1), (3, .int l3)] [] (HH s mc D) (SJ mc) := by
  refine wp1 rfl rfl ?_
  refine wp4 rfl rfl (sf_19 hJ (l3)) (fun rv h1 hq => ?_)
  obtain ⟨s2, D3, hJ4, rfl, x5, rfl⟩ := hq
  refine wp1 rfl rfl ?_
  refine wpV (lv' := [(0, .int l0), (1, .long l1), (3, .int l3), (4, .long x5)]) rfl ?_
  refine wp1 rfl rfl ?_
  refine wp2s [36, 61, 80, 89, 93] rfl rfl rfl rfl (am_fa1 ?_ (am_fa1 ?_ (am_fa1 ?_ (am_fa1 ?_ (am_fa1 ?_ (am_fa0))))))
  · refine wp1 rfl rfl ?_
    refine wp0 rfl rfl ?_
    refine wp0 rfl rfl ?_
    refine wp1 rfl rfl ?_
    refine wp4 rfl rfl (sf_7 hJ4 (l3)) (fun rv h1 hq => ?_)
    obtain ⟨s7, D8, hJ9, rfl, x10, rfl⟩ := hq
    refine wp0 rfl rfl ?_
    refine wp1 rfl rfl ?_
    refine wp1 rfl rfl ?_
    refine wp0 rfl rfl ?_
    refine wp0 rfl rfl ?_
    refine wp0 rfl rfl ?_
    refine wp2b rfl rfl (fun c11 => ?_) (fun c11 => ?_)
    · refine wp0 rfl rfl ?_
      exact wpL rfl rfl (sb_28_58 hJ9 (((l1 <<< (Int32.toInt64 1 &&& 63)) &&& x10)) (0) b0)
    · refine wp0 rfl rfl ?_
      refine wp2 rfl rfl ?_
      exact wpL rfl rfl (sb_28_58 hJ9 (((l1 <<< (Int32.toInt64 1 &&& 63)) &&& x10)) (1) b1)
  · refine wp1 rfl rfl ?_
    refine wp0 rfl rfl ?_
    refine wp0 rfl rfl ?_
    refine wp1 rfl rfl ?_
    refine wp0 rfl rfl ?_
    refine wp0 rfl rfl ?_
    refine wp0 rfl rfl ?_
    refine wp0 rfl rfl ?_
    refine wp2b rfl rfl (fun c12 => ?_) (fun c12 => ?_)
    · refine wp0 rfl rfl ?_
      exact wpL rfl rfl (sb_28_78 hJ4 (((Int64.toUInt64 l1 >>> ((Int32.toInt64 1).toUInt64 &&& Int64.toUInt64 63)).toInt64)) (0))
    · refine wp1 rfl rfl ?_
      refine wp2 rfl rfl ?_
      exact wpL rfl rfl (sb_28_78 hJ4 (((Int64.toUInt64 l1 >>> ((Int32.toInt64 1).toUInt64 &&& Int64.toUInt64 63)).toInt64)) (x5))
  · refine wp1 rfl rfl ?_
    refine wp0 rfl rfl ?_
    refine wp0 rfl rfl ?_
    refine wp1 rfl rfl ?_
    refine wp4 rfl rfl (sf_7 hJ4 (l3)) (fun rv h1 hq => ?_)
    obtain ⟨s14, D15, hJ16, rfl, x17, rfl⟩ := hq
    refine wp0 rfl rfl ?_
    exact wp5 rfl rfl ⟨_, _, hJ16, rfl, _, rfl⟩
  · refine wp1 rfl rfl ?_
    refine wp0 rfl rfl ?_
    refine wp0 rfl rfl ?_
    exact wp5 rfl rfl ⟨_, _, hJ4, rfl, _, rfl⟩
  · refine wp1 rfl rfl ?_
    refine wp0 rfl rfl ?_
    refine wp0 rfl rfl ?_
    refine wp1 rfl rfl ?_
    refine wp1 rfl rfl ?_
    refine wp0 rfl rfl ?_
    refine wp0 rfl rfl ?_
    exact wp5 rfl rfl ⟨_, _, hJ4, rfl, _, rfl⟩
theorem sf_28 {s : cs} {mc : am_H} {D : List pgT} (hJ : J s mc D) (l0 : Int32) (l1 : Int64) (l3 : Int32)  : tb_wp L xs 28 0 (lv_args 0 [.int l0, .long l1, .int l3]) [] (HH s mc D) (SJ mc) := sb_28_0 hJ l0 l1 l3
/- 35: FlagMachine$Core.part(II)J -/
set_option maxRecDepth 20000 in
theorem sb_35_0 {s : cs} {mc : am_H} {D : List pgT} (hJ : J s mc D) (l1 : Int32) (l2 : Int32) (hi_l1 : am_in l1 16 = true) : tb_wp L xs 35 0 [(0, .ref 7), (1, .int l1), (2, .int l2)] [] (HH s mc D) (SJ mc) := by
  refine wp1 rfl rfl ?_
  refine wp3 rfl (am_getf rfl rfl) ?_
  refine wp1 rfl rfl ?_
  refine wp3 rfl (am_lald rfl hi_l1) ?_
  refine wp1 rfl rfl ?_
  refine wp4 rfl rfl (sf_7 hJ (l2)) (fun rv h1 hq => ?_)
  obtain ⟨s2, D3, hJ4, rfl, x5, rfl⟩ := hq
  refine wp0 rfl rfl ?_
  exact wp5 rfl rfl ⟨_, _, hJ4, rfl, _, rfl⟩
theorem sf_35 {s : cs} {mc : am_H} {D : List pgT} (hJ : J s mc D) (l1 : Int32) (l2 : Int32) (hi_l1 : am_in l1 16 = true) : tb_wp L xs 35 0 (lv_args 0 [.ref 7, .int l1, .int l2]) [] (HH s mc D) (SJ mc) := sb_35_0 hJ l1 l2 hi_l1
/- 37: FlagMachine$Core.putPart(IIJ)V -/
set_option maxRecDepth 20000 in
theorem sb_37_48 {s : cs} {mc : am_H} {D : List pgT} (hJ : J s mc D)   : tb_wp L xs 37 48 [] [] (HH s mc D) (SV mc) := by
  exact wp5 rfl rfl ⟨_, _, hJ, rfl, rfl⟩
set_option maxRecDepth 20000 in
theorem sb_37_0 {s : cs} {mc : am_H} {D : List pgT} (hJ : J s mc D) (l1 : Int32) (l2 : Int32) (l3 : Int64) (hi_l1 : am_in l1 16 = true) : tb_wp L xs 37 0 [(0, .ref 7), (1, .int l1), (2, .int l2), (3, .long l3)] [] (HH s mc D) (SV mc) := by
  refine wp1 rfl rfl ?_
  refine wp0 rfl rfl ?_
  refine wp2b rfl rfl (fun c1 => ?_) (fun c1 => ?_)
  · refine wp1 rfl rfl ?_
    refine wp3 rfl (am_getf rfl rfl) ?_
    refine wp1 rfl rfl ?_
    refine wp1 rfl rfl ?_
    refine wp3 rfl (am_getf rfl rfl) ?_
    refine wp1 rfl rfl ?_
    refine wp3 rfl (am_lald rfl hi_l1) ?_
    refine wp1 rfl rfl ?_
    refine wp4 rfl rfl (sf_7 hJ (l2)) (fun rv h1 hq => ?_)
    obtain ⟨s3, D4, hJ5, rfl, x6, rfl⟩ := hq
    refine wp0 rfl rfl ?_
    refine wp0 rfl rfl ?_
    refine wp0 rfl rfl ?_
    refine wp1 rfl rfl ?_
    refine wp1 rfl rfl ?_
    refine wp4 rfl rfl (sf_7 hJ5 (l2)) (fun rv h1 hq => ?_)
    obtain ⟨s8, D9, hJ10, rfl, x11, rfl⟩ := hq
    refine wp0 rfl rfl ?_
    refine wp0 rfl rfl ?_
    refine wp3 rfl (am_last rfl hi_l1) ?_
    have hJ12 : J (s_regs s8 (vp_updL (g_regs s8) (Int32.toNatClampNeg l1) (((g_regs s (Int32.toNatClampNeg l1)) &&& (x6 ^^^ (-1))) ||| (l3 &&& x11)))) mc D9 := hJ10
    refine wpH (h' := HH (s_regs s8 (vp_updL (g_regs s8) (Int32.toNatClampNeg l1) (((g_regs s (Int32.toNatClampNeg l1)) &&& (x6 ^^^ (-1))) ||| (l3 &&& x11)))) mc D9) rfl ?_
    exact wpL rfl rfl (sb_37_48 hJ12 )
  · refine wp1 rfl rfl ?_
    refine wp3 rfl (am_getf rfl rfl) ?_
    refine wp1 rfl rfl ?_
    refine wp1 rfl rfl ?_
    refine wp1 rfl rfl ?_
    refine wp4 rfl rfl (sf_7 hJ (l2)) (fun rv h1 hq => ?_)
    obtain ⟨s14, D15, hJ16, rfl, x17, rfl⟩ := hq
    refine wp0 rfl rfl ?_
    refine wp3 rfl (am_last rfl hi_l1) ?_
    have hJ18 : J (s_regs s14 (vp_updL (g_regs s14) (Int32.toNatClampNeg l1) (l3 &&& x17))) mc D15 := hJ16
    refine wpH (h' := HH (s_regs s14 (vp_updL (g_regs s14) (Int32.toNatClampNeg l1) (l3 &&& x17))) mc D15) rfl ?_
    refine wp2 rfl rfl ?_
    exact wpL rfl rfl (sb_37_48 hJ18 )
theorem sf_37 {s : cs} {mc : am_H} {D : List pgT} (hJ : J s mc D) (l1 : Int32) (l2 : Int32) (l3 : Int64) (hi_l1 : am_in l1 16 = true) : tb_wp L xs 37 0 (lv_args 0 [.ref 7, .int l1, .int l2, .long l3]) [] (HH s mc D) (SV mc) := sb_37_0 hJ l1 l2 l3 hi_l1
/- 38: FlagMachine$Core.registerOrZero(I)J -/
set_option maxRecDepth 20000 in
theorem sb_38_23 {s : cs} {mc : am_H} {D : List pgT} (hJ : J s mc D) (k0 : Int64)  : tb_wp L xs 38 23 [] [.long k0] (HH s mc D) (SJ mc) := by
  exact wp5 rfl rfl ⟨_, _, hJ, rfl, _, rfl⟩
set_option maxRecDepth 20000 in
theorem sb_38_22 {s : cs} {mc : am_H} {D : List pgT} (hJ : J s mc D)   : tb_wp L xs 38 22 [] [] (HH s mc D) (SJ mc) := by
  refine wp0 rfl rfl ?_
  exact wpL rfl rfl (sb_38_23 hJ (0))
set_option maxRecDepth 20000 in
theorem sb_38_0 {s : cs} {mc : am_H} {D : List pgT} (hJ : J s mc D) (l1 : Int32)  : tb_wp L xs 38 0 [(0, .ref 7), (1, .int l1)] [] (HH s mc D) (SJ mc) := by
  refine wp1 rfl rfl ?_
  refine wp2b rfl rfl (fun c1 => ?_) (fun c1 => ?_)
  · exact wpL rfl rfl (sb_38_22 hJ )
  · refine wp1 rfl rfl ?_
    refine wp1 rfl rfl ?_
    refine wp3 rfl (am_getf rfl rfl) ?_
    refine wp3 rfl (am_alen rfl) ?_
    refine wp2b rfl rfl (fun c2 => ?_) (fun c2 => ?_)
    · exact wpL rfl rfl (sb_38_22 hJ )
    · refine wp1 rfl rfl ?_
      refine wp3 rfl (am_getf rfl rfl) ?_
      refine wp1 rfl rfl ?_
      refine wp3 rfl (am_lald rfl (by simp only [Int32.lt_iff_toInt_lt, Int32.le_iff_toInt_le, ← Int32.toInt_inj] at c1 c2; have e0 : (0 : Int32).toInt = 0 := rfl; have g0 : (Int32.ofNat 0).toInt = 0 := rfl; have e1 : (16 : Int32).toInt = 16 := rfl; have g1 : (Int32.ofNat 16).toInt = 16 := rfl; exact am_in_of (by omega) (by omega))) ?_
      refine wp2 rfl rfl ?_
      exact wpL rfl rfl (sb_38_23 hJ ((g_regs s (Int32.toNatClampNeg l1))))
theorem sf_38 {s : cs} {mc : am_H} {D : List pgT} (hJ : J s mc D) (l1 : Int32)  : tb_wp L xs 38 0 (lv_args 0 [.ref 7, .int l1]) [] (HH s mc D) (SJ mc) := sb_38_0 hJ l1
/- 41: FlagMachine$Core.stopWith(IJ)V -/
set_option maxRecDepth 20000 in
theorem sb_41_0 {s : cs} {mc : am_H} {D : List pgT} (hJ : J s mc D) (l1 : Int32) (l2 : Int64)  : tb_wp L xs 41 0 [(0, .ref 7), (1, .int l1), (2, .long l2)] [] (HH s mc D) (SV mc) := by
  refine wp1 rfl rfl ?_
  refine wp1 rfl rfl ?_
  refine wp3 rfl (am_putf rfl (Nat.le_of_ble_eq_true rfl) rfl rfl) ?_
  have hJ1 : J (s_stop s l1) mc D := hJ
  refine wpH (h' := HH (s_stop s l1) mc D) rfl ?_
  refine wp1 rfl rfl ?_
  refine wp1 rfl rfl ?_
  refine wp3 rfl (am_putf rfl (Nat.le_of_ble_eq_true rfl) rfl rfl) ?_
  have hJ2 : J (s_stopv (s_stop s l1) l2) mc D := hJ1
  refine wpH (h' := HH (s_stopv (s_stop s l1) l2) mc D) rfl ?_
  exact wp5 rfl rfl ⟨_, _, hJ2, rfl, rfl⟩
theorem sf_41 {s : cs} {mc : am_H} {D : List pgT} (hJ : J s mc D) (l1 : Int32) (l2 : Int64)  : tb_wp L xs 41 0 (lv_args 0 [.ref 7, .int l1, .long l2]) [] (HH s mc D) (SV mc) := sb_41_0 hJ l1 l2
/- 44: FlagMachine$Flags.asWord()J -/
set_option maxRecDepth 20000 in
theorem sb_44_70 {s : cs} {mc : am_H} {D : List pgT} (hJ : J s mc D) (k0 : Int32) (k1 : Int32) (hn_k1 : 0 ≤ Int32.toInt k1) : tb_wp L xs 44 70 [] [.int k1, .int k0] (HH s mc D) (SJ mc) := by
  refine wp0 rfl rfl ?_
  refine wp0 rfl rfl ?_
  exact wp5 rfl rfl ⟨_, _, hJ, rfl, _, rfl⟩
set_option maxRecDepth 20000 in
theorem sb_44_55 {s : cs} {mc : am_H} {D : List pgT} (hJ : J s mc D) (k0 : Int32) (k1 : Int32) (hn_k1 : 0 ≤ Int32.toInt k1) : tb_wp L xs 44 55 [(0, .ref 9)] [.int k1, .int k0] (HH s mc D) (SJ mc) := by
  refine wp0 rfl rfl ?_
  refine wp1 rfl rfl ?_
  refine wp3 rfl (am_getf rfl rfl) ?_
  refine wp2b rfl rfl (fun c1 => ?_) (fun c1 => ?_)
  · refine wp0 rfl rfl ?_
    exact wpL rfl rfl (sb_44_70 hJ ((k0 + k1)) (0) (by decide))
  · refine wp0 rfl rfl ?_
    refine wp2 rfl rfl ?_
    exact wpL rfl rfl (sb_44_70 hJ ((k0 + k1)) (2048) (by decide))
set_option maxRecDepth 20000 in
theorem sb_44_40 {s : cs} {mc : am_H} {D : List pgT} (hJ : J s mc D) (k0 : Int32) (k1 : Int32) (hn_k1 : 0 ≤ Int32.toInt k1) : tb_wp L xs 44 40 [(0, .ref 9)] [.int k1, .int k0] (HH s mc D) (SJ mc) := by
  refine wp0 rfl rfl ?_
  refine wp1 rfl rfl ?_
  refine wp3 rfl (am_getf rfl rfl) ?_
  refine wp2b rfl rfl (fun c2 => ?_) (fun c2 => ?_)
  · refine wp0 rfl rfl ?_
    exact wpL rfl rfl (sb_44_55 hJ ((k0 + k1)) (0) (by decide))
  · refine wp0 rfl rfl ?_
    refine wp2 rfl rfl ?_
    exact wpL rfl rfl (sb_44_55 hJ ((k0 + k1)) (128) (by decide))
set_option maxRecDepth 20000 in
theorem sb_44_26 {s : cs} {mc : am_H} {D : List pgT} (hJ : J s mc D) (k0 : Int32) (k1 : Int32) (hn_k1 : 0 ≤ Int32.toInt k1) : tb_wp L xs 44 26 [(0, .ref 9)] [.int k1, .int k0] (HH s mc D) (SJ mc) := by
  refine wp0 rfl rfl ?_
  refine wp1 rfl rfl ?_
  refine wp3 rfl (am_getf rfl rfl) ?_
  refine wp2b rfl rfl (fun c3 => ?_) (fun c3 => ?_)
  · refine wp0 rfl rfl ?_
    exact wpL rfl rfl (sb_44_40 hJ ((k0 + k1)) (0) (by decide))
  · refine wp0 rfl rfl ?_
    refine wp2 rfl rfl ?_
    exact wpL rfl rfl (sb_44_40 hJ ((k0 + k1)) (64) (by decide))
set_option maxRecDepth 20000 in
theorem sb_44_13 {s : cs} {mc : am_H} {D : List pgT} (hJ : J s mc D) (k1 : Int32) (hb_k1 : b01 k1) : tb_wp L xs 44 13 [(0, .ref 9)] [.int k1, .int 2] (HH s mc D) (SJ mc) := by
  refine wp0 rfl rfl ?_
  refine wp1 rfl rfl ?_
  refine wp3 rfl (am_getf rfl rfl) ?_
  refine wp2b rfl rfl (fun c4 => ?_) (fun c4 => ?_)
  · refine wp0 rfl rfl ?_
    exact wpL rfl rfl (sb_44_26 hJ ((2 + k1)) (0) (by decide))
  · refine wp0 rfl rfl ?_
    refine wp2 rfl rfl ?_
    exact wpL rfl rfl (sb_44_26 hJ ((2 + k1)) (4) (by decide))
set_option maxRecDepth 20000 in
theorem sb_44_0 {s : cs} {mc : am_H} {D : List pgT} (hJ : J s mc D)   : tb_wp L xs 44 0 [(0, .ref 9)] [] (HH s mc D) (SJ mc) := by
  refine wp0 rfl rfl ?_
  refine wp1 rfl rfl ?_
  refine wp3 rfl (am_getf rfl rfl) ?_
  refine wp2b rfl rfl (fun c5 => ?_) (fun c5 => ?_)
  · refine wp0 rfl rfl ?_
    exact wpL rfl rfl (sb_44_13 hJ (0) b0)
  · refine wp0 rfl rfl ?_
    refine wp2 rfl rfl ?_
    exact wpL rfl rfl (sb_44_13 hJ (1) b1)
theorem sf_44 {s : cs} {mc : am_H} {D : List pgT} (hJ : J s mc D)   : tb_wp L xs 44 0 (lv_args 0 [.ref 9]) [] (HH s mc D) (SJ mc) := sb_44_0 hJ 
/- 45: FlagMachine$Flags.clear()V -/
set_option maxRecDepth 20000 in
theorem sb_45_0 {s : cs} {mc : am_H} {D : List pgT} (hJ : J s mc D)   : tb_wp L xs 45 0 [(0, .ref 9)] [] (HH s mc D) (SV mc) := by
  refine wp1 rfl rfl ?_
  refine wp0 rfl rfl ?_
  refine wp3 rfl (am_putf rfl (Nat.le_of_ble_eq_true rfl) (b01_nar b0) (b01_fit b0)) ?_
  have hJ1 := J_carry hJ b0
  refine wpH (h' := HH (s_carry s 0) mc D) rfl ?_
  refine wp1 rfl rfl ?_
  refine wp0 rfl rfl ?_
  refine wp3 rfl (am_putf rfl (Nat.le_of_ble_eq_true rfl) (b01_nar b0) (b01_fit b0)) ?_
  have hJ2 := J_parity hJ1 b0
  refine wpH (h' := HH (s_parity (s_carry s 0) 0) mc D) rfl ?_
  refine wp1 rfl rfl ?_
  refine wp0 rfl rfl ?_
  refine wp3 rfl (am_putf rfl (Nat.le_of_ble_eq_true rfl) (b01_nar b0) (b01_fit b0)) ?_
  have hJ3 := J_zero hJ2 b0
  refine wpH (h' := HH (s_zero (s_parity (s_carry s 0) 0) 0) mc D) rfl ?_
  refine wp1 rfl rfl ?_
  refine wp0 rfl rfl ?_
  refine wp3 rfl (am_putf rfl (Nat.le_of_ble_eq_true rfl) (b01_nar b0) (b01_fit b0)) ?_
  have hJ4 := J_sign hJ3 b0
  refine wpH (h' := HH (s_sign (s_zero (s_parity (s_carry s 0) 0) 0) 0) mc D) rfl ?_
  refine wp1 rfl rfl ?_
  refine wp0 rfl rfl ?_
  refine wp3 rfl (am_putf rfl (Nat.le_of_ble_eq_true rfl) (b01_nar b0) (b01_fit b0)) ?_
  have hJ5 := J_over hJ4 b0
  refine wpH (h' := HH (s_over (s_sign (s_zero (s_parity (s_carry s 0) 0) 0) 0) 0) mc D) rfl ?_
  exact wp5 rfl rfl ⟨_, _, hJ5, rfl, rfl⟩
theorem sf_45 {s : cs} {mc : am_H} {D : List pgT} (hJ : J s mc D)   : tb_wp L xs 45 0 (lv_args 0 [.ref 9]) [] (HH s mc D) (SV mc) := sb_45_0 hJ 
/- 47: FlagMachine$Flags.pairHolds(I)Z -/
set_option maxRecDepth 20000 in
theorem sb_47_129 {s : cs} {mc : am_H} {D : List pgT} (hJ : J s mc D) (k0 : Int32) (hb_k0 : b01 k0) : tb_wp L xs 47 129 [] [.int k0] (HH s mc D) (SZ mc) := by
  exact wp5z rfl rfl hb_k0 ⟨_, _, hJ, rfl, _, rfl, hb_k0⟩
set_option maxRecDepth 20000 in
theorem sb_47_124 {s : cs} {mc : am_H} {D : List pgT} (hJ : J s mc D)   : tb_wp L xs 47 124 [] [] (HH s mc D) (SZ mc) := by
  refine wp0 rfl rfl ?_
  refine wp2 rfl rfl ?_
  exact wpL rfl rfl (sb_47_129 hJ (1) b1)
set_option maxRecDepth 20000 in
theorem sb_47_105 {s : cs} {mc : am_H} {D : List pgT} (hJ : J s mc D) (k0 : Int32) (hb_k0 : b01 k0) : tb_wp L xs 47 105 [] [.int k0] (HH s mc D) (SZ mc) := by
  exact wp5z rfl rfl hb_k0 ⟨_, _, hJ, rfl, _, rfl, hb_k0⟩
set_option maxRecDepth 20000 in
theorem sb_47_78 {s : cs} {mc : am_H} {D : List pgT} (hJ : J s mc D) (k0 : Int32) (hb_k0 : b01 k0) : tb_wp L xs 47 78 [] [.int k0] (HH s mc D) (SZ mc) := by
  exact wp5z rfl rfl hb_k0 ⟨_, _, hJ, rfl, _, rfl, hb_k0⟩
set_option maxRecDepth 20000 in
theorem sb_47_73 {s : cs} {mc : am_H} {D : List pgT} (hJ : J s mc D)   : tb_wp L xs 47 73 [] [] (HH s mc D) (SZ mc) := by
  refine wp0 rfl rfl ?_
  refine wp2 rfl rfl ?_
  exact wpL rfl rfl (sb_47_78 hJ (1) b1)
set_option maxRecDepth 20000 in
theorem sb_47_0 {s : cs} {mc : am_H} {D : List pgT} (hJ : J s mc D) (l1 : Int32)  : tb_wp L xs 47 0 [(0, .ref 9), (1, .int l1)] [] (HH s mc D) (SZ mc) := by
  refine wp1 rfl rfl ?_
  refine wp2s [44, 49, 54, 59, 79, 84, 89, 106] rfl rfl rfl rfl (am_fa1 ?_ (am_fa1 ?_ (am_fa1 ?_ (am_fa1 ?_ (am_fa1 ?_ (am_fa1 ?_ (am_fa1 ?_ (am_fa1 ?_ (am_fa0)))))))))
  · refine wp1 rfl rfl ?_
    refine wp3 rfl (am_getf rfl rfl) ?_
    exact wp5z rfl rfl hJ.2.2.2.2.2.1 ⟨_, _, hJ, rfl, _, rfl, hJ.2.2.2.2.2.1⟩
  · refine wp1 rfl rfl ?_
    refine wp3 rfl (am_getf rfl rfl) ?_
    exact wp5z rfl rfl hJ.2.1 ⟨_, _, hJ, rfl, _, rfl, hJ.2.1⟩
  · refine wp1 rfl rfl ?_
    refine wp3 rfl (am_getf rfl rfl) ?_
    exact wp5z rfl rfl hJ.2.2.2.1 ⟨_, _, hJ, rfl, _, rfl, hJ.2.2.2.1⟩
  · refine wp1 rfl rfl ?_
    refine wp3 rfl (am_getf rfl rfl) ?_
    refine wp2b rfl rfl (fun c1 => ?_) (fun c1 => ?_)
    · refine wp1 rfl rfl ?_
      refine wp3 rfl (am_getf rfl rfl) ?_
      refine wp2b rfl rfl (fun c2 => ?_) (fun c2 => ?_)
      · refine wp0 rfl rfl ?_
        exact wpL rfl rfl (sb_47_78 hJ (0) b0)
      · exact wpL rfl rfl (sb_47_73 hJ )
    · exact wpL rfl rfl (sb_47_73 hJ )
  · refine wp1 rfl rfl ?_
    refine wp3 rfl (am_getf rfl rfl) ?_
    exact wp5z rfl rfl hJ.2.2.2.2.1 ⟨_, _, hJ, rfl, _, rfl, hJ.2.2.2.2.1⟩
  · refine wp1 rfl rfl ?_
    refine wp3 rfl (am_getf rfl rfl) ?_
    exact wp5z rfl rfl hJ.2.2.1 ⟨_, _, hJ, rfl, _, rfl, hJ.2.2.1⟩
  · refine wp1 rfl rfl ?_
    refine wp3 rfl (am_getf rfl rfl) ?_
    refine wp1 rfl rfl ?_
    refine wp3 rfl (am_getf rfl rfl) ?_
    refine wp2b rfl rfl (fun c3 => ?_) (fun c3 => ?_)
    · refine wp0 rfl rfl ?_
      exact wpL rfl rfl (sb_47_105 hJ (0) b0)
    · refine wp0 rfl rfl ?_
      refine wp2 rfl rfl ?_
      exact wpL rfl rfl (sb_47_105 hJ (1) b1)
  · refine wp1 rfl rfl ?_
    refine wp3 rfl (am_getf rfl rfl) ?_
    refine wp2b rfl rfl (fun c4 => ?_) (fun c4 => ?_)
    · refine wp1 rfl rfl ?_
      refine wp3 rfl (am_getf rfl rfl) ?_
      refine wp1 rfl rfl ?_
      refine wp3 rfl (am_getf rfl rfl) ?_
      refine wp2b rfl rfl (fun c5 => ?_) (fun c5 => ?_)
      · refine wp0 rfl rfl ?_
        exact wpL rfl rfl (sb_47_129 hJ (0) b0)
      · exact wpL rfl rfl (sb_47_124 hJ )
    · exact wpL rfl rfl (sb_47_124 hJ )
theorem sf_47 {s : cs} {mc : am_H} {D : List pgT} (hJ : J s mc D) (l1 : Int32)  : tb_wp L xs 47 0 (lv_args 0 [.ref 9, .int l1]) [] (HH s mc D) (SZ mc) := sb_47_0 hJ l1
/- 50: FlagMachine$Flags.tellOversize(Z)V -/
set_option maxRecDepth 20000 in
theorem sb_50_0 {s : cs} {mc : am_H} {D : List pgT} (hJ : J s mc D) (l1 : Int32) (hb_l1 : b01 l1) : tb_wp L xs 50 0 [(0, .ref 9), (1, .int l1)] [] (HH s mc D) (SV mc) := by
  refine wp1 rfl rfl ?_
  refine wp1 rfl rfl ?_
  refine wp3 rfl (am_putf rfl (Nat.le_of_ble_eq_true rfl) (b01_nar hb_l1) (b01_fit hb_l1)) ?_
  have hJ1 := J_carry hJ hb_l1
  refine wpH (h' := HH (s_carry s l1) mc D) rfl ?_
  refine wp1 rfl rfl ?_
  refine wp1 rfl rfl ?_
  refine wp3 rfl (am_putf rfl (Nat.le_of_ble_eq_true rfl) (b01_nar hb_l1) (b01_fit hb_l1)) ?_
  have hJ2 := J_over hJ1 hb_l1
  refine wpH (h' := HH (s_over (s_carry s l1) l1) mc D) rfl ?_
  exact wp5 rfl rfl ⟨_, _, hJ2, rfl, rfl⟩
theorem sf_50 {s : cs} {mc : am_H} {D : List pgT} (hJ : J s mc D) (l1 : Int32) (hb_l1 : b01 l1) : tb_wp L xs 50 0 (lv_args 0 [.ref 9, .int l1]) [] (HH s mc D) (SV mc) := sb_50_0 hJ l1 hb_l1
/- 54: FlagMachine$Instruction.conditionFits()Z -/
set_option maxRecDepth 20000 in
theorem sb_54_53 {s : cs} {mc : am_H} {D : List pgT} (hJ : J s mc D) (k0 : Int32) (hb_k0 : b01 k0) : tb_wp L xs 54 53 [] [.int k0] (HH s mc D) (SZ mc) := by
  exact wp5z rfl rfl hb_k0 ⟨_, _, hJ, rfl, _, rfl, hb_k0⟩
set_option maxRecDepth 20000 in
theorem sb_54_52 {s : cs} {mc : am_H} {D : List pgT} (hJ : J s mc D)   : tb_wp L xs 54 52 [] [] (HH s mc D) (SZ mc) := by
  refine wp0 rfl rfl ?_
  exact wpL rfl rfl (sb_54_53 hJ (0) b0)
set_option maxRecDepth 20000 in
theorem sb_54_45 {s : cs} {mc : am_H} {D : List pgT} (hJ : J s mc D) (k0 : Int32) (k1 : Int32) (hn_k1 : 0 ≤ Int32.toInt k1) : tb_wp L xs 54 45 [] [.int k1, .int k0] (HH s mc D) (SZ mc) := by
  refine wp2b rfl rfl (fun c1 => ?_) (fun c1 => ?_)
  · exact wpL rfl rfl (sb_54_52 hJ )
  · refine wp0 rfl rfl ?_
    refine wp2 rfl rfl ?_
    exact wpL rfl rfl (sb_54_53 hJ (1) b1)
set_option maxRecDepth 20000 in
theorem sb_54_23 {s : cs} {mc : am_H} {D : List pgT} (hJ : J s mc D) (k0 : Int32) (hb_k0 : b01 k0) : tb_wp L xs 54 23 [(0, .ref 2)] [.int k0] (HH s mc D) (SZ mc) := by
  refine wp1 rfl rfl ?_
  refine wpV (lv' := [(0, .ref 2), (1, .int k0)]) rfl ?_
  refine wp1 rfl rfl ?_
  refine wp3 rfl (am_getf rfl rfl) ?_
  refine wp2b rfl rfl (fun c2 => ?_) (fun c2 => ?_)
  · exact wpL rfl rfl (sb_54_52 hJ )
  · refine wp1 rfl rfl ?_
    refine wp3 rfl (am_getf rfl rfl) ?_
    refine wp1 rfl rfl ?_
    refine wp2b rfl rfl (fun c3 => ?_) (fun c3 => ?_)
    · refine wp0 rfl rfl ?_
      exact wpL rfl rfl (sb_54_45 hJ ((g_condition s)) (0) (by decide))
    · refine wp0 rfl rfl ?_
      refine wp2 rfl rfl ?_
      exact wpL rfl rfl (sb_54_45 hJ ((g_condition s)) (15) (by decide))
set_option maxRecDepth 20000 in
theorem sb_54_22 {s : cs} {mc : am_H} {D : List pgT} (hJ : J s mc D)   : tb_wp L xs 54 22 [(0, .ref 2)] [] (HH s mc D) (SZ mc) := by
  refine wp0 rfl rfl ?_
  exact wpL rfl rfl (sb_54_23 hJ (0) b0)
set_option maxRecDepth 20000 in
theorem sb_54_0 {s : cs} {mc : am_H} {D : List pgT} (hJ : J s mc D)   : tb_wp L xs 54 0 [(0, .ref 2)] [] (HH s mc D) (SZ mc) := by
  refine wp1 rfl rfl ?_
  refine wp3 rfl (am_getf rfl rfl) ?_
  refine wp0 rfl rfl ?_
  refine wp2b rfl rfl (fun c4 => ?_) (fun c4 => ?_)
  · exact wpL rfl rfl (sb_54_22 hJ )
  · refine wp1 rfl rfl ?_
    refine wp3 rfl (am_getf rfl rfl) ?_
    refine wp0 rfl rfl ?_
    refine wp2b rfl rfl (fun c5 => ?_) (fun c5 => ?_)
    · exact wpL rfl rfl (sb_54_22 hJ )
    · refine wp0 rfl rfl ?_
      refine wp2 rfl rfl ?_
      exact wpL rfl rfl (sb_54_23 hJ (1) b1)
theorem sf_54 {s : cs} {mc : am_H} {D : List pgT} (hJ : J s mc D)   : tb_wp L xs 54 0 (lv_args 0 [.ref 2]) [] (HH s mc D) (SZ mc) := sb_54_0 hJ 
/- 55: FlagMachine$Instruction.has(I)Z -/
set_option maxRecDepth 20000 in
theorem sb_55_35 {s : cs} {mc : am_H} {D : List pgT} (hJ : J s mc D) (k0 : Int32) (hb_k0 : b01 k0) : tb_wp L xs 55 35 [] [.int k0] (HH s mc D) (SZ mc) := by
  exact wp5z rfl rfl hb_k0 ⟨_, _, hJ, rfl, _, rfl, hb_k0⟩
set_option maxRecDepth 20000 in
theorem sb_55_30 {s : cs} {mc : am_H} {D : List pgT} (hJ : J s mc D)   : tb_wp L xs 55 30 [] [] (HH s mc D) (SZ mc) := by
  refine wp0 rfl rfl ?_
  refine wp2 rfl rfl ?_
  exact wpL rfl rfl (sb_55_35 hJ (1) b1)
set_option maxRecDepth 20000 in
theorem sb_55_0 {s : cs} {mc : am_H} {D : List pgT} (hJ : J s mc D) (l1 : Int32)  : tb_wp L xs 55 0 [(0, .ref 2), (1, .int l1)] [] (HH s mc D) (SZ mc) := by
  refine wp1 rfl rfl ?_
  refine wp3 rfl (am_getf rfl rfl) ?_
  refine wp0 rfl rfl ?_
  refine wp3 rfl (am_iald rfl (by decide)) ?_
  refine wp1 rfl rfl ?_
  refine wp2b rfl rfl (fun c1 => ?_) (fun c1 => ?_)
  · exact wpL rfl rfl (sb_55_30 hJ )
  · refine wp1 rfl rfl ?_
    refine wp3 rfl (am_getf rfl rfl) ?_
    refine wp0 rfl rfl ?_
    refine wp3 rfl (am_iald rfl (by decide)) ?_
    refine wp1 rfl rfl ?_
    refine wp2b rfl rfl (fun c2 => ?_) (fun c2 => ?_)
    · exact wpL rfl rfl (sb_55_30 hJ )
    · refine wp1 rfl rfl ?_
      refine wp3 rfl (am_getf rfl rfl) ?_
      refine wp0 rfl rfl ?_
      refine wp3 rfl (am_iald rfl (by decide)) ?_
      refine wp1 rfl rfl ?_
      refine wp2b rfl rfl (fun c3 => ?_) (fun c3 => ?_)
      · exact wpL rfl rfl (sb_55_30 hJ )
      · refine wp0 rfl rfl ?_
        exact wpL rfl rfl (sb_55_35 hJ (0) b0)
theorem sf_55 {s : cs} {mc : am_H} {D : List pgT} (hJ : J s mc D) (l1 : Int32)  : tb_wp L xs 55 0 (lv_args 0 [.ref 2, .int l1]) [] (HH s mc D) (SZ mc) := sb_55_0 hJ l1
/- 56: FlagMachine$Instruction.isPlace(I)Z -/
set_option maxRecDepth 20000 in
theorem sb_56_15 {s : cs} {mc : am_H} {D : List pgT} (hJ : J s mc D) (k0 : Int32) (hb_k0 : b01 k0) : tb_wp L xs 56 15 [] [.int k0] (HH s mc D) (SZ mc) := by
  exact wp5z rfl rfl hb_k0 ⟨_, _, hJ, rfl, _, rfl, hb_k0⟩
set_option maxRecDepth 20000 in
theorem sb_56_10 {s : cs} {mc : am_H} {D : List pgT} (hJ : J s mc D)   : tb_wp L xs 56 10 [] [] (HH s mc D) (SZ mc) := by
  refine wp0 rfl rfl ?_
  refine wp2 rfl rfl ?_
  exact wpL rfl rfl (sb_56_15 hJ (1) b1)
set_option maxRecDepth 20000 in
theorem sb_56_0 {s : cs} {mc : am_H} {D : List pgT} (hJ : J s mc D) (l0 : Int32)  : tb_wp L xs 56 0 [(0, .int l0)] [] (HH s mc D) (SZ mc) := by
  refine wp1 rfl rfl ?_
  refine wp0 rfl rfl ?_
  refine wp2b rfl rfl (fun c1 => ?_) (fun c1 => ?_)
  · exact wpL rfl rfl (sb_56_10 hJ )
  · refine wp1 rfl rfl ?_
    refine wp0 rfl rfl ?_
    refine wp2b rfl rfl (fun c2 => ?_) (fun c2 => ?_)
    · exact wpL rfl rfl (sb_56_10 hJ )
    · refine wp0 rfl rfl ?_
      exact wpL rfl rfl (sb_56_15 hJ (0) b0)
theorem sf_56 {s : cs} {mc : am_H} {D : List pgT} (hJ : J s mc D) (l0 : Int32)  : tb_wp L xs 56 0 (lv_args 0 [.int l0]) [] (HH s mc D) (SZ mc) := sb_56_0 hJ l0
/- 58: FlagMachine$Instruction.memoryFits()Z -/
set_option maxRecDepth 20000 in
theorem sb_58_113 {s : cs} {mc : am_H} {D : List pgT} (hJ : J s mc D) (k0 : Int32) (hb_k0 : b01 k0) : tb_wp L xs 58 113 [] [.int k0] (HH s mc D) (SZ mc) := by
  exact wp5z rfl rfl hb_k0 ⟨_, _, hJ, rfl, _, rfl, hb_k0⟩
set_option maxRecDepth 20000 in
theorem sb_58_112 {s : cs} {mc : am_H} {D : List pgT} (hJ : J s mc D)   : tb_wp L xs 58 112 [] [] (HH s mc D) (SZ mc) := by
  refine wp0 rfl rfl ?_
  exact wpL rfl rfl (sb_58_113 hJ (0) b0)
set_option maxRecDepth 20000 in
theorem sb_58_108 {s : cs} {mc : am_H} {D : List pgT} (hJ : J s mc D)   : tb_wp L xs 58 108 [] [] (HH s mc D) (SZ mc) := by
  refine wp0 rfl rfl ?_
  refine wp2 rfl rfl ?_
  exact wpL rfl rfl (sb_58_113 hJ (1) b1)
set_option maxRecDepth 20000 in
theorem sb_58_65 {s : cs} {mc : am_H} {D : List pgT} (hJ : J s mc D) (k0 : Int32) (hb_k0 : b01 k0) : tb_wp L xs 58 65 [] [.int k0] (HH s mc D) (SZ mc) := by
  exact wp5z rfl rfl hb_k0 ⟨_, _, hJ, rfl, _, rfl, hb_k0⟩
set_option maxRecDepth 20000 in
theorem sb_58_42 {s : cs} {mc : am_H} {D : List pgT} (hJ : J s mc D)   : tb_wp L xs 58 42 [] [] (HH s mc D) (SZ mc) := by
  refine wp0 rfl rfl ?_
  exact wp5z rfl rfl b0 ⟨_, _, hJ, rfl, _, rfl, b0⟩
set_option maxRecDepth 20000 in
theorem sb_58_0 {s : cs} {mc : am_H} {D : List pgT} (hJ : J s mc D)   : tb_wp L xs 58 0 [(0, .ref 2)] [] (HH s mc D) (SZ mc) := by
  refine wp1 rfl rfl ?_
  refine wp3 rfl (am_getf rfl rfl) ?_
  refine wp0 rfl rfl ?_
  refine wp2b rfl rfl (fun c1 => ?_) (fun c1 => ?_)
  · exact wpL rfl rfl (sb_58_42 hJ )
  · refine wp1 rfl rfl ?_
    refine wp3 rfl (am_getf rfl rfl) ?_
    refine wp0 rfl rfl ?_
    refine wp2b rfl rfl (fun c2 => ?_) (fun c2 => ?_)
    · exact wpL rfl rfl (sb_58_42 hJ )
    · refine wp1 rfl rfl ?_
      refine wp3 rfl (am_getf rfl rfl) ?_
      refine wp0 rfl rfl ?_
      refine wp2b rfl rfl (fun c3 => ?_) (fun c3 => ?_)
      · exact wpL rfl rfl (sb_58_42 hJ )
      · refine wp1 rfl rfl ?_
        refine wp3 rfl (am_getf rfl rfl) ?_
        refine wp0 rfl rfl ?_
        refine wp2b rfl rfl (fun c4 => ?_) (fun c4 => ?_)
        · exact wpL rfl rfl (sb_58_42 hJ )
        · refine wp1 rfl rfl ?_
          refine wp3 rfl (am_getf rfl rfl) ?_
          refine wp0 rfl rfl ?_
          refine wp2b rfl rfl (fun c5 => ?_) (fun c5 => ?_)
          · exact wpL rfl rfl (sb_58_42 hJ )
          · refine wp1 rfl rfl ?_
            refine wp3 rfl (am_getf rfl rfl) ?_
            refine wp0 rfl rfl ?_
            refine wp2b rfl rfl (fun c6 => ?_) (fun c6 => ?_)
            · refine wp1 rfl rfl ?_
              refine wp3 rfl (am_getf rfl rfl) ?_
              refine wp0 rfl rfl ?_
              refine wp2b rfl rfl (fun c7 => ?_) (fun c7 => ?_)
              · refine wp0 rfl rfl ?_
                refine wp2 rfl rfl ?_
                exact wpL rfl rfl (sb_58_65 hJ (1) b1)
              · refine wp0 rfl rfl ?_
                exact wpL rfl rfl (sb_58_65 hJ (0) b0)
            · refine wp1 rfl rfl ?_
              refine wp3 rfl (am_getf rfl rfl) ?_
              refine wp0 rfl rfl ?_
              refine wp2b rfl rfl (fun c8 => ?_) (fun c8 => ?_)
              · exact wpL rfl rfl (sb_58_112 hJ )
              · refine wp1 rfl rfl ?_
                refine wp3 rfl (am_getf rfl rfl) ?_
                refine wp0 rfl rfl ?_
                refine wp2b rfl rfl (fun c9 => ?_) (fun c9 => ?_)
                · exact wpL rfl rfl (sb_58_108 hJ )
                · refine wp1 rfl rfl ?_
                  refine wp3 rfl (am_getf rfl rfl) ?_
                  refine wp0 rfl rfl ?_
                  refine wp2b rfl rfl (fun c10 => ?_) (fun c10 => ?_)
                  · exact wpL rfl rfl (sb_58_108 hJ )
                  · refine wp1 rfl rfl ?_
                    refine wp3 rfl (am_getf rfl rfl) ?_
                    refine wp0 rfl rfl ?_
                    refine wp2b rfl rfl (fun c11 => ?_) (fun c11 => ?_)
                    · exact wpL rfl rfl (sb_58_108 hJ )
                    · refine wp1 rfl rfl ?_
                      refine wp3 rfl (am_getf rfl rfl) ?_
                      refine wp0 rfl rfl ?_
                      refine wp2b rfl rfl (fun c12 => ?_) (fun c12 => ?_)
                      · exact wpL rfl rfl (sb_58_108 hJ )
                      · exact wpL rfl rfl (sb_58_112 hJ )
theorem sf_58 {s : cs} {mc : am_H} {D : List pgT} (hJ : J s mc D)   : tb_wp L xs 58 0 (lv_args 0 [.ref 2]) [] (HH s mc D) (SZ mc) := sb_58_0 hJ 
/- 59: FlagMachine$Instruction.numberFits()Z -/
set_option maxRecDepth 20000 in
theorem sb_59_219 {s : cs} {mc : am_H} {D : List pgT} (hJ : J s mc D) (k0 : Int32) (hb_k0 : b01 k0) : tb_wp L xs 59 219 [] [.int k0] (HH s mc D) (SZ mc) := by
  exact wp5z rfl rfl hb_k0 ⟨_, _, hJ, rfl, _, rfl, hb_k0⟩
set_option maxRecDepth 20000 in
theorem sb_59_214 {s : cs} {mc : am_H} {D : List pgT} (hJ : J s mc D)   : tb_wp L xs 59 214 [] [] (HH s mc D) (SZ mc) := by
  refine wp0 rfl rfl ?_
  refine wp2 rfl rfl ?_
  exact wpL rfl rfl (sb_59_219 hJ (1) b1)
set_option maxRecDepth 20000 in
theorem sb_59_207 {s : cs} {mc : am_H} {D : List pgT} (hJ : J s mc D) (k0 : Int64) (k1 : Int64) (k2 : Int32) (hn_k2 : 0 ≤ Int32.toInt k2) : tb_wp L xs 59 207 [] [.int k2, .long k1, .long k0] (HH s mc D) (SZ mc) := by
  refine wp4 rfl rfl (sf_17 hJ (k1) (k2)) (fun rv h1 hq => ?_)
  obtain ⟨s2, D3, hJ4, rfl, x5, rfl⟩ := hq
  refine wp0 rfl rfl ?_
  refine wp2b rfl rfl (fun c6 => ?_) (fun c6 => ?_)
  · exact wpL rfl rfl (sb_59_214 hJ4 )
  · refine wp0 rfl rfl ?_
    exact wpL rfl rfl (sb_59_219 hJ4 (0) b0)
set_option maxRecDepth 20000 in
theorem sb_59_186 {s : cs} {mc : am_H} {D : List pgT} (hJ : J s mc D)   : tb_wp L xs 59 186 [(0, .ref 2)] [] (HH s mc D) (SZ mc) := by
  refine wp1 rfl rfl ?_
  refine wp3 rfl (am_getf rfl rfl) ?_
  refine wp1 rfl rfl ?_
  refine wp3 rfl (am_getf rfl rfl) ?_
  refine wp1 rfl rfl ?_
  refine wp3 rfl (am_getf rfl rfl) ?_
  refine wp0 rfl rfl ?_
  refine wp2b rfl rfl (fun c7 => ?_) (fun c7 => ?_)
  · refine wp0 rfl rfl ?_
    refine wp2 rfl rfl ?_
    exact wpL rfl rfl (sb_59_207 hJ ((g_number s)) ((g_number s)) (1) (by decide))
  · refine wp0 rfl rfl ?_
    exact wpL rfl rfl (sb_59_207 hJ ((g_number s)) ((g_number s)) (4) (by decide))
set_option maxRecDepth 20000 in
theorem sb_59_167 {s : cs} {mc : am_H} {D : List pgT} (hJ : J s mc D) (k0 : Int32) (hb_k0 : b01 k0) : tb_wp L xs 59 167 [] [.int k0] (HH s mc D) (SZ mc) := by
  exact wp5z rfl rfl hb_k0 ⟨_, _, hJ, rfl, _, rfl, hb_k0⟩
set_option maxRecDepth 20000 in
theorem sb_59_166 {s : cs} {mc : am_H} {D : List pgT} (hJ : J s mc D)   : tb_wp L xs 59 166 [] [] (HH s mc D) (SZ mc) := by
  refine wp0 rfl rfl ?_
  exact wpL rfl rfl (sb_59_167 hJ (0) b0)
set_option maxRecDepth 20000 in
theorem sb_59_141 {s : cs} {mc : am_H} {D : List pgT} (hJ : J s mc D) (k0 : Int32) (hb_k0 : b01 k0) : tb_wp L xs 59 141 [] [.int k0] (HH s mc D) (SZ mc) := by
  exact wp5z rfl rfl hb_k0 ⟨_, _, hJ, rfl, _, rfl, hb_k0⟩
set_option maxRecDepth 20000 in
theorem sb_59_140 {s : cs} {mc : am_H} {D : List pgT} (hJ : J s mc D)   : tb_wp L xs 59 140 [] [] (HH s mc D) (SZ mc) := by
  refine wp0 rfl rfl ?_
  exact wpL rfl rfl (sb_59_141 hJ (0) b0)
set_option maxRecDepth 20000 in
theorem sb_59_0 {s : cs} {mc : am_H} {D : List pgT} (hJ : J s mc D)   : tb_wp L xs 59 0 [(0, .ref 2)] [] (HH s mc D) (SZ mc) := by
  refine wp1 rfl rfl ?_
  refine wp3 rfl (am_getf rfl rfl) ?_
  refine wp2s [116, 142, 168] rfl rfl rfl rfl (am_fa1 ?_ (am_fa1 ?_ (am_fa1 ?_ (am_fa0))))
  · refine wp1 rfl rfl ?_
    refine wp3 rfl (am_getf rfl rfl) ?_
    refine wp0 rfl rfl ?_
    refine wp0 rfl rfl ?_
    refine wp2b rfl rfl (fun c8 => ?_) (fun c8 => ?_)
    · exact wpL rfl rfl (sb_59_140 hJ )
    · refine wp1 rfl rfl ?_
      refine wp3 rfl (am_getf rfl rfl) ?_
      refine wp0 rfl rfl ?_
      refine wp0 rfl rfl ?_
      refine wp2b rfl rfl (fun c9 => ?_) (fun c9 => ?_)
      · exact wpL rfl rfl (sb_59_140 hJ )
      · refine wp0 rfl rfl ?_
        refine wp2 rfl rfl ?_
        exact wpL rfl rfl (sb_59_141 hJ (1) b1)
  · refine wp1 rfl rfl ?_
    refine wp3 rfl (am_getf rfl rfl) ?_
    refine wp0 rfl rfl ?_
    refine wp0 rfl rfl ?_
    refine wp2b rfl rfl (fun c10 => ?_) (fun c10 => ?_)
    · exact wpL rfl rfl (sb_59_166 hJ )
    · refine wp1 rfl rfl ?_
      refine wp3 rfl (am_getf rfl rfl) ?_
      refine wp0 rfl rfl ?_
      refine wp0 rfl rfl ?_
      refine wp2b rfl rfl (fun c11 => ?_) (fun c11 => ?_)
      · exact wpL rfl rfl (sb_59_166 hJ )
      · refine wp0 rfl rfl ?_
        refine wp2 rfl rfl ?_
        exact wpL rfl rfl (sb_59_167 hJ (1) b1)
  · refine wp1 rfl rfl ?_
    refine wp3 rfl (am_getf rfl rfl) ?_
    refine wp0 rfl rfl ?_
    refine wp2b rfl rfl (fun c12 => ?_) (fun c12 => ?_)
    · refine wp1 rfl rfl ?_
      refine wp3 rfl (am_getf rfl rfl) ?_
      refine wp0 rfl rfl ?_
      refine wp2b rfl rfl (fun c13 => ?_) (fun c13 => ?_)
      · exact wpL rfl rfl (sb_59_214 hJ )
      · exact wpL rfl rfl (sb_59_186 hJ )
    · exact wpL rfl rfl (sb_59_186 hJ )
theorem sf_59 {s : cs} {mc : am_H} {D : List pgT} (hJ : J s mc D)   : tb_wp L xs 59 0 (lv_args 0 [.ref 2]) [] (HH s mc D) (SZ mc) := sb_59_0 hJ 
/- 60: FlagMachine$Instruction.onlyOperandFits(I)Z -/
set_option maxRecDepth 20000 in
theorem sb_60_209 {s : cs} {mc : am_H} {D : List pgT} (hJ : J s mc D) (k0 : Int32) (hb_k0 : b01 k0) : tb_wp L xs 60 209 [] [.int k0] (HH s mc D) (SZ mc) := by
  exact wp5z rfl rfl hb_k0 ⟨_, _, hJ, rfl, _, rfl, hb_k0⟩
set_option maxRecDepth 20000 in
theorem sb_60_199 {s : cs} {mc : am_H} {D : List pgT} (hJ : J s mc D) (k0 : Int32) (hb_k0 : b01 k0) : tb_wp L xs 60 199 [] [.int k0] (HH s mc D) (SZ mc) := by
  exact wp5z rfl rfl hb_k0 ⟨_, _, hJ, rfl, _, rfl, hb_k0⟩
set_option maxRecDepth 20000 in
theorem sb_60_188 {s : cs} {mc : am_H} {D : List pgT} (hJ : J s mc D) (k0 : Int32) (hb_k0 : b01 k0) : tb_wp L xs 60 188 [] [.int k0] (HH s mc D) (SZ mc) := by
  exact wp5z rfl rfl hb_k0 ⟨_, _, hJ, rfl, _, rfl, hb_k0⟩
set_option maxRecDepth 20000 in
theorem sb_60_177 {s : cs} {mc : am_H} {D : List pgT} (hJ : J s mc D) (k0 : Int32) (hb_k0 : b01 k0) : tb_wp L xs 60 177 [] [.int k0] (HH s mc D) (SZ mc) := by
  exact wp5z rfl rfl hb_k0 ⟨_, _, hJ, rfl, _, rfl, hb_k0⟩
set_option maxRecDepth 20000 in
theorem sb_60_172 {s : cs} {mc : am_H} {D : List pgT} (hJ : J s mc D)   : tb_wp L xs 60 172 [] [] (HH s mc D) (SZ mc) := by
  refine wp0 rfl rfl ?_
  refine wp2 rfl rfl ?_
  exact wpL rfl rfl (sb_60_177 hJ (1) b1)
set_option maxRecDepth 20000 in
theorem sb_60_162 {s : cs} {mc : am_H} {D : List pgT} (hJ : J s mc D) (k0 : Int32) (hb_k0 : b01 k0) : tb_wp L xs 60 162 [] [.int k0] (HH s mc D) (SZ mc) := by
  exact wp5z rfl rfl hb_k0 ⟨_, _, hJ, rfl, _, rfl, hb_k0⟩
set_option maxRecDepth 20000 in
theorem sb_60_0 {s : cs} {mc : am_H} {D : List pgT} (hJ : J s mc D) (l1 : Int32)  : tb_wp L xs 60 0 [(0, .ref 2), (1, .int l1)] [] (HH s mc D) (SZ mc) := by
  refine wp1 rfl rfl ?_
  refine wp3 rfl (am_getf rfl rfl) ?_
  refine wp2s [148, 153, 163, 178, 189, 200] rfl rfl rfl rfl (am_fa1 ?_ (am_fa1 ?_ (am_fa1 ?_ (am_fa1 ?_ (am_fa1 ?_ (am_fa1 ?_ (am_fa0)))))))
  · refine wp1 rfl rfl ?_
    refine wp4 rfl rfl (sf_56 hJ (l1)) (fun rv h1 hq => ?_)
    obtain ⟨s2, D3, hJ4, rfl, x5, rfl, hb_x5⟩ := hq
    exact wp5z rfl rfl hb_x5 ⟨_, _, hJ4, rfl, _, rfl, hb_x5⟩
  · refine wp1 rfl rfl ?_
    refine wp2b rfl rfl (fun c6 => ?_) (fun c6 => ?_)
    · refine wp0 rfl rfl ?_
      exact wpL rfl rfl (sb_60_162 hJ (0) b0)
    · refine wp0 rfl rfl ?_
      refine wp2 rfl rfl ?_
      exact wpL rfl rfl (sb_60_162 hJ (1) b1)
  · refine wp1 rfl rfl ?_
    refine wp2b rfl rfl (fun c7 => ?_) (fun c7 => ?_)
    · exact wpL rfl rfl (sb_60_172 hJ )
    · refine wp1 rfl rfl ?_
      refine wp0 rfl rfl ?_
      refine wp2b rfl rfl (fun c8 => ?_) (fun c8 => ?_)
      · exact wpL rfl rfl (sb_60_172 hJ )
      · refine wp0 rfl rfl ?_
        exact wpL rfl rfl (sb_60_177 hJ (0) b0)
  · refine wp1 rfl rfl ?_
    refine wp0 rfl rfl ?_
    refine wp2b rfl rfl (fun c9 => ?_) (fun c9 => ?_)
    · refine wp0 rfl rfl ?_
      refine wp2 rfl rfl ?_
      exact wpL rfl rfl (sb_60_188 hJ (1) b1)
    · refine wp0 rfl rfl ?_
      exact wpL rfl rfl (sb_60_188 hJ (0) b0)
  · refine wp1 rfl rfl ?_
    refine wp0 rfl rfl ?_
    refine wp2b rfl rfl (fun c10 => ?_) (fun c10 => ?_)
    · refine wp0 rfl rfl ?_
      refine wp2 rfl rfl ?_
      exact wpL rfl rfl (sb_60_199 hJ (1) b1)
    · refine wp0 rfl rfl ?_
      exact wpL rfl rfl (sb_60_199 hJ (0) b0)
  · refine wp1 rfl rfl ?_
    refine wp2b rfl rfl (fun c11 => ?_) (fun c11 => ?_)
    · refine wp0 rfl rfl ?_
      refine wp2 rfl rfl ?_
      exact wpL rfl rfl (sb_60_209 hJ (1) b1)
    · refine wp0 rfl rfl ?_
      exact wpL rfl rfl (sb_60_209 hJ (0) b0)
theorem sf_60 {s : cs} {mc : am_H} {D : List pgT} (hJ : J s mc D) (l1 : Int32)  : tb_wp L xs 60 0 (lv_args 0 [.ref 2, .int l1]) [] (HH s mc D) (SZ mc) := sb_60_0 hJ l1
/- 61: FlagMachine$Instruction.operandsFit()Z -/
set_option maxRecDepth 20000 in
theorem sb_61_390 {s : cs} {mc : am_H} {D : List pgT} (hJ : J s mc D) (k0 : Int32) (hb_k0 : b01 k0) : tb_wp L xs 61 390 [] [.int k0] (HH s mc D) (SZ mc) := by
  exact wp5z rfl rfl hb_k0 ⟨_, _, hJ, rfl, _, rfl, hb_k0⟩
set_option maxRecDepth 20000 in
theorem sb_61_389 {s : cs} {mc : am_H} {D : List pgT} (hJ : J s mc D)   : tb_wp L xs 61 389 [] [] (HH s mc D) (SZ mc) := by
  refine wp0 rfl rfl ?_
  exact wpL rfl rfl (sb_61_390 hJ (0) b0)
set_option maxRecDepth 20000 in
theorem sb_61_372 {s : cs} {mc : am_H} {D : List pgT} (hJ : J s mc D) (k0 : Int32) (hb_k0 : b01 k0) : tb_wp L xs 61 372 [] [.int k0] (HH s mc D) (SZ mc) := by
  exact wp5z rfl rfl hb_k0 ⟨_, _, hJ, rfl, _, rfl, hb_k0⟩
set_option maxRecDepth 20000 in
theorem sb_61_371 {s : cs} {mc : am_H} {D : List pgT} (hJ : J s mc D)   : tb_wp L xs 61 371 [] [] (HH s mc D) (SZ mc) := by
  refine wp0 rfl rfl ?_
  exact wpL rfl rfl (sb_61_372 hJ (0) b0)
set_option maxRecDepth 20000 in
theorem sb_61_367 {s : cs} {mc : am_H} {D : List pgT} (hJ : J s mc D)   : tb_wp L xs 61 367 [] [] (HH s mc D) (SZ mc) := by
  refine wp0 rfl rfl ?_
  refine wp2 rfl rfl ?_
  exact wpL rfl rfl (sb_61_372 hJ (1) b1)
set_option maxRecDepth 20000 in
theorem sb_61_339 {s : cs} {mc : am_H} {D : List pgT} (hJ : J s mc D) (k0 : Int32) (hb_k0 : b01 k0) : tb_wp L xs 61 339 [] [.int k0] (HH s mc D) (SZ mc) := by
  exact wp5z rfl rfl hb_k0 ⟨_, _, hJ, rfl, _, rfl, hb_k0⟩
set_option maxRecDepth 20000 in
theorem sb_61_338 {s : cs} {mc : am_H} {D : List pgT} (hJ : J s mc D)   : tb_wp L xs 61 338 [] [] (HH s mc D) (SZ mc) := by
  refine wp0 rfl rfl ?_
  exact wpL rfl rfl (sb_61_339 hJ (0) b0)
set_option maxRecDepth 20000 in
theorem sb_61_321 {s : cs} {mc : am_H} {D : List pgT} (hJ : J s mc D) (k0 : Int32) (hb_k0 : b01 k0) : tb_wp L xs 61 321 [] [.int k0] (HH s mc D) (SZ mc) := by
  exact wp5z rfl rfl hb_k0 ⟨_, _, hJ, rfl, _, rfl, hb_k0⟩
set_option maxRecDepth 20000 in
theorem sb_61_320 {s : cs} {mc : am_H} {D : List pgT} (hJ : J s mc D)   : tb_wp L xs 61 320 [] [] (HH s mc D) (SZ mc) := by
  refine wp0 rfl rfl ?_
  exact wpL rfl rfl (sb_61_321 hJ (0) b0)
set_option maxRecDepth 20000 in
theorem sb_61_305 {s : cs} {mc : am_H} {D : List pgT} (hJ : J s mc D) (k0 : Int32) (hb_k0 : b01 k0) : tb_wp L xs 61 305 [] [.int k0] (HH s mc D) (SZ mc) := by
  exact wp5z rfl rfl hb_k0 ⟨_, _, hJ, rfl, _, rfl, hb_k0⟩
set_option maxRecDepth 20000 in
theorem sb_61_304 {s : cs} {mc : am_H} {D : List pgT} (hJ : J s mc D)   : tb_wp L xs 61 304 [] [] (HH s mc D) (SZ mc) := by
  refine wp0 rfl rfl ?_
  exact wpL rfl rfl (sb_61_305 hJ (0) b0)
set_option maxRecDepth 20000 in
theorem sb_61_287 {s : cs} {mc : am_H} {D : List pgT} (hJ : J s mc D) (k0 : Int32) (hb_k0 : b01 k0) : tb_wp L xs 61 287 [] [.int k0] (HH s mc D) (SZ mc) := by
  exact wp5z rfl rfl hb_k0 ⟨_, _, hJ, rfl, _, rfl, hb_k0⟩
set_option maxRecDepth 20000 in
theorem sb_61_286 {s : cs} {mc : am_H} {D : List pgT} (hJ : J s mc D)   : tb_wp L xs 61 286 [] [] (HH s mc D) (SZ mc) := by
  refine wp0 rfl rfl ?_
  exact wpL rfl rfl (sb_61_287 hJ (0) b0)
set_option maxRecDepth 20000 in
theorem sb_61_282 {s : cs} {mc : am_H} {D : List pgT} (hJ : J s mc D)   : tb_wp L xs 61 282 [] [] (HH s mc D) (SZ mc) := by
  refine wp0 rfl rfl ?_
  refine wp2 rfl rfl ?_
  exact wpL rfl rfl (sb_61_287 hJ (1) b1)
set_option maxRecDepth 20000 in
theorem sb_61_264 {s : cs} {mc : am_H} {D : List pgT} (hJ : J s mc D) (k0 : Int32) (hb_k0 : b01 k0) : tb_wp L xs 61 264 [] [.int k0] (HH s mc D) (SZ mc) := by
  exact wp5z rfl rfl hb_k0 ⟨_, _, hJ, rfl, _, rfl, hb_k0⟩
set_option maxRecDepth 20000 in
theorem sb_61_263 {s : cs} {mc : am_H} {D : List pgT} (hJ : J s mc D)   : tb_wp L xs 61 263 [] [] (HH s mc D) (SZ mc) := by
  refine wp0 rfl rfl ?_
  exact wpL rfl rfl (sb_61_264 hJ (0) b0)
set_option maxRecDepth 20000 in
theorem sb_61_259 {s : cs} {mc : am_H} {D : List pgT} (hJ : J s mc D)   : tb_wp L xs 61 259 [] [] (HH s mc D) (SZ mc) := by
  refine wp0 rfl rfl ?_
  refine wp2 rfl rfl ?_
  exact wpL rfl rfl (sb_61_264 hJ (1) b1)
set_option maxRecDepth 20000 in
theorem sb_61_249 {s : cs} {mc : am_H} {D : List pgT} (hJ : J s mc D) (l1 : Int32) (l2 : Int32)  : tb_wp L xs 61 249 [(1, .int l1), (2, .int l2)] [] (HH s mc D) (SZ mc) := by
  refine wp1 rfl rfl ?_
  refine wp0 rfl rfl ?_
  refine wp2b rfl rfl (fun c1 => ?_) (fun c1 => ?_)
  · refine wp1 rfl rfl ?_
    refine wp0 rfl rfl ?_
    refine wp2b rfl rfl (fun c2 => ?_) (fun c2 => ?_)
    · exact wpL rfl rfl (sb_61_259 hJ )
    · exact wpL rfl rfl (sb_61_263 hJ )
  · exact wpL rfl rfl (sb_61_263 hJ )
set_option maxRecDepth 20000 in
theorem sb_61_0 {s : cs} {mc : am_H} {D : List pgT} (hJ : J s mc D)   : tb_wp L xs 61 0 [(0, .ref 2)] [] (HH s mc D) (SZ mc) := by
  refine wp1 rfl rfl ?_
  refine wp3 rfl (am_getf rfl rfl) ?_
  refine wp0 rfl rfl ?_
  refine wp3 rfl (am_iald rfl (by decide)) ?_
  refine wpTi (fun z3 ez3 => ?_)
  refine wp1 rfl rfl ?_
  refine wpV (lv' := [(0, .ref 2), (1, .int z3)]) rfl ?_
  refine wp1 rfl rfl ?_
  refine wp3 rfl (am_getf rfl rfl) ?_
  refine wp0 rfl rfl ?_
  refine wp3 rfl (am_iald rfl (by decide)) ?_
  refine wpTi (fun z4 ez4 => ?_)
  refine wp1 rfl rfl ?_
  refine wpV (lv' := [(0, .ref 2), (1, .int z3), (2, .int z4)]) rfl ?_
  refine wp1 rfl rfl ?_
  refine wp3 rfl (am_getf rfl rfl) ?_
  refine wp2s [232, 265, 288, 306, 322, 340, 373] rfl rfl rfl rfl (am_fa1 ?_ (am_fa1 ?_ (am_fa1 ?_ (am_fa1 ?_ (am_fa1 ?_ (am_fa1 ?_ (am_fa1 ?_ (am_fa0))))))))
  · refine wp1 rfl rfl ?_
    refine wp4 rfl rfl (sf_56 hJ (z3)) (fun rv h1 hq => ?_)
    obtain ⟨s6, D7, hJ8, rfl, x9, rfl, hb_x9⟩ := hq
    refine wp2b rfl rfl (fun c10 => ?_) (fun c10 => ?_)
    · exact wpL rfl rfl (sb_61_249 hJ8 (z3) (z4))
    · refine wp1 rfl rfl ?_
      refine wp0 rfl rfl ?_
      refine wp2b rfl rfl (fun c11 => ?_) (fun c11 => ?_)
      · exact wpL rfl rfl (sb_61_259 hJ8 )
      · refine wp1 rfl rfl ?_
        refine wp0 rfl rfl ?_
        refine wp2b rfl rfl (fun c12 => ?_) (fun c12 => ?_)
        · exact wpL rfl rfl (sb_61_259 hJ8 )
        · exact wpL rfl rfl (sb_61_249 hJ8 (z3) (z4))
  · refine wp1 rfl rfl ?_
    refine wp4 rfl rfl (sf_56 hJ (z3)) (fun rv h1 hq => ?_)
    obtain ⟨s14, D15, hJ16, rfl, x17, rfl, hb_x17⟩ := hq
    refine wp2b rfl rfl (fun c18 => ?_) (fun c18 => ?_)
    · exact wpL rfl rfl (sb_61_286 hJ16 )
    · refine wp1 rfl rfl ?_
      refine wp0 rfl rfl ?_
      refine wp2b rfl rfl (fun c19 => ?_) (fun c19 => ?_)
      · exact wpL rfl rfl (sb_61_282 hJ16 )
      · refine wp1 rfl rfl ?_
        refine wp0 rfl rfl ?_
        refine wp2b rfl rfl (fun c20 => ?_) (fun c20 => ?_)
        · exact wpL rfl rfl (sb_61_282 hJ16 )
        · exact wpL rfl rfl (sb_61_286 hJ16 )
  · refine wp1 rfl rfl ?_
    refine wp4 rfl rfl (sf_56 hJ (z3)) (fun rv h1 hq => ?_)
    obtain ⟨s22, D23, hJ24, rfl, x25, rfl, hb_x25⟩ := hq
    refine wp2b rfl rfl (fun c26 => ?_) (fun c26 => ?_)
    · exact wpL rfl rfl (sb_61_304 hJ24 )
    · refine wp1 rfl rfl ?_
      refine wp0 rfl rfl ?_
      refine wp2b rfl rfl (fun c27 => ?_) (fun c27 => ?_)
      · refine wp0 rfl rfl ?_
        refine wp2 rfl rfl ?_
        exact wpL rfl rfl (sb_61_305 hJ24 (1) b1)
      · exact wpL rfl rfl (sb_61_304 hJ24 )
  · refine wp1 rfl rfl ?_
    refine wp0 rfl rfl ?_
    refine wp2b rfl rfl (fun c28 => ?_) (fun c28 => ?_)
    · refine wp1 rfl rfl ?_
      refine wp0 rfl rfl ?_
      refine wp2b rfl rfl (fun c29 => ?_) (fun c29 => ?_)
      · refine wp0 rfl rfl ?_
        refine wp2 rfl rfl ?_
        exact wpL rfl rfl (sb_61_321 hJ (1) b1)
      · exact wpL rfl rfl (sb_61_320 hJ )
    · exact wpL rfl rfl (sb_61_320 hJ )
  · refine wp1 rfl rfl ?_
    refine wp0 rfl rfl ?_
    refine wp2b rfl rfl (fun c30 => ?_) (fun c30 => ?_)
    · refine wp1 rfl rfl ?_
      refine wp4 rfl rfl (sf_56 hJ (z4)) (fun rv h1 hq => ?_)
      obtain ⟨s32, D33, hJ34, rfl, x35, rfl, hb_x35⟩ := hq
      refine wp2b rfl rfl (fun c36 => ?_) (fun c36 => ?_)
      · exact wpL rfl rfl (sb_61_338 hJ34 )
      · refine wp0 rfl rfl ?_
        refine wp2 rfl rfl ?_
        exact wpL rfl rfl (sb_61_339 hJ34 (1) b1)
    · exact wpL rfl rfl (sb_61_338 hJ )
  · refine wp1 rfl rfl ?_
    refine wp4 rfl rfl (sf_56 hJ (z3)) (fun rv h1 hq => ?_)
    obtain ⟨s38, D39, hJ40, rfl, x41, rfl, hb_x41⟩ := hq
    refine wp2b rfl rfl (fun c42 => ?_) (fun c42 => ?_)
    · exact wpL rfl rfl (sb_61_371 hJ40 )
    · refine wp1 rfl rfl ?_
      refine wp0 rfl rfl ?_
      refine wp2b rfl rfl (fun c43 => ?_) (fun c43 => ?_)
      · exact wpL rfl rfl (sb_61_367 hJ40 )
      · refine wp1 rfl rfl ?_
        refine wp0 rfl rfl ?_
        refine wp2b rfl rfl (fun c44 => ?_) (fun c44 => ?_)
        · refine wp1 rfl rfl ?_
          refine wp3 rfl (am_getf rfl rfl) ?_
          refine wp0 rfl rfl ?_
          refine wp3 rfl (am_iald rfl (by decide)) ?_
          refine wp0 rfl rfl ?_
          refine wp2b rfl rfl (fun c45 => ?_) (fun c45 => ?_)
          · exact wpL rfl rfl (sb_61_367 hJ40 )
          · exact wpL rfl rfl (sb_61_371 hJ40 )
        · exact wpL rfl rfl (sb_61_371 hJ40 )
  · refine wp1 rfl rfl ?_
    refine wp2b rfl rfl (fun c46 => ?_) (fun c46 => ?_)
    · refine wp1 rfl rfl ?_
      refine wp1 rfl rfl ?_
      refine wp4 rfl rfl (sf_60 hJ (z3)) (fun rv h1 hq => ?_)
      obtain ⟨s48, D49, hJ50, rfl, x51, rfl, hb_x51⟩ := hq
      refine wp2b rfl rfl (fun c52 => ?_) (fun c52 => ?_)
      · exact wpL rfl rfl (sb_61_389 hJ50 )
      · refine wp0 rfl rfl ?_
        refine wp2 rfl rfl ?_
        exact wpL rfl rfl (sb_61_390 hJ50 (1) b1)
    · exact wpL rfl rfl (sb_61_389 hJ )
theorem sf_61 {s : cs} {mc : am_H} {D : List pgT} (hJ : J s mc D)   : tb_wp L xs 61 0 (lv_args 0 [.ref 2]) [] (HH s mc D) (SZ mc) := sb_61_0 hJ 
/- 62: FlagMachine$Instruction.registersDiffer()Z -/
set_option maxRecDepth 20000 in
theorem sb_62_40 {s : cs} {mc : am_H} {D : List pgT} (hJ : J s mc D) (k0 : Int32) (hb_k0 : b01 k0) : tb_wp L xs 62 40 [] [.int k0] (HH s mc D) (SZ mc) := by
  exact wp5z rfl rfl hb_k0 ⟨_, _, hJ, rfl, _, rfl, hb_k0⟩
set_option maxRecDepth 20000 in
theorem sb_62_35 {s : cs} {mc : am_H} {D : List pgT} (hJ : J s mc D)   : tb_wp L xs 62 35 [] [] (HH s mc D) (SZ mc) := by
  refine wp0 rfl rfl ?_
  refine wp2 rfl rfl ?_
  exact wpL rfl rfl (sb_62_40 hJ (1) b1)
set_option maxRecDepth 20000 in
theorem sb_62_0 {s : cs} {mc : am_H} {D : List pgT} (hJ : J s mc D)   : tb_wp L xs 62 0 [(0, .ref 2)] [] (HH s mc D) (SZ mc) := by
  refine wp1 rfl rfl ?_
  refine wp3 rfl (am_getf rfl rfl) ?_
  refine wp0 rfl rfl ?_
  refine wp3 rfl (am_iald rfl (by decide)) ?_
  refine wp0 rfl rfl ?_
  refine wp2b rfl rfl (fun c1 => ?_) (fun c1 => ?_)
  · refine wp1 rfl rfl ?_
    refine wp3 rfl (am_getf rfl rfl) ?_
    refine wp0 rfl rfl ?_
    refine wp3 rfl (am_iald rfl (by decide)) ?_
    refine wp0 rfl rfl ?_
    refine wp2b rfl rfl (fun c2 => ?_) (fun c2 => ?_)
    · refine wp1 rfl rfl ?_
      refine wp3 rfl (am_getf rfl rfl) ?_
      refine wp0 rfl rfl ?_
      refine wp3 rfl (am_iald rfl (by decide)) ?_
      refine wp1 rfl rfl ?_
      refine wp3 rfl (am_getf rfl rfl) ?_
      refine wp0 rfl rfl ?_
      refine wp3 rfl (am_iald rfl (by decide)) ?_
      refine wp2b rfl rfl (fun c3 => ?_) (fun c3 => ?_)
      · refine wp0 rfl rfl ?_
        exact wpL rfl rfl (sb_62_40 hJ (0) b0)
      · exact wpL rfl rfl (sb_62_35 hJ )
    · exact wpL rfl rfl (sb_62_35 hJ )
  · exact wpL rfl rfl (sb_62_35 hJ )
theorem sf_62 {s : cs} {mc : am_H} {D : List pgT} (hJ : J s mc D)   : tb_wp L xs 62 0 (lv_args 0 [.ref 2]) [] (HH s mc D) (SZ mc) := sb_62_0 hJ 
/- 63: FlagMachine$Instruction.sizeFits()Z -/
set_option maxRecDepth 20000 in
theorem sb_63_263 {s : cs} {mc : am_H} {D : List pgT} (hJ : J s mc D) (k0 : Int32) (hb_k0 : b01 k0) : tb_wp L xs 63 263 [] [.int k0] (HH s mc D) (SZ mc) := by
  exact wp5z rfl rfl hb_k0 ⟨_, _, hJ, rfl, _, rfl, hb_k0⟩
set_option maxRecDepth 20000 in
theorem sb_63_258 {s : cs} {mc : am_H} {D : List pgT} (hJ : J s mc D)   : tb_wp L xs 63 258 [] [] (HH s mc D) (SZ mc) := by
  refine wp0 rfl rfl ?_
  refine wp2 rfl rfl ?_
  exact wpL rfl rfl (sb_63_263 hJ (1) b1)
set_option maxRecDepth 20000 in
theorem sb_63_232 {s : cs} {mc : am_H} {D : List pgT} (hJ : J s mc D) (k0 : Int32) (hb_k0 : b01 k0) : tb_wp L xs 63 232 [] [.int k0] (HH s mc D) (SZ mc) := by
  exact wp5z rfl rfl hb_k0 ⟨_, _, hJ, rfl, _, rfl, hb_k0⟩
set_option maxRecDepth 20000 in
theorem sb_63_218 {s : cs} {mc : am_H} {D : List pgT} (hJ : J s mc D) (k0 : Int32) (hb_k0 : b01 k0) : tb_wp L xs 63 218 [] [.int k0] (HH s mc D) (SZ mc) := by
  exact wp5z rfl rfl hb_k0 ⟨_, _, hJ, rfl, _, rfl, hb_k0⟩
set_option maxRecDepth 20000 in
theorem sb_63_205 {s : cs} {mc : am_H} {D : List pgT} (hJ : J s mc D) (k0 : Int32) (hb_k0 : b01 k0) : tb_wp L xs 63 205 [] [.int k0] (HH s mc D) (SZ mc) := by
  exact wp5z rfl rfl hb_k0 ⟨_, _, hJ, rfl, _, rfl, hb_k0⟩
set_option maxRecDepth 20000 in
theorem sb_63_200 {s : cs} {mc : am_H} {D : List pgT} (hJ : J s mc D)   : tb_wp L xs 63 200 [] [] (HH s mc D) (SZ mc) := by
  refine wp0 rfl rfl ?_
  refine wp2 rfl rfl ?_
  exact wpL rfl rfl (sb_63_205 hJ (1) b1)
set_option maxRecDepth 20000 in
theorem sb_63_182 {s : cs} {mc : am_H} {D : List pgT} (hJ : J s mc D) (k0 : Int32) (hb_k0 : b01 k0) : tb_wp L xs 63 182 [] [.int k0] (HH s mc D) (SZ mc) := by
  exact wp5z rfl rfl hb_k0 ⟨_, _, hJ, rfl, _, rfl, hb_k0⟩
set_option maxRecDepth 20000 in
theorem sb_63_0 {s : cs} {mc : am_H} {D : List pgT} (hJ : J s mc D)   : tb_wp L xs 63 0 [(0, .ref 2)] [] (HH s mc D) (SZ mc) := by
  refine wp1 rfl rfl ?_
  refine wp3 rfl (am_getf rfl rfl) ?_
  refine wp2s [168, 183, 206, 219, 233] rfl rfl rfl rfl (am_fa1 ?_ (am_fa1 ?_ (am_fa1 ?_ (am_fa1 ?_ (am_fa1 ?_ (am_fa0))))))
  · refine wp1 rfl rfl ?_
    refine wp3 rfl (am_getf rfl rfl) ?_
    refine wp0 rfl rfl ?_
    refine wp2b rfl rfl (fun c1 => ?_) (fun c1 => ?_)
    · refine wp0 rfl rfl ?_
      refine wp2 rfl rfl ?_
      exact wpL rfl rfl (sb_63_182 hJ (1) b1)
    · refine wp0 rfl rfl ?_
      exact wpL rfl rfl (sb_63_182 hJ (0) b0)
  · refine wp1 rfl rfl ?_
    refine wp3 rfl (am_getf rfl rfl) ?_
    refine wp0 rfl rfl ?_
    refine wp2b rfl rfl (fun c2 => ?_) (fun c2 => ?_)
    · exact wpL rfl rfl (sb_63_200 hJ )
    · refine wp1 rfl rfl ?_
      refine wp3 rfl (am_getf rfl rfl) ?_
      refine wp0 rfl rfl ?_
      refine wp2b rfl rfl (fun c3 => ?_) (fun c3 => ?_)
      · exact wpL rfl rfl (sb_63_200 hJ )
      · refine wp0 rfl rfl ?_
        exact wpL rfl rfl (sb_63_205 hJ (0) b0)
  · refine wp1 rfl rfl ?_
    refine wp3 rfl (am_getf rfl rfl) ?_
    refine wp2b rfl rfl (fun c4 => ?_) (fun c4 => ?_)
    · refine wp0 rfl rfl ?_
      refine wp2 rfl rfl ?_
      exact wpL rfl rfl (sb_63_218 hJ (1) b1)
    · refine wp0 rfl rfl ?_
      exact wpL rfl rfl (sb_63_218 hJ (0) b0)
  · refine wp1 rfl rfl ?_
    refine wp3 rfl (am_getf rfl rfl) ?_
    refine wp0 rfl rfl ?_
    refine wp2b rfl rfl (fun c5 => ?_) (fun c5 => ?_)
    · refine wp0 rfl rfl ?_
      refine wp2 rfl rfl ?_
      exact wpL rfl rfl (sb_63_232 hJ (1) b1)
    · refine wp0 rfl rfl ?_
      exact wpL rfl rfl (sb_63_232 hJ (0) b0)
  · refine wp1 rfl rfl ?_
    refine wp3 rfl (am_getf rfl rfl) ?_
    refine wp0 rfl rfl ?_
    refine wp2b rfl rfl (fun c6 => ?_) (fun c6 => ?_)
    · exact wpL rfl rfl (sb_63_258 hJ )
    · refine wp1 rfl rfl ?_
      refine wp3 rfl (am_getf rfl rfl) ?_
      refine wp0 rfl rfl ?_
      refine wp2b rfl rfl (fun c7 => ?_) (fun c7 => ?_)
      · exact wpL rfl rfl (sb_63_258 hJ )
      · refine wp1 rfl rfl ?_
        refine wp3 rfl (am_getf rfl rfl) ?_
        refine wp0 rfl rfl ?_
        refine wp2b rfl rfl (fun c8 => ?_) (fun c8 => ?_)
        · exact wpL rfl rfl (sb_63_258 hJ )
        · refine wp0 rfl rfl ?_
          exact wpL rfl rfl (sb_63_263 hJ (0) b0)
theorem sf_63 {s : cs} {mc : am_H} {D : List pgT} (hJ : J s mc D)   : tb_wp L xs 63 0 (lv_args 0 [.ref 2]) [] (HH s mc D) (SZ mc) := sb_63_0 hJ 
/- 64: FlagMachine$Instruction.thirdFits()Z -/
set_option maxRecDepth 20000 in
theorem sb_64_33 {s : cs} {mc : am_H} {D : List pgT} (hJ : J s mc D) (k0 : Int32) (hb_k0 : b01 k0) : tb_wp L xs 64 33 [] [.int k0] (HH s mc D) (SZ mc) := by
  exact wp5z rfl rfl hb_k0 ⟨_, _, hJ, rfl, _, rfl, hb_k0⟩
set_option maxRecDepth 20000 in
theorem sb_64_32 {s : cs} {mc : am_H} {D : List pgT} (hJ : J s mc D)   : tb_wp L xs 64 32 [] [] (HH s mc D) (SZ mc) := by
  refine wp0 rfl rfl ?_
  exact wpL rfl rfl (sb_64_33 hJ (0) b0)
set_option maxRecDepth 20000 in
theorem sb_64_28 {s : cs} {mc : am_H} {D : List pgT} (hJ : J s mc D)   : tb_wp L xs 64 28 [] [] (HH s mc D) (SZ mc) := by
  refine wp0 rfl rfl ?_
  refine wp2 rfl rfl ?_
  exact wpL rfl rfl (sb_64_33 hJ (1) b1)
set_option maxRecDepth 20000 in
theorem sb_64_0 {s : cs} {mc : am_H} {D : List pgT} (hJ : J s mc D)   : tb_wp L xs 64 0 [(0, .ref 2)] [] (HH s mc D) (SZ mc) := by
  refine wp1 rfl rfl ?_
  refine wp3 rfl (am_getf rfl rfl) ?_
  refine wp0 rfl rfl ?_
  refine wp3 rfl (am_iald rfl (by decide)) ?_
  refine wp2b rfl rfl (fun c1 => ?_) (fun c1 => ?_)
  · exact wpL rfl rfl (sb_64_28 hJ )
  · refine wp1 rfl rfl ?_
    refine wp3 rfl (am_getf rfl rfl) ?_
    refine wp0 rfl rfl ?_
    refine wp2b rfl rfl (fun c2 => ?_) (fun c2 => ?_)
    · refine wp1 rfl rfl ?_
      refine wp3 rfl (am_getf rfl rfl) ?_
      refine wp0 rfl rfl ?_
      refine wp3 rfl (am_iald rfl (by decide)) ?_
      refine wp0 rfl rfl ?_
      refine wp2b rfl rfl (fun c3 => ?_) (fun c3 => ?_)
      · exact wpL rfl rfl (sb_64_28 hJ )
      · exact wpL rfl rfl (sb_64_32 hJ )
    · exact wpL rfl rfl (sb_64_32 hJ )
theorem sf_64 {s : cs} {mc : am_H} {D : List pgT} (hJ : J s mc D)   : tb_wp L xs 64 0 (lv_args 0 [.ref 2]) [] (HH s mc D) (SZ mc) := sb_64_0 hJ 
/- 66: FlagMachine$Memory.breakAddress()J -/
set_option maxRecDepth 20000 in
theorem sb_66_0 {s : cs} {mc : am_H} {D : List pgT} (hJ : J s mc D)   : tb_wp L xs 66 0 [(0, .ref 10)] [] (HH s mc D) (SJ mc) := by
  refine wp0 rfl rfl ?_
  refine wp1 rfl rfl ?_
  refine wp3 rfl (am_getf rfl rfl) ?_
  refine wp0 rfl rfl ?_
  refine wp3 rfl (am_iald rfl (by decide)) ?_
  refine wp0 rfl rfl ?_
  refine wp0 rfl rfl ?_
  exact wp5 rfl rfl ⟨_, _, hJ, rfl, _, rfl⟩
theorem sf_66 {s : cs} {mc : am_H} {D : List pgT} (hJ : J s mc D)   : tb_wp L xs 66 0 (lv_args 0 [.ref 10]) [] (HH s mc D) (SJ mc) := sb_66_0 hJ 
/- 67: FlagMachine$Memory.layRow(III)V -/
set_option maxRecDepth 20000 in
theorem sb_67_0 {s : cs} {mc : am_H} {D : List pgT} (hJ : J s mc D) (l1 : Int32) (l2 : Int32) (l3 : Int32) (hi_l1 : am_in l1 5 = true) : tb_wp L xs 67 0 [(0, .ref 10), (1, .int l1), (2, .int l2), (3, .int l3)] [] (HH s mc D) (SV mc) := by
  refine wp1 rfl rfl ?_
  refine wp3 rfl (am_getf rfl rfl) ?_
  refine wp1 rfl rfl ?_
  refine wp1 rfl rfl ?_
  refine wp3 rfl (am_iast rfl hi_l1) ?_
  have hJ1 : J (s_starts s (upd (g_starts s) (Int32.toNatClampNeg l1) l2)) mc D := hJ
  refine wpH (h' := HH (s_starts s (upd (g_starts s) (Int32.toNatClampNeg l1) l2)) mc D) rfl ?_
  refine wp1 rfl rfl ?_
  refine wp3 rfl (am_getf rfl rfl) ?_
  refine wp1 rfl rfl ?_
  refine wp1 rfl rfl ?_
  refine wp3 rfl (am_iast rfl hi_l1) ?_
  have hJ2 : J (s_ends (s_starts s (upd (g_starts s) (Int32.toNatClampNeg l1) l2)) (upd (g_ends (s_starts s (upd (g_starts s) (Int32.toNatClampNeg l1) l2))) (Int32.toNatClampNeg l1) l3)) mc D := hJ1
  refine wpH (h' := HH (s_ends (s_starts s (upd (g_starts s) (Int32.toNatClampNeg l1) l2)) (upd (g_ends (s_starts s (upd (g_starts s) (Int32.toNatClampNeg l1) l2))) (Int32.toNatClampNeg l1) l3)) mc D) rfl ?_
  exact wp5 rfl rfl ⟨_, _, hJ2, rfl, rfl⟩
theorem sf_67 {s : cs} {mc : am_H} {D : List pgT} (hJ : J s mc D) (l1 : Int32) (l2 : Int32) (l3 : Int32) (hi_l1 : am_in l1 5 = true) : tb_wp L xs 67 0 (lv_args 0 [.ref 10, .int l1, .int l2, .int l3]) [] (HH s mc D) (SV mc) := sb_67_0 hJ l1 l2 l3 hi_l1
/- 68: FlagMachine$Memory.layRows(IIIIII)V -/
set_option maxRecDepth 20000 in
theorem sb_68_0 {s : cs} {mc : am_H} {D : List pgT} (hJ : J s mc D) (l1 : Int32) (l2 : Int32) (l3 : Int32) (l4 : Int32) (l5 : Int32) (l6 : Int32)  : tb_wp L xs 68 0 [(0, .ref 10), (1, .int l1), (2, .int l2), (3, .int l3), (4, .int l4), (5, .int l5), (6, .int l6)] [] (HH s mc D) (SV mc) := by
  refine wp1 rfl rfl ?_
  refine wp0 rfl rfl ?_
  refine wp0 rfl rfl ?_
  refine wp0 rfl rfl ?_
  refine wp0 rfl rfl ?_
  refine wp0 rfl rfl ?_
  refine wp0 rfl rfl ?_
  refine wpTi (fun z1 ez1 => ?_)
  refine wp1 rfl rfl ?_
  refine wpV (lv' := [(0, .ref 10), (1, .int l1), (2, .int l2), (3, .int l3), (4, .int l4), (5, .int l5), (6, .int l6), (7, .int z1)]) rfl ?_
  refine wp1 rfl rfl ?_
  refine wp0 rfl rfl ?_
  refine wp0 rfl rfl ?_
  refine wp1 rfl rfl ?_
  refine wp4 rfl rfl (sf_67 hJ (0) (0) (l2) (by decide)) (fun rv h1 hq => ?_)
  obtain ⟨s3, D4, hJ5, rfl, rfl⟩ := hq
  refine wp1 rfl rfl ?_
  refine wp0 rfl rfl ?_
  refine wp1 rfl rfl ?_
  refine wp1 rfl rfl ?_
  refine wp4 rfl rfl (sf_67 hJ5 (1) (l3) (l4) (by decide)) (fun rv h1 hq => ?_)
  obtain ⟨s8, D9, hJ10, rfl, rfl⟩ := hq
  refine wp1 rfl rfl ?_
  refine wp0 rfl rfl ?_
  refine wp1 rfl rfl ?_
  refine wp1 rfl rfl ?_
  refine wp4 rfl rfl (sf_67 hJ10 (2) (l5) (l6) (by decide)) (fun rv h1 hq => ?_)
  obtain ⟨s13, D14, hJ15, rfl, rfl⟩ := hq
  refine wp1 rfl rfl ?_
  refine wp0 rfl rfl ?_
  refine wp1 rfl rfl ?_
  refine wp1 rfl rfl ?_
  refine wp4 rfl rfl (sf_67 hJ15 (3) (z1) (z1) (by decide)) (fun rv h1 hq => ?_)
  obtain ⟨s18, D19, hJ20, rfl, rfl⟩ := hq
  refine wp1 rfl rfl ?_
  refine wp0 rfl rfl ?_
  refine wp0 rfl rfl ?_
  refine wp0 rfl rfl ?_
  refine wp4 rfl rfl (sf_67 hJ20 (4) (327936) (393472) (by decide)) (fun rv h1 hq => ?_)
  obtain ⟨s23, D24, hJ25, rfl, rfl⟩ := hq
  exact wp5 rfl rfl ⟨_, _, hJ25, rfl, rfl⟩
theorem sf_68 {s : cs} {mc : am_H} {D : List pgT} (hJ : J s mc D) (l1 : Int32) (l2 : Int32) (l3 : Int32) (l4 : Int32) (l5 : Int32) (l6 : Int32)  : tb_wp L xs 68 0 (lv_args 0 [.ref 10, .int l1, .int l2, .int l3, .int l4, .int l5, .int l6]) [] (HH s mc D) (SV mc) := sb_68_0 hJ l1 l2 l3 l4 l5 l6
/- 69: FlagMachine$Memory.loadImage(LFlagMachine$Stretch;I)V -/
set_option maxRecDepth 20000 in
theorem sb_69_0 {s : cs} {mc : am_H} {D : List pgT} (hJ : J s mc D) (l2 : Int32)  : tb_wp L xs 69 0 [(0, .ref 10), (1, .ref 5), (2, .int l2)] [] (HH s mc D) (SV mc) := by
  refine wp1 rfl rfl ?_
  refine wp3 rfl (am_getf rfl rfl) ?_
  refine wp1 rfl rfl ?_
  refine wp1 rfl rfl ?_
  refine wp4 rfl rfl (sf_107_1_0 hJ (l2)) (fun rv h1 hq => ?_)
  obtain ⟨s2, D3, hJ4, rfl, rfl⟩ := hq
  exact wp5 rfl rfl ⟨_, _, hJ4, rfl, rfl⟩
theorem sf_69 {s : cs} {mc : am_H} {D : List pgT} (hJ : J s mc D) (l2 : Int32)  : tb_wp L xs 69 0 (lv_args 0 [.ref 10, .ref 5, .int l2]) [] (HH s mc D) (SV mc) := sb_69_0 hJ l2
/- 70: FlagMachine$Memory.moveBreak(J)V -/
set_option maxRecDepth 20000 in
theorem sb_70_28 {s : cs} {mc : am_H} {D : List pgT} (hJ : J s mc D)   : tb_wp L xs 70 28 [] [] (HH s mc D) (SV mc) := by
  exact wp5 rfl rfl ⟨_, _, hJ, rfl, rfl⟩
set_option maxRecDepth 20000 in
theorem sb_70_0 {s : cs} {mc : am_H} {D : List pgT} (hJ : J s mc D) (l1 : Int64)  : tb_wp L xs 70 0 [(0, .ref 10), (1, .long l1)] [] (HH s mc D) (SV mc) := by
  refine wp0 rfl rfl ?_
  refine wp1 rfl rfl ?_
  refine wp3 rfl (am_getf rfl rfl) ?_
  refine wp0 rfl rfl ?_
  refine wp3 rfl (am_iald rfl (by decide)) ?_
  refine wp0 rfl rfl ?_
  refine wp0 rfl rfl ?_
  refine wpTl (fun z1 ez1 => ?_)
  refine wp1 rfl rfl ?_
  refine wpV (lv' := [(0, .ref 10), (1, .long l1), (3, .long z1)]) rfl ?_
  refine wp1 rfl rfl ?_
  refine wp1 rfl rfl ?_
  refine wp0 rfl rfl ?_
  refine wp2b rfl rfl (fun c2 => ?_) (fun c2 => ?_)
  · exact wpL rfl rfl (sb_70_28 hJ )
  · refine wp1 rfl rfl ?_
    refine wp1 rfl rfl ?_
    refine wp0 rfl rfl ?_
    refine wp0 rfl rfl ?_
    refine wp0 rfl rfl ?_
    refine wp2b rfl rfl (fun c3 => ?_) (fun c3 => ?_)
    · refine wp1 rfl rfl ?_
      refine wp0 rfl rfl ?_
      refine wp0 rfl rfl ?_
      refine wp0 rfl rfl ?_
      refine wpTi (fun z4 ez4 => ?_)
      refine wp1 rfl rfl ?_
      refine wpV (lv' := [(0, .ref 10), (1, .long l1), (3, .long z1), (5, .int z4)]) rfl ?_
      refine wp1 rfl rfl ?_
      refine wp3 rfl (am_getf rfl rfl) ?_
      refine wp1 rfl rfl ?_
      refine wp1 rfl rfl ?_
      refine wp3 rfl (am_getf rfl rfl) ?_
      refine wp0 rfl rfl ?_
      refine wp3 rfl (am_iald rfl (by decide)) ?_
      refine wp1 rfl rfl ?_
      refine wp0 rfl rfl ?_
      refine wp4 rfl rfl (sf_110_1 hJ (z4) (((g_ends s (Int32.toNatClampNeg 3)) - z4))) (fun rv h1 hq => ?_)
      obtain ⟨s6, D7, hJ8, rfl, rfl⟩ := hq
      refine wp1 rfl rfl ?_
      refine wp3 rfl (am_getf rfl rfl) ?_
      refine wp0 rfl rfl ?_
      refine wp1 rfl rfl ?_
      refine wp3 rfl (am_iast rfl (by decide)) ?_
      have hJ10 : J (s_ends s6 (upd (g_ends s6) (Int32.toNatClampNeg 3) z4)) mc D7 := hJ8
      refine wpH (h' := HH (s_ends s6 (upd (g_ends s6) (Int32.toNatClampNeg 3) z4)) mc D7) rfl ?_
      exact wp5 rfl rfl ⟨_, _, hJ10, rfl, rfl⟩
    · exact wpL rfl rfl (sb_70_28 hJ )
theorem sf_70 {s : cs} {mc : am_H} {D : List pgT} (hJ : J s mc D) (l1 : Int64)  : tb_wp L xs 70 0 (lv_args 0 [.ref 10, .long l1]) [] (HH s mc D) (SV mc) := sb_70_0 hJ l1
/- 72: FlagMachine$Memory.placeOf(J)I -/
set_option maxRecDepth 20000 in
theorem sb_72_49 {s : cs} {mc : am_H} {D : List pgT} (hJ : J s mc D)   : tb_wp L xs 72 49 [] [] (HH s mc D) (SI mc) := by
  refine wp0 rfl rfl ?_
  exact wp5i rfl rfl ⟨_, _, hJ, rfl, _, rfl⟩
set_option maxRecDepth 20000 in
theorem sb_72_23 {s : cs} {mc : am_H} {D : List pgT} (hJ : J s mc D) (l0 : Int64)  : tb_wp L xs 72 23 [(0, .long l0)] [] (HH s mc D) (SI mc) := by
  refine wp1 rfl rfl ?_
  refine wp0 rfl rfl ?_
  refine wp0 rfl rfl ?_
  refine wp2b rfl rfl (fun c1 => ?_) (fun c1 => ?_)
  · exact wpL rfl rfl (sb_72_49 hJ )
  · refine wp1 rfl rfl ?_
    refine wp0 rfl rfl ?_
    refine wp0 rfl rfl ?_
    refine wp2b rfl rfl (fun c2 => ?_) (fun c2 => ?_)
    · exact wpL rfl rfl (sb_72_49 hJ )
    · refine wp0 rfl rfl ?_
      refine wp1 rfl rfl ?_
      refine wp0 rfl rfl ?_
      refine wp0 rfl rfl ?_
      refine wp0 rfl rfl ?_
      refine wp0 rfl rfl ?_
      exact wp5i rfl rfl ⟨_, _, hJ, rfl, _, rfl⟩
set_option maxRecDepth 20000 in
theorem sb_72_0 {s : cs} {mc : am_H} {D : List pgT} (hJ : J s mc D) (l0 : Int64)  : tb_wp L xs 72 0 [(0, .long l0)] [] (HH s mc D) (SI mc) := by
  refine wp1 rfl rfl ?_
  refine wp0 rfl rfl ?_
  refine wp0 rfl rfl ?_
  refine wp2b rfl rfl (fun c3 => ?_) (fun c3 => ?_)
  · exact wpL rfl rfl (sb_72_23 hJ (l0))
  · refine wp1 rfl rfl ?_
    refine wp0 rfl rfl ?_
    refine wp0 rfl rfl ?_
    refine wp2b rfl rfl (fun c4 => ?_) (fun c4 => ?_)
    · exact wpL rfl rfl (sb_72_23 hJ (l0))
    · refine wp1 rfl rfl ?_
      refine wp0 rfl rfl ?_
      refine wp0 rfl rfl ?_
      refine wp0 rfl rfl ?_
      exact wp5i rfl rfl ⟨_, _, hJ, rfl, _, rfl⟩
theorem sf_72 {s : cs} {mc : am_H} {D : List pgT} (hJ : J s mc D) (l0 : Int64)  : tb_wp L xs 72 0 (lv_args 0 [.long l0]) [] (HH s mc D) (SI mc) := sb_72_0 hJ l0
/- 77: FlagMachine$Moves.jump(J)V -/
set_option maxRecDepth 20000 in
theorem sb_77_18 {s : cs} {mc : am_H} {D : List pgT} (hJ : J s mc D)   : tb_wp L xs 77 18 [] [] (HH s mc D) (SV mc) := by
  exact wp5 rfl rfl ⟨_, _, hJ, rfl, rfl⟩
set_option maxRecDepth 20000 in
theorem sb_77_0 {s : cs} {mc : am_H} {D : List pgT} (hJ : J s mc D) (l1 : Int64)  : tb_wp L xs 77 0 [(0, .ref 18), (1, .long l1)] [] (HH s mc D) (SV mc) := by
  refine wp1 rfl rfl ?_
  refine wp3 rfl (am_getf rfl rfl) ?_
  refine wp3 rfl (am_getf rfl rfl) ?_
  refine wp2b rfl rfl (fun c1 => ?_) (fun c1 => ?_)
  · refine wp1 rfl rfl ?_
    refine wp3 rfl (am_getf rfl rfl) ?_
    refine wp1 rfl rfl ?_
    refine wp3 rfl (am_putf rfl (Nat.le_of_ble_eq_true rfl) rfl rfl) ?_
    have hJ2 : J (s_next s l1) mc D := hJ
    refine wpH (h' := HH (s_next s l1) mc D) rfl ?_
    exact wpL rfl rfl (sb_77_18 hJ2 )
  · exact wpL rfl rfl (sb_77_18 hJ )
theorem sf_77 {s : cs} {mc : am_H} {D : List pgT} (hJ : J s mc D) (l1 : Int64)  : tb_wp L xs 77 0 (lv_args 0 [.ref 18, .long l1]) [] (HH s mc D) (SV mc) := sb_77_0 hJ l1
/- 91: FlagMachine$Products.divideUnsigned(JI)Z -/
set_option maxRecDepth 20000 in
theorem sb_91_30 (n : Nat) : ∀ {s : cs} {mc : am_H} {D : List pgT} (hJ : J s mc D) (l1 : Int64) (l4 : Int64) (l6 : Int64) (l8 : Int32)  (hm : ((l8 : Int32).toInt + 1).toNat < n), tb_wp L xs 91 30 [(0, .ref 16), (1, .long l1), (4, .long l4), (6, .long l6), (8, .int l8)] [] (HH s mc D) (SZ mc) := by
  induction n with
  | zero => intro s mc D hJ l1 l4 l6 l8 hm; exact absurd hm (Nat.not_lt_zero _)
  | succ n ih =>
    intro s mc D hJ l1 l4 l6 l8 hm
    refine wp1 rfl rfl ?_
    refine wp2b rfl rfl (fun c1 => ?_) (fun c1 => ?_)
    · refine wp1 rfl rfl ?_
      refine wp1 rfl rfl ?_
      refine wp3 rfl (am_putf rfl (Nat.le_of_ble_eq_true rfl) rfl rfl) ?_
      have hJ2 : J (s_quot s l6) mc D := hJ
      refine wpH (h' := HH (s_quot s l6) mc D) rfl ?_
      refine wp1 rfl rfl ?_
      refine wp1 rfl rfl ?_
      refine wp3 rfl (am_putf rfl (Nat.le_of_ble_eq_true rfl) rfl rfl) ?_
      have hJ3 : J (s_rest (s_quot s l6) l4) mc D := hJ2
      refine wpH (h' := HH (s_rest (s_quot s l6) l4) mc D) rfl ?_
      refine wp0 rfl rfl ?_
      exact wp5z rfl rfl b1 ⟨_, _, hJ3, rfl, _, rfl, b1⟩
    · refine wp1 rfl rfl ?_
      refine wp0 rfl rfl ?_
      refine wp0 rfl rfl ?_
      refine wp2b rfl rfl (fun c4 => ?_) (fun c4 => ?_)
      · refine wp0 rfl rfl ?_
        refine wp1 rfl rfl ?_
        refine wpV (lv' := [(0, .ref 16), (1, .long l1), (4, .long l4), (6, .long l6), (8, .int l8), (9, .int 0)]) rfl ?_
        refine wp1 rfl rfl ?_
        refine wp0 rfl rfl ?_
        refine wp0 rfl rfl ?_
        refine wp1 rfl rfl ?_
        refine wp3 rfl (am_getf rfl rfl) ?_
        refine wp1 rfl rfl ?_
        refine wp0 rfl rfl ?_
        refine wp0 rfl rfl ?_
        refine wp0 rfl rfl ?_
        refine wp0 rfl rfl ?_
        refine wpTl (fun z5 ez5 => ?_)
        refine wp1 rfl rfl ?_
        refine wpV (lv' := [(0, .ref 16), (1, .long l1), (4, .long z5), (6, .long l6), (8, .int l8), (9, .int 0)]) rfl ?_
        refine wp1 rfl rfl ?_
        refine wp0 rfl rfl ?_
        refine wp0 rfl rfl ?_
        refine wpTl (fun z6 ez6 => ?_)
        refine wp1 rfl rfl ?_
        refine wpV (lv' := [(0, .ref 16), (1, .long l1), (4, .long z5), (6, .long z6), (8, .int l8), (9, .int 0)]) rfl ?_
        refine wp1 rfl rfl ?_
        refine wp2b rfl rfl (fun c7 => ?_) (fun c7 => ?_)
        · refine wp1 rfl rfl ?_
          refine wp1 rfl rfl ?_
          refine wp4 rfl rfl (sf_3 hJ (z5) (l1)) (fun rv h1 hq => ?_)
          obtain ⟨s9, D10, hJ11, rfl, x12, rfl, hb_x12⟩ := hq
          refine wp2b rfl rfl (fun c13 => ?_) (fun c13 => ?_)
          · refine wp1 rfl rfl ?_
            refine wp1 rfl rfl ?_
            refine wp0 rfl rfl ?_
            refine wpTl (fun z14 ez14 => ?_)
            refine wp1 rfl rfl ?_
            refine wpV (lv' := [(0, .ref 16), (1, .long l1), (4, .long z14), (6, .long z6), (8, .int l8)]) rfl ?_
            refine wp1 rfl rfl ?_
            refine wp0 rfl rfl ?_
            refine wp0 rfl rfl ?_
            refine wpTl (fun z15 ez15 => ?_)
            refine wp1 rfl rfl ?_
            refine wpV (lv' := [(0, .ref 16), (1, .long l1), (4, .long z14), (6, .long z15), (8, .int l8)]) rfl ?_
            refine wp1 rfl rfl ?_
            refine wpV (lv' := [(0, .ref 16), (1, .long l1), (4, .long z14), (6, .long z15), (8, .int (l8 + (-1)))]) rfl ?_
            refine wp2 rfl rfl ?_
            exact wpL rfl rfl (ih hJ11 (l1) (z14) (z15) ((l8 + (-1))) (i32_down c1 hm))
          · refine wp1 rfl rfl ?_
            refine wpV (lv' := [(0, .ref 16), (1, .long l1), (4, .long z5), (6, .long z6), (8, .int (l8 + (-1)))]) rfl ?_
            refine wp2 rfl rfl ?_
            exact wpL rfl rfl (ih hJ11 (l1) (z5) (z6) ((l8 + (-1))) (i32_down c1 hm))
        · refine wp1 rfl rfl ?_
          refine wp1 rfl rfl ?_
          refine wp0 rfl rfl ?_
          refine wpTl (fun z16 ez16 => ?_)
          refine wp1 rfl rfl ?_
          refine wpV (lv' := [(0, .ref 16), (1, .long l1), (4, .long z16), (6, .long z6), (8, .int l8)]) rfl ?_
          refine wp1 rfl rfl ?_
          refine wp0 rfl rfl ?_
          refine wp0 rfl rfl ?_
          refine wpTl (fun z17 ez17 => ?_)
          refine wp1 rfl rfl ?_
          refine wpV (lv' := [(0, .ref 16), (1, .long l1), (4, .long z16), (6, .long z17), (8, .int l8)]) rfl ?_
          refine wp1 rfl rfl ?_
          refine wpV (lv' := [(0, .ref 16), (1, .long l1), (4, .long z16), (6, .long z17), (8, .int (l8 + (-1)))]) rfl ?_
          refine wp2 rfl rfl ?_
          exact wpL rfl rfl (ih hJ (l1) (z16) (z17) ((l8 + (-1))) (i32_down c1 hm))
      · refine wp0 rfl rfl ?_
        refine wp2 rfl rfl ?_
        refine wp1 rfl rfl ?_
        refine wpV (lv' := [(0, .ref 16), (1, .long l1), (4, .long l4), (6, .long l6), (8, .int l8), (9, .int 1)]) rfl ?_
        refine wp1 rfl rfl ?_
        refine wp0 rfl rfl ?_
        refine wp0 rfl rfl ?_
        refine wp1 rfl rfl ?_
        refine wp3 rfl (am_getf rfl rfl) ?_
        refine wp1 rfl rfl ?_
        refine wp0 rfl rfl ?_
        refine wp0 rfl rfl ?_
        refine wp0 rfl rfl ?_
        refine wp0 rfl rfl ?_
        refine wpTl (fun z18 ez18 => ?_)
        refine wp1 rfl rfl ?_
        refine wpV (lv' := [(0, .ref 16), (1, .long l1), (4, .long z18), (6, .long l6), (8, .int l8), (9, .int 1)]) rfl ?_
        refine wp1 rfl rfl ?_
        refine wp0 rfl rfl ?_
        refine wp0 rfl rfl ?_
        refine wpTl (fun z19 ez19 => ?_)
        refine wp1 rfl rfl ?_
        refine wpV (lv' := [(0, .ref 16), (1, .long l1), (4, .long z18), (6, .long z19), (8, .int l8), (9, .int 1)]) rfl ?_
        refine wp1 rfl rfl ?_
        refine wp2b rfl rfl (fun c20 => ?_) (fun c20 => ?_)
        · refine wp1 rfl rfl ?_
          refine wp1 rfl rfl ?_
          refine wp4 rfl rfl (sf_3 hJ (z18) (l1)) (fun rv h1 hq => ?_)
          obtain ⟨s22, D23, hJ24, rfl, x25, rfl, hb_x25⟩ := hq
          refine wp2b rfl rfl (fun c26 => ?_) (fun c26 => ?_)
          · refine wp1 rfl rfl ?_
            refine wp1 rfl rfl ?_
            refine wp0 rfl rfl ?_
            refine wpTl (fun z27 ez27 => ?_)
            refine wp1 rfl rfl ?_
            refine wpV (lv' := [(0, .ref 16), (1, .long l1), (4, .long z27), (6, .long z19), (8, .int l8)]) rfl ?_
            refine wp1 rfl rfl ?_
            refine wp0 rfl rfl ?_
            refine wp0 rfl rfl ?_
            refine wpTl (fun z28 ez28 => ?_)
            refine wp1 rfl rfl ?_
            refine wpV (lv' := [(0, .ref 16), (1, .long l1), (4, .long z27), (6, .long z28), (8, .int l8)]) rfl ?_
            refine wp1 rfl rfl ?_
            refine wpV (lv' := [(0, .ref 16), (1, .long l1), (4, .long z27), (6, .long z28), (8, .int (l8 + (-1)))]) rfl ?_
            refine wp2 rfl rfl ?_
            exact wpL rfl rfl (ih hJ24 (l1) (z27) (z28) ((l8 + (-1))) (i32_down c1 hm))
          · refine wp1 rfl rfl ?_
            refine wpV (lv' := [(0, .ref 16), (1, .long l1), (4, .long z18), (6, .long z19), (8, .int (l8 + (-1)))]) rfl ?_
            refine wp2 rfl rfl ?_
            exact wpL rfl rfl (ih hJ24 (l1) (z18) (z19) ((l8 + (-1))) (i32_down c1 hm))
        · refine wp1 rfl rfl ?_
          refine wp1 rfl rfl ?_
          refine wp0 rfl rfl ?_
          refine wpTl (fun z29 ez29 => ?_)
          refine wp1 rfl rfl ?_
          refine wpV (lv' := [(0, .ref 16), (1, .long l1), (4, .long z29), (6, .long z19), (8, .int l8)]) rfl ?_
          refine wp1 rfl rfl ?_
          refine wp0 rfl rfl ?_
          refine wp0 rfl rfl ?_
          refine wpTl (fun z30 ez30 => ?_)
          refine wp1 rfl rfl ?_
          refine wpV (lv' := [(0, .ref 16), (1, .long l1), (4, .long z29), (6, .long z30), (8, .int l8)]) rfl ?_
          refine wp1 rfl rfl ?_
          refine wpV (lv' := [(0, .ref 16), (1, .long l1), (4, .long z29), (6, .long z30), (8, .int (l8 + (-1)))]) rfl ?_
          refine wp2 rfl rfl ?_
          exact wpL rfl rfl (ih hJ (l1) (z29) (z30) ((l8 + (-1))) (i32_down c1 hm))
set_option maxRecDepth 20000 in
theorem sb_91_0 {s : cs} {mc : am_H} {D : List pgT} (hJ : J s mc D) (l1 : Int64) (l3 : Int32)  : tb_wp L xs 91 0 [(0, .ref 16), (1, .long l1), (3, .int l3)] [] (HH s mc D) (SZ mc) := by
  refine wp1 rfl rfl ?_
  refine wp3 rfl (am_getf rfl rfl) ?_
  refine wp1 rfl rfl ?_
  refine wp4 rfl rfl (sf_3 hJ ((g_upper s)) (l1)) (fun rv h1 hq => ?_)
  obtain ⟨s32, D33, hJ34, rfl, x35, rfl, hb_x35⟩ := hq
  refine wp2b rfl rfl (fun c36 => ?_) (fun c36 => ?_)
  · refine wp0 rfl rfl ?_
    exact wp5z rfl rfl b0 ⟨_, _, hJ34, rfl, _, rfl, b0⟩
  · refine wp1 rfl rfl ?_
    refine wp3 rfl (am_getf rfl rfl) ?_
    refine wpTl (fun z37 ez37 => ?_)
    refine wp1 rfl rfl ?_
    refine wpV (lv' := [(0, .ref 16), (1, .long l1), (3, .int l3), (4, .long z37)]) rfl ?_
    refine wp0 rfl rfl ?_
    refine wp1 rfl rfl ?_
    refine wpV (lv' := [(0, .ref 16), (1, .long l1), (3, .int l3), (4, .long z37), (6, .long 0)]) rfl ?_
    refine wp0 rfl rfl ?_
    refine wp1 rfl rfl ?_
    refine wp0 rfl rfl ?_
    refine wp0 rfl rfl ?_
    refine wp0 rfl rfl ?_
    refine wpTi (fun z38 ez38 => ?_)
    refine wp1 rfl rfl ?_
    refine wpV (lv' := [(0, .ref 16), (1, .long l1), (3, .int l3), (4, .long z37), (6, .long 0), (8, .int z38)]) rfl ?_
    exact wpL rfl rfl (sb_91_30 _ hJ34 (l1) (z37) (0) (z38) (Nat.lt_succ_self _))
theorem sf_91 {s : cs} {mc : am_H} {D : List pgT} (hJ : J s mc D) (l1 : Int64) (l3 : Int32)  : tb_wp L xs 91 0 (lv_args 0 [.ref 16, .long l1, .int l3]) [] (HH s mc D) (SZ mc) := sb_91_0 hJ l1 l3
/- 92: FlagMachine$Products.highOf(JJ)J -/
set_option maxRecDepth 20000 in
theorem sb_92_0 {s : cs} {mc : am_H} {D : List pgT} (hJ : J s mc D) (l0 : Int64) (l2 : Int64)  : tb_wp L xs 92 0 [(0, .long l0), (2, .long l2)] [] (HH s mc D) (SJ mc) := by
  refine wp0 rfl rfl ?_
  refine wp4 rfl rfl (sf_7 hJ (4)) (fun rv h1 hq => ?_)
  obtain ⟨s2, D3, hJ4, rfl, x5, rfl⟩ := hq
  refine wp1 rfl rfl ?_
  refine wpV (lv' := [(0, .long l0), (2, .long l2), (4, .long x5)]) rfl ?_
  refine wp1 rfl rfl ?_
  refine wp1 rfl rfl ?_
  refine wp0 rfl rfl ?_
  refine wpTl (fun z6 ez6 => ?_)
  refine wp1 rfl rfl ?_
  refine wpV (lv' := [(0, .long l0), (2, .long l2), (4, .long x5), (6, .long z6)]) rfl ?_
  refine wp1 rfl rfl ?_
  refine wp0 rfl rfl ?_
  refine wp0 rfl rfl ?_
  refine wpTl (fun z7 ez7 => ?_)
  refine wp1 rfl rfl ?_
  refine wpV (lv' := [(0, .long l0), (2, .long l2), (4, .long x5), (6, .long z6), (8, .long z7)]) rfl ?_
  refine wp1 rfl rfl ?_
  refine wp1 rfl rfl ?_
  refine wp0 rfl rfl ?_
  refine wpTl (fun z8 ez8 => ?_)
  refine wp1 rfl rfl ?_
  refine wpV (lv' := [(0, .long l0), (2, .long l2), (4, .long x5), (6, .long z6), (8, .long z7), (10, .long z8)]) rfl ?_
  refine wp1 rfl rfl ?_
  refine wp0 rfl rfl ?_
  refine wp0 rfl rfl ?_
  refine wpTl (fun z9 ez9 => ?_)
  refine wp1 rfl rfl ?_
  refine wpV (lv' := [(0, .long l0), (2, .long l2), (4, .long x5), (6, .long z6), (8, .long z7), (10, .long z8), (12, .long z9)]) rfl ?_
  refine wp1 rfl rfl ?_
  refine wp1 rfl rfl ?_
  refine wp0 rfl rfl ?_
  refine wp1 rfl rfl ?_
  refine wp1 rfl rfl ?_
  refine wp0 rfl rfl ?_
  refine wp0 rfl rfl ?_
  refine wp0 rfl rfl ?_
  refine wp0 rfl rfl ?_
  refine wpTl (fun z10 ez10 => ?_)
  refine wp1 rfl rfl ?_
  refine wpV (lv' := [(0, .long l0), (2, .long l2), (4, .long x5), (6, .long z6), (8, .long z7), (10, .long z8), (12, .long z9), (14, .long z10)]) rfl ?_
  refine wp1 rfl rfl ?_
  refine wp1 rfl rfl ?_
  refine wp0 rfl rfl ?_
  refine wp1 rfl rfl ?_
  refine wp1 rfl rfl ?_
  refine wp0 rfl rfl ?_
  refine wp0 rfl rfl ?_
  refine wpTl (fun z11 ez11 => ?_)
  refine wp1 rfl rfl ?_
  refine wpV (lv' := [(0, .long l0), (2, .long l2), (4, .long x5), (6, .long z6), (8, .long z7), (10, .long z8), (12, .long z9), (14, .long z10), (16, .long z11)]) rfl ?_
  refine wp1 rfl rfl ?_
  refine wp1 rfl rfl ?_
  refine wp0 rfl rfl ?_
  refine wp1 rfl rfl ?_
  refine wp0 rfl rfl ?_
  refine wp0 rfl rfl ?_
  refine wp0 rfl rfl ?_
  refine wp1 rfl rfl ?_
  refine wp0 rfl rfl ?_
  refine wp0 rfl rfl ?_
  refine wp0 rfl rfl ?_
  exact wp5 rfl rfl ⟨_, _, hJ4, rfl, _, rfl⟩
theorem sf_92 {s : cs} {mc : am_H} {D : List pgT} (hJ : J s mc D) (l0 : Int64) (l2 : Int64)  : tb_wp L xs 92 0 (lv_args 0 [.long l0, .long l2]) [] (HH s mc D) (SJ mc) := sb_92_0 hJ l0 l2
/- 93: FlagMachine$Products.multiply(JJIZ)V -/
set_option maxRecDepth 20000 in
theorem sb_93_139 {s : cs} {mc : am_H} {D : List pgT} (hJ : J s mc D)   : tb_wp L xs 93 139 [] [] (HH s mc D) (SV mc) := by
  exact wp5 rfl rfl ⟨_, _, hJ, rfl, rfl⟩
set_option maxRecDepth 20000 in
theorem sb_93_101 {s : cs} {mc : am_H} {D : List pgT} (hJ : J s mc D) (k1 : Int64) (k2 : Int64) (k3 : Int64)  : tb_wp L xs 93 101 [] [.long k3, .long k2, .long k1, .ref 16] (HH s mc D) (SV mc) := by
  refine wp0 rfl rfl ?_
  refine wp0 rfl rfl ?_
  refine wp3 rfl (am_putf rfl (Nat.le_of_ble_eq_true rfl) rfl rfl) ?_
  have hJ1 : J (s_upper s (k1 - (k2 + k3))) mc D := hJ
  refine wpH (h' := HH (s_upper s (k1 - (k2 + k3))) mc D) rfl ?_
  refine wp2 rfl rfl ?_
  exact wpL rfl rfl (sb_93_139 hJ1 )
set_option maxRecDepth 20000 in
theorem sb_93_88 {s : cs} {mc : am_H} {D : List pgT} (hJ : J s mc D) (l7 : Int64) (l9 : Int64) (k1 : Int64) (k2 : Int64)  : tb_wp L xs 93 88 [(7, .long l7), (9, .long l9)] [.long k2, .long k1, .ref 16] (HH s mc D) (SV mc) := by
  refine wp1 rfl rfl ?_
  refine wp0 rfl rfl ?_
  refine wp0 rfl rfl ?_
  refine wp2b rfl rfl (fun c2 => ?_) (fun c2 => ?_)
  · refine wp0 rfl rfl ?_
    exact wpL rfl rfl (sb_93_101 hJ (k1) (k2) (0))
  · refine wp1 rfl rfl ?_
    refine wp2 rfl rfl ?_
    exact wpL rfl rfl (sb_93_101 hJ (k1) (k2) (l7))
set_option maxRecDepth 20000 in
theorem sb_93_32 {s : cs} {mc : am_H} {D : List pgT} (hJ : J s mc D) (l5 : Int32) (l6 : Int32) (l7 : Int64) (k0 : Int64) (hb_l6 : b01 l6) : tb_wp L xs 93 32 [(0, .ref 16), (5, .int l5), (6, .int l6), (7, .long l7)] [.long k0] (HH s mc D) (SV mc) := by
  refine wp1 rfl rfl ?_
  refine wpV (lv' := [(0, .ref 16), (5, .int l5), (6, .int l6), (7, .long l7), (9, .long k0)]) rfl ?_
  refine wp1 rfl rfl ?_
  refine wp1 rfl rfl ?_
  refine wp0 rfl rfl ?_
  refine wpTl (fun z3 ez3 => ?_)
  refine wp1 rfl rfl ?_
  refine wpV (lv' := [(0, .ref 16), (5, .int l5), (6, .int l6), (7, .long l7), (9, .long k0), (11, .long z3)]) rfl ?_
  refine wp1 rfl rfl ?_
  refine wp0 rfl rfl ?_
  refine wp2b rfl rfl (fun c4 => ?_) (fun c4 => ?_)
  · refine wp1 rfl rfl ?_
    refine wp1 rfl rfl ?_
    refine wp3 rfl (am_putf rfl (Nat.le_of_ble_eq_true rfl) rfl rfl) ?_
    have hJ5 : J (s_lower s z3) mc D := hJ
    refine wpH (h' := HH (s_lower s z3) mc D) rfl ?_
    refine wp1 rfl rfl ?_
    refine wp1 rfl rfl ?_
    refine wp1 rfl rfl ?_
    refine wp4 rfl rfl (sf_92 hJ5 (l7) (k0)) (fun rv h1 hq => ?_)
    obtain ⟨s7, D8, hJ9, rfl, x10, rfl⟩ := hq
    refine wp3 rfl (am_putf rfl (Nat.le_of_ble_eq_true rfl) rfl rfl) ?_
    have hJ11 : J (s_upper s7 x10) mc D8 := hJ9
    refine wpH (h' := HH (s_upper s7 x10) mc D8) rfl ?_
    refine wp1 rfl rfl ?_
    refine wp2b rfl rfl (fun c12 => ?_) (fun c12 => ?_)
    · exact wpL rfl rfl (sb_93_139 hJ11 )
    · refine wp1 rfl rfl ?_
      refine wp0 rfl rfl ?_
      refine wp3 rfl (am_getf rfl rfl) ?_
      refine wp1 rfl rfl ?_
      refine wp0 rfl rfl ?_
      refine wp0 rfl rfl ?_
      refine wp2b rfl rfl (fun c13 => ?_) (fun c13 => ?_)
      · refine wp0 rfl rfl ?_
        exact wpL rfl rfl (sb_93_88 hJ11 (l7) (k0) ((g_upper (s_upper s7 x10))) (0))
      · refine wp1 rfl rfl ?_
        refine wp2 rfl rfl ?_
        exact wpL rfl rfl (sb_93_88 hJ11 (l7) (k0) ((g_upper (s_upper s7 x10))) (k0))
  · refine wp1 rfl rfl ?_
    refine wp1 rfl rfl ?_
    refine wp1 rfl rfl ?_
    refine wp4 rfl rfl (sf_7 hJ (l5)) (fun rv h1 hq => ?_)
    obtain ⟨s15, D16, hJ17, rfl, x18, rfl⟩ := hq
    refine wp0 rfl rfl ?_
    refine wp3 rfl (am_putf rfl (Nat.le_of_ble_eq_true rfl) rfl rfl) ?_
    have hJ19 : J (s_lower s15 (z3 &&& x18)) mc D16 := hJ17
    refine wpH (h' := HH (s_lower s15 (z3 &&& x18)) mc D16) rfl ?_
    refine wp1 rfl rfl ?_
    refine wp1 rfl rfl ?_
    refine wp0 rfl rfl ?_
    refine wp1 rfl rfl ?_
    refine wp0 rfl rfl ?_
    refine wp0 rfl rfl ?_
    refine wp1 rfl rfl ?_
    refine wp4 rfl rfl (sf_7 hJ19 (l5)) (fun rv h1 hq => ?_)
    obtain ⟨s21, D22, hJ23, rfl, x24, rfl⟩ := hq
    refine wp0 rfl rfl ?_
    refine wp3 rfl (am_putf rfl (Nat.le_of_ble_eq_true rfl) rfl rfl) ?_
    have hJ25 : J (s_upper s21 (((Int64.toUInt64 z3 >>> ((Int32.toInt64 (8 * l5)).toUInt64 &&& Int64.toUInt64 63)).toInt64) &&& x24)) mc D22 := hJ23
    refine wpH (h' := HH (s_upper s21 (((Int64.toUInt64 z3 >>> ((Int32.toInt64 (8 * l5)).toUInt64 &&& Int64.toUInt64 63)).toInt64) &&& x24)) mc D22) rfl ?_
    exact wpL rfl rfl (sb_93_139 hJ25 )
set_option maxRecDepth 20000 in
theorem sb_93_15 {s : cs} {mc : am_H} {D : List pgT} (hJ : J s mc D) (l3 : Int64) (l5 : Int32) (l6 : Int32) (k0 : Int64) (hb_l6 : b01 l6) : tb_wp L xs 93 15 [(0, .ref 16), (3, .long l3), (5, .int l5), (6, .int l6)] [.long k0] (HH s mc D) (SV mc) := by
  refine wp1 rfl rfl ?_
  refine wpV (lv' := [(0, .ref 16), (3, .long l3), (5, .int l5), (6, .int l6), (7, .long k0)]) rfl ?_
  refine wp1 rfl rfl ?_
  refine wp2b rfl rfl (fun c26 => ?_) (fun c26 => ?_)
  · refine wp1 rfl rfl ?_
    exact wpL rfl rfl (sb_93_32 hJ (l5) (l6) (k0) (l3) hb_l6)
  · refine wp1 rfl rfl ?_
    refine wp1 rfl rfl ?_
    refine wp4 rfl rfl (sf_17 hJ (l3) (l5)) (fun rv h1 hq => ?_)
    obtain ⟨s28, D29, hJ30, rfl, x31, rfl⟩ := hq
    refine wp2 rfl rfl ?_
    exact wpL rfl rfl (sb_93_32 hJ30 (l5) (l6) (k0) (x31) hb_l6)
set_option maxRecDepth 20000 in
theorem sb_93_0 {s : cs} {mc : am_H} {D : List pgT} (hJ : J s mc D) (l1 : Int64) (l3 : Int64) (l5 : Int32) (l6 : Int32) (hb_l6 : b01 l6) : tb_wp L xs 93 0 [(0, .ref 16), (1, .long l1), (3, .long l3), (5, .int l5), (6, .int l6)] [] (HH s mc D) (SV mc) := by
  refine wp1 rfl rfl ?_
  refine wp2b rfl rfl (fun c32 => ?_) (fun c32 => ?_)
  · refine wp1 rfl rfl ?_
    exact wpL rfl rfl (sb_93_15 hJ (l3) (l5) (l6) (l1) hb_l6)
  · refine wp1 rfl rfl ?_
    refine wp1 rfl rfl ?_
    refine wp4 rfl rfl (sf_17 hJ (l1) (l5)) (fun rv h1 hq => ?_)
    obtain ⟨s34, D35, hJ36, rfl, x37, rfl⟩ := hq
    refine wp2 rfl rfl ?_
    exact wpL rfl rfl (sb_93_15 hJ36 (l3) (l5) (l6) (x37) hb_l6)
theorem sf_93 {s : cs} {mc : am_H} {D : List pgT} (hJ : J s mc D) (l1 : Int64) (l3 : Int64) (l5 : Int32) (l6 : Int32) (hb_l6 : b01 l6) : tb_wp L xs 93 0 (lv_args 0 [.ref 16, .long l1, .long l3, .int l5, .int l6]) [] (HH s mc D) (SV mc) := sb_93_0 hJ l1 l3 l5 l6 hb_l6
/- 97: FlagMachine$Products.putPair(JJ)V -/
set_option maxRecDepth 20000 in
theorem sb_97_55 {s : cs} {mc : am_H} {D : List pgT} (hJ : J s mc D)   : tb_wp L xs 97 55 [] [] (HH s mc D) (SV mc) := by
  exact wp5 rfl rfl ⟨_, _, hJ, rfl, rfl⟩
set_option maxRecDepth 20000 in
theorem sb_97_0 {s : cs} {mc : am_H} {D : List pgT} (hJ : J s mc D) (l1 : Int64) (l3 : Int64)  : tb_wp L xs 97 0 [(0, .ref 16), (1, .long l1), (3, .long l3)] [] (HH s mc D) (SV mc) := by
  refine wp1 rfl rfl ?_
  refine wp3 rfl (am_getf rfl rfl) ?_
  refine wp3 rfl (am_getf rfl rfl) ?_
  refine wpTi (fun z1 ez1 => ?_)
  refine wp1 rfl rfl ?_
  refine wpV (lv' := [(0, .ref 16), (1, .long l1), (3, .long l3), (5, .int z1)]) rfl ?_
  refine wp1 rfl rfl ?_
  refine wp3 rfl (am_getf rfl rfl) ?_
  refine wp0 rfl rfl ?_
  refine wp1 rfl rfl ?_
  refine wp1 rfl rfl ?_
  refine wp4 rfl rfl (sf_37 hJ (0) (z1) (l1) (by decide)) (fun rv h1 hq => ?_)
  obtain ⟨s3, D4, hJ5, rfl, rfl⟩ := hq
  refine wp1 rfl rfl ?_
  refine wp0 rfl rfl ?_
  refine wp2b rfl rfl (fun c7 => ?_) (fun c7 => ?_)
  · refine wp1 rfl rfl ?_
    refine wp3 rfl (am_getf rfl rfl) ?_
    refine wp0 rfl rfl ?_
    refine wp0 rfl rfl ?_
    refine wp1 rfl rfl ?_
    refine wp0 rfl rfl ?_
    refine wp0 rfl rfl ?_
    refine wp1 rfl rfl ?_
    refine wp0 rfl rfl ?_
    refine wp4 rfl rfl (sf_37 hJ5 (0) (2) (((l3 <<< (Int32.toInt64 8 &&& 63)) ||| l1)) (by decide)) (fun rv h1 hq => ?_)
    obtain ⟨s9, D10, hJ11, rfl, rfl⟩ := hq
    refine wp2 rfl rfl ?_
    exact wpL rfl rfl (sb_97_55 hJ11 )
  · refine wp1 rfl rfl ?_
    refine wp3 rfl (am_getf rfl rfl) ?_
    refine wp0 rfl rfl ?_
    refine wp1 rfl rfl ?_
    refine wp1 rfl rfl ?_
    refine wp4 rfl rfl (sf_37 hJ5 (2) (z1) (l3) (by decide)) (fun rv h1 hq => ?_)
    obtain ⟨s14, D15, hJ16, rfl, rfl⟩ := hq
    exact wpL rfl rfl (sb_97_55 hJ16 )
theorem sf_97 {s : cs} {mc : am_H} {D : List pgT} (hJ : J s mc D) (l1 : Int64) (l3 : Int64)  : tb_wp L xs 97 0 (lv_args 0 [.ref 16, .long l1, .long l3]) [] (HH s mc D) (SV mc) := sb_97_0 hJ l1 l3
/- 98: FlagMachine$Products.signFill(JI)J -/
set_option maxRecDepth 20000 in
theorem sb_98_19 {s : cs} {mc : am_H} {D : List pgT} (hJ : J s mc D) (k0 : Int64)  : tb_wp L xs 98 19 [] [.long k0] (HH s mc D) (SJ mc) := by
  exact wp5 rfl rfl ⟨_, _, hJ, rfl, _, rfl⟩
set_option maxRecDepth 20000 in
theorem sb_98_0 {s : cs} {mc : am_H} {D : List pgT} (hJ : J s mc D) (l0 : Int64) (l2 : Int32)  : tb_wp L xs 98 0 [(0, .long l0), (2, .int l2)] [] (HH s mc D) (SJ mc) := by
  refine wp1 rfl rfl ?_
  refine wp1 rfl rfl ?_
  refine wp4 rfl rfl (sf_19 hJ (l2)) (fun rv h1 hq => ?_)
  obtain ⟨s2, D3, hJ4, rfl, x5, rfl⟩ := hq
  refine wp0 rfl rfl ?_
  refine wp0 rfl rfl ?_
  refine wp0 rfl rfl ?_
  refine wp2b rfl rfl (fun c6 => ?_) (fun c6 => ?_)
  · refine wp0 rfl rfl ?_
    exact wpL rfl rfl (sb_98_19 hJ4 (0))
  · refine wp1 rfl rfl ?_
    refine wp4 rfl rfl (sf_7 hJ4 (l2)) (fun rv h1 hq => ?_)
    obtain ⟨s8, D9, hJ10, rfl, x11, rfl⟩ := hq
    refine wp2 rfl rfl ?_
    exact wpL rfl rfl (sb_98_19 hJ10 (x11))
theorem sf_98 {s : cs} {mc : am_H} {D : List pgT} (hJ : J s mc D) (l0 : Int64) (l2 : Int32)  : tb_wp L xs 98 0 (lv_args 0 [.long l0, .int l2]) [] (HH s mc D) (SJ mc) := sb_98_0 hJ l0 l2
/- 100: FlagMachine$Services.appendInput(JI)Z -/
set_option maxRecDepth 20000 in
theorem sb_100_29 (n : Nat) : ∀ {s : cs} {mc : am_H} {D : List pgT} (hJ : J s mc D) (l1 : Int64) (l4 : Int32)  (hm : ((l4 : Int32).toInt + 1).toNat < n), tb_wp L xs 100 29 [(0, .ref 19), (1, .long l1), (4, .int l4)] [] (HH s mc D) (SZ mc) := by
  induction n with
  | zero => intro s mc D hJ l1 l4 hm; exact absurd hm (Nat.not_lt_zero _)
  | succ n ih =>
    intro s mc D hJ l1 l4 hm
    refine wp1 rfl rfl ?_
    refine wp2b rfl rfl (fun c1 => ?_) (fun c1 => ?_)
    · refine wp0 rfl rfl ?_
      exact wp5z rfl rfl b1 ⟨_, _, hJ, rfl, _, rfl, b1⟩
    · refine wp1 rfl rfl ?_
      refine wp3 rfl (am_getf rfl rfl) ?_
      refine wp1 rfl rfl ?_
      refine wp3 rfl (am_getf rfl rfl) ?_
      refine wp1 rfl rfl ?_
      refine wp3 rfl (am_getf rfl rfl) ?_
      refine wp0 rfl rfl ?_
      refine wp0 rfl rfl ?_
      refine wp0 rfl rfl ?_
      refine wp1 rfl rfl ?_
      refine wp0 rfl rfl ?_
      refine wp1 rfl rfl ?_
      refine wp0 rfl rfl ?_
      refine wp0 rfl rfl ?_
      refine wp0 rfl rfl ?_
      refine wp0 rfl rfl ?_
      refine wp0 rfl rfl ?_
      refine wp4 rfl rfl (sf_116_2 hJ ((((g_first s) + (g_waiting s)) - ((g_first s) + (g_waiting s)) / 65536 * 65536)) (((Int64.toInt32 ((Int64.toUInt64 l1 >>> ((Int32.toInt64 (8 * l4)).toUInt64 &&& Int64.toUInt64 63)).toInt64)) &&& 255))) (fun rv h1 hq => ?_)
      obtain ⟨s3, D4, hJ5, rfl, rfl⟩ := hq
      refine wp1 rfl rfl ?_
      refine wp0 rfl rfl ?_
      refine wp3 rfl (am_getf rfl rfl) ?_
      refine wp0 rfl rfl ?_
      refine wp0 rfl rfl ?_
      refine wp3 rfl (am_putf rfl (Nat.le_of_ble_eq_true rfl) rfl rfl) ?_
      have hJ7 : J (s_waiting s3 ((g_waiting s3) + 1)) mc D4 := hJ5
      refine wpH (h' := HH (s_waiting s3 ((g_waiting s3) + 1)) mc D4) rfl ?_
      refine wp1 rfl rfl ?_
      refine wpV (lv' := [(0, .ref 19), (1, .long l1), (4, .int (l4 + (-1)))]) rfl ?_
      refine wp2 rfl rfl ?_
      exact wpL rfl rfl (ih hJ7 (l1) ((l4 + (-1))) (i32_down c1 hm))
set_option maxRecDepth 20000 in
theorem sb_100_22 {s : cs} {mc : am_H} {D : List pgT} (hJ : J s mc D)   : tb_wp L xs 100 22 [] [] (HH s mc D) (SZ mc) := by
  refine wp0 rfl rfl ?_
  exact wp5z rfl rfl b0 ⟨_, _, hJ, rfl, _, rfl, b0⟩
set_option maxRecDepth 20000 in
theorem sb_100_0 {s : cs} {mc : am_H} {D : List pgT} (hJ : J s mc D) (l1 : Int64) (l3 : Int32)  : tb_wp L xs 100 0 [(0, .ref 19), (1, .long l1), (3, .int l3)] [] (HH s mc D) (SZ mc) := by
  refine wp1 rfl rfl ?_
  refine wp0 rfl rfl ?_
  refine wp2b rfl rfl (fun c8 => ?_) (fun c8 => ?_)
  · exact wpL rfl rfl (sb_100_22 hJ )
  · refine wp1 rfl rfl ?_
    refine wp0 rfl rfl ?_
    refine wp2b rfl rfl (fun c9 => ?_) (fun c9 => ?_)
    · exact wpL rfl rfl (sb_100_22 hJ )
    · refine wp1 rfl rfl ?_
      refine wp3 rfl (am_getf rfl rfl) ?_
      refine wp1 rfl rfl ?_
      refine wp0 rfl rfl ?_
      refine wp0 rfl rfl ?_
      refine wp2b rfl rfl (fun c10 => ?_) (fun c10 => ?_)
      · refine wp1 rfl rfl ?_
        refine wp0 rfl rfl ?_
        refine wp0 rfl rfl ?_
        refine wpTi (fun z11 ez11 => ?_)
        refine wp1 rfl rfl ?_
        refine wpV (lv' := [(0, .ref 19), (1, .long l1), (3, .int l3), (4, .int z11)]) rfl ?_
        exact wpL rfl rfl (sb_100_29 _ hJ (l1) (z11) (Nat.lt_succ_self _))
      · exact wpL rfl rfl (sb_100_22 hJ )
theorem sf_100 {s : cs} {mc : am_H} {D : List pgT} (hJ : J s mc D) (l1 : Int64) (l3 : Int32)  : tb_wp L xs 100 0 (lv_args 0 [.ref 19, .long l1, .int l3]) [] (HH s mc D) (SZ mc) := sb_100_0 hJ l1 l3
/- 102: FlagMachine$Services.outputAt(I)I -/
set_option maxRecDepth 20000 in
theorem sb_102_34 {s : cs} {mc : am_H} {D : List pgT} (hJ : J s mc D) (k0 : Int32)  : tb_wp L xs 102 34 [] [.int k0] (HH s mc D) (SI mc) := by
  exact wp5i rfl rfl ⟨_, _, hJ, rfl, _, rfl⟩
set_option maxRecDepth 20000 in
theorem sb_102_33 {s : cs} {mc : am_H} {D : List pgT} (hJ : J s mc D)   : tb_wp L xs 102 33 [] [] (HH s mc D) (SI mc) := by
  refine wp0 rfl rfl ?_
  exact wpL rfl rfl (sb_102_34 hJ ((-1)))
set_option maxRecDepth 20000 in
theorem sb_102_0 {s : cs} {mc : am_H} {D : List pgT} (hJ : J s mc D) (l1 : Int32)  : tb_wp L xs 102 0 [(0, .ref 19), (1, .int l1)] [] (HH s mc D) (SI mc) := by
  refine wp1 rfl rfl ?_
  refine wp0 rfl rfl ?_
  refine wp2b rfl rfl (fun c1 => ?_) (fun c1 => ?_)
  · refine wp1 rfl rfl ?_
    refine wp3 rfl (am_getf rfl rfl) ?_
    exact wp5i rfl rfl ⟨_, _, hJ, rfl, _, rfl⟩
  · refine wp1 rfl rfl ?_
    refine wp2b rfl rfl (fun c2 => ?_) (fun c2 => ?_)
    · exact wpL rfl rfl (sb_102_33 hJ )
    · refine wp1 rfl rfl ?_
      refine wp1 rfl rfl ?_
      refine wp3 rfl (am_getf rfl rfl) ?_
      refine wp2b rfl rfl (fun c3 => ?_) (fun c3 => ?_)
      · exact wpL rfl rfl (sb_102_33 hJ )
      · refine wp1 rfl rfl ?_
        refine wp3 rfl (am_getf rfl rfl) ?_
        refine wp1 rfl rfl ?_
        refine wp4 rfl rfl (sf_108_3 hJ (l1)) (fun rv h1 hq => ?_)
        obtain ⟨s5, D6, hJ7, rfl, x8, rfl⟩ := hq
        refine wp2 rfl rfl ?_
        exact wpL rfl rfl (sb_102_34 hJ7 (x8))
theorem sf_102 {s : cs} {mc : am_H} {D : List pgT} (hJ : J s mc D) (l1 : Int32)  : tb_wp L xs 102 0 (lv_args 0 [.ref 19, .int l1]) [] (HH s mc D) (SI mc) := sb_102_0 hJ l1
/- 104: FlagMachine$Services.startAnew()V -/
set_option maxRecDepth 20000 in
theorem sb_104_0 {s : cs} {mc : am_H} {D : List pgT} (hJ : J s mc D)   : tb_wp L xs 104 0 [(0, .ref 19)] [] (HH s mc D) (SV mc) := by
  refine wp1 rfl rfl ?_
  refine wp0 rfl rfl ?_
  refine wp3 rfl (am_putf rfl (Nat.le_of_ble_eq_true rfl) rfl rfl) ?_
  have hJ1 : J (s_first s 0) mc D := hJ
  refine wpH (h' := HH (s_first s 0) mc D) rfl ?_
  refine wp1 rfl rfl ?_
  refine wp0 rfl rfl ?_
  refine wp3 rfl (am_putf rfl (Nat.le_of_ble_eq_true rfl) rfl rfl) ?_
  have hJ2 : J (s_waiting (s_first s 0) 0) mc D := hJ1
  refine wpH (h' := HH (s_waiting (s_first s 0) 0) mc D) rfl ?_
  refine wp1 rfl rfl ?_
  refine wp0 rfl rfl ?_
  refine wp3 rfl (am_putf rfl (Nat.le_of_ble_eq_true rfl) rfl rfl) ?_
  have hJ3 : J (s_sent (s_waiting (s_first s 0) 0) 0) mc D := hJ2
  refine wpH (h' := HH (s_sent (s_waiting (s_first s 0) 0) 0) mc D) rfl ?_
  exact wp5 rfl rfl ⟨_, _, hJ3, rfl, rfl⟩
theorem sf_104 {s : cs} {mc : am_H} {D : List pgT} (hJ : J s mc D)   : tb_wp L xs 104 0 (lv_args 0 [.ref 19]) [] (HH s mc D) (SV mc) := sb_104_0 hJ 
/- 118: FlagMachine$Stretch.restOfPage(I)I -/
set_option maxRecDepth 20000 in
theorem sb_118_0 {s : cs} {mc : am_H} {D : List pgT} (hJ : J s mc D) (l0 : Int32)  : tb_wp L xs 118 0 [(0, .int l0)] [] (HH s mc D) (SI mc) := by
  refine wp0 rfl rfl ?_
  refine wp1 rfl rfl ?_
  refine wp0 rfl rfl ?_
  refine wp0 rfl rfl ?_
  refine wp0 rfl rfl ?_
  exact wp5i rfl rfl ⟨_, _, hJ, rfl, _, rfl⟩
theorem sf_118 {s : cs} {mc : am_H} {D : List pgT} (hJ : J s mc D) (l0 : Int32)  : tb_wp L xs 118 0 (lv_args 0 [.int l0]) [] (HH s mc D) (SI mc) := sb_118_0 hJ l0
/- 123: FlagMachine$Sums.resultOf(IJJ)J -/
set_option maxRecDepth 20000 in
theorem sb_123_15 {s : cs} {mc : am_H} {D : List pgT} (hJ : J s mc D) (l1 : Int32) (l2 : Int64) (l4 : Int64) (k0 : Int64)  : tb_wp L xs 123 15 [(1, .int l1), (2, .long l2), (4, .long l4)] [.long k0] (HH s mc D) (SJ mc) := by
  refine wp1 rfl rfl ?_
  refine wpV (lv' := [(1, .int l1), (2, .long l2), (4, .long l4), (6, .long k0)]) rfl ?_
  refine wp1 rfl rfl ?_
  refine wp2s [228, 233, 238, 246, 254, 259, 264, 270, 273, 277, 281] rfl rfl rfl rfl (am_fa1 ?_ (am_fa1 ?_ (am_fa1 ?_ (am_fa1 ?_ (am_fa1 ?_ (am_fa1 ?_ (am_fa1 ?_ (am_fa1 ?_ (am_fa1 ?_ (am_fa1 ?_ (am_fa1 ?_ (am_fa0))))))))))))
  · refine wp1 rfl rfl ?_
    refine wp1 rfl rfl ?_
    refine wp0 rfl rfl ?_
    exact wp5 rfl rfl ⟨_, _, hJ, rfl, _, rfl⟩
  · refine wp1 rfl rfl ?_
    refine wp1 rfl rfl ?_
    refine wp0 rfl rfl ?_
    exact wp5 rfl rfl ⟨_, _, hJ, rfl, _, rfl⟩
  · refine wp1 rfl rfl ?_
    refine wp1 rfl rfl ?_
    refine wp0 rfl rfl ?_
    refine wp1 rfl rfl ?_
    refine wp0 rfl rfl ?_
    exact wp5 rfl rfl ⟨_, _, hJ, rfl, _, rfl⟩
  · refine wp1 rfl rfl ?_
    refine wp1 rfl rfl ?_
    refine wp0 rfl rfl ?_
    refine wp1 rfl rfl ?_
    refine wp0 rfl rfl ?_
    exact wp5 rfl rfl ⟨_, _, hJ, rfl, _, rfl⟩
  · refine wp1 rfl rfl ?_
    refine wp1 rfl rfl ?_
    refine wp0 rfl rfl ?_
    exact wp5 rfl rfl ⟨_, _, hJ, rfl, _, rfl⟩
  · refine wp1 rfl rfl ?_
    refine wp1 rfl rfl ?_
    refine wp0 rfl rfl ?_
    exact wp5 rfl rfl ⟨_, _, hJ, rfl, _, rfl⟩
  · refine wp1 rfl rfl ?_
    refine wp0 rfl rfl ?_
    refine wp0 rfl rfl ?_
    exact wp5 rfl rfl ⟨_, _, hJ, rfl, _, rfl⟩
  · refine wp1 rfl rfl ?_
    refine wp0 rfl rfl ?_
    exact wp5 rfl rfl ⟨_, _, hJ, rfl, _, rfl⟩
  · refine wp1 rfl rfl ?_
    refine wp0 rfl rfl ?_
    refine wp0 rfl rfl ?_
    exact wp5 rfl rfl ⟨_, _, hJ, rfl, _, rfl⟩
  · refine wp1 rfl rfl ?_
    refine wp0 rfl rfl ?_
    refine wp0 rfl rfl ?_
    exact wp5 rfl rfl ⟨_, _, hJ, rfl, _, rfl⟩
  · refine wp1 rfl rfl ?_
    refine wp1 rfl rfl ?_
    refine wp0 rfl rfl ?_
    exact wp5 rfl rfl ⟨_, _, hJ, rfl, _, rfl⟩
set_option maxRecDepth 20000 in
theorem sb_123_0 {s : cs} {mc : am_H} {D : List pgT} (hJ : J s mc D) (l1 : Int32) (l2 : Int64) (l4 : Int64)  : tb_wp L xs 123 0 [(0, .ref 15), (1, .int l1), (2, .long l2), (4, .long l4)] [] (HH s mc D) (SJ mc) := by
  refine wp1 rfl rfl ?_
  refine wp3 rfl (am_getf rfl rfl) ?_
  refine wp3 rfl (am_getf rfl rfl) ?_
  refine wp2b rfl rfl (fun c1 => ?_) (fun c1 => ?_)
  · refine wp0 rfl rfl ?_
    exact wpL rfl rfl (sb_123_15 hJ (l1) (l2) (l4) (0))
  · refine wp0 rfl rfl ?_
    refine wp2 rfl rfl ?_
    exact wpL rfl rfl (sb_123_15 hJ (l1) (l2) (l4) (1))
theorem sf_123 {s : cs} {mc : am_H} {D : List pgT} (hJ : J s mc D) (l1 : Int32) (l2 : Int64) (l4 : Int64)  : tb_wp L xs 123 0 (lv_args 0 [.ref 15, .int l1, .long l2, .long l4]) [] (HH s mc D) (SJ mc) := sb_123_0 hJ l1 l2 l4
/- 192: java/lang/Long.bitCount(J)I -/
set_option maxRecDepth 20000 in
theorem sb_192_0 {s : cs} {mc : am_H} {D : List pgT} (hJ : J s mc D) (l0 : Int64)  : tb_wp L xs 192 0 [(0, .long l0)] [] (HH s mc D) (SI mc) := by
  refine wp1 rfl rfl ?_
  refine wp1 rfl rfl ?_
  refine wp0 rfl rfl ?_
  refine wp0 rfl rfl ?_
  refine wp0 rfl rfl ?_
  refine wp0 rfl rfl ?_
  refine wp0 rfl rfl ?_
  refine wpTl (fun z1 ez1 => ?_)
  refine wp1 rfl rfl ?_
  refine wpV (lv' := [(0, .long z1)]) rfl ?_
  refine wp1 rfl rfl ?_
  refine wp0 rfl rfl ?_
  refine wp0 rfl rfl ?_
  refine wp1 rfl rfl ?_
  refine wp0 rfl rfl ?_
  refine wp0 rfl rfl ?_
  refine wp0 rfl rfl ?_
  refine wp0 rfl rfl ?_
  refine wp0 rfl rfl ?_
  refine wpTl (fun z2 ez2 => ?_)
  refine wp1 rfl rfl ?_
  refine wpV (lv' := [(0, .long z2)]) rfl ?_
  refine wp1 rfl rfl ?_
  refine wp1 rfl rfl ?_
  refine wp0 rfl rfl ?_
  refine wp0 rfl rfl ?_
  refine wp0 rfl rfl ?_
  refine wp0 rfl rfl ?_
  refine wp0 rfl rfl ?_
  refine wpTl (fun z3 ez3 => ?_)
  refine wp1 rfl rfl ?_
  refine wpV (lv' := [(0, .long z3)]) rfl ?_
  refine wp1 rfl rfl ?_
  refine wp1 rfl rfl ?_
  refine wp0 rfl rfl ?_
  refine wp0 rfl rfl ?_
  refine wp0 rfl rfl ?_
  refine wpTl (fun z4 ez4 => ?_)
  refine wp1 rfl rfl ?_
  refine wpV (lv' := [(0, .long z4)]) rfl ?_
  refine wp1 rfl rfl ?_
  refine wp1 rfl rfl ?_
  refine wp0 rfl rfl ?_
  refine wp0 rfl rfl ?_
  refine wp0 rfl rfl ?_
  refine wpTl (fun z5 ez5 => ?_)
  refine wp1 rfl rfl ?_
  refine wpV (lv' := [(0, .long z5)]) rfl ?_
  refine wp1 rfl rfl ?_
  refine wp1 rfl rfl ?_
  refine wp0 rfl rfl ?_
  refine wp0 rfl rfl ?_
  refine wp0 rfl rfl ?_
  refine wpTl (fun z6 ez6 => ?_)
  refine wp1 rfl rfl ?_
  refine wpV (lv' := [(0, .long z6)]) rfl ?_
  refine wp1 rfl rfl ?_
  refine wp0 rfl rfl ?_
  refine wp0 rfl rfl ?_
  refine wp0 rfl rfl ?_
  exact wp5i rfl rfl ⟨_, _, hJ, rfl, _, rfl⟩
theorem sf_192 {s : cs} {mc : am_H} {D : List pgT} (hJ : J s mc D) (l0 : Int64)  : tb_wp L xs 192 0 (lv_args 0 [.long l0]) [] (HH s mc D) (SI mc) := sb_192_0 hJ l0
/- 195: java/util/Arrays.fill([JJ)V -/
set_option maxRecDepth 20000 in
theorem sb_195_6 (n : Nat) : ∀ {s : cs} {mc : am_H} {D : List pgT} (hJ : J s mc D) (l1 : Int64) (l3 : Int32) (hn_l3 : 0 ≤ Int32.toInt l3) (hm : ((16 : Int32).toInt - (l3 : Int32).toInt).toNat < n), tb_wp L xs 195 6 [(0, .ref 8), (1, .long l1), (3, .int l3), (4, .int 16)] [] (HH s mc D) (SV mc) := by
  induction n with
  | zero => intro s mc D hJ l1 l3 hn_l3 hm; exact absurd hm (Nat.not_lt_zero _)
  | succ n ih =>
    intro s mc D hJ l1 l3 hn_l3 hm
    refine wp1 rfl rfl ?_
    refine wp1 rfl rfl ?_
    refine wp2b rfl rfl (fun c1 => ?_) (fun c1 => ?_)
    · exact wp5 rfl rfl ⟨_, _, hJ, rfl, rfl⟩
    · refine wp1 rfl rfl ?_
      refine wp1 rfl rfl ?_
      refine wp1 rfl rfl ?_
      refine wp3 rfl (am_last rfl (by simp only [Int32.lt_iff_toInt_lt, Int32.le_iff_toInt_le, ← Int32.toInt_inj] at c1; have hnn := hn_l3; have e0 : (16 : Int32).toInt = 16 := rfl; have g0 : (Int32.ofNat 16).toInt = 16 := rfl; exact am_in_of (by omega) (by omega))) ?_
      have hJ2 : J (s_regs s (vp_updL (g_regs s) (Int32.toNatClampNeg l3) l1)) mc D := hJ
      refine wpH (h' := HH (s_regs s (vp_updL (g_regs s) (Int32.toNatClampNeg l3) l1)) mc D) rfl ?_
      refine wp1 rfl rfl ?_
      refine wpV (lv' := [(0, .ref 8), (1, .long l1), (3, .int (l3 + 1)), (4, .int 16)]) rfl ?_
      refine wp2 rfl rfl ?_
      exact wpL rfl rfl (ih hJ2 (l1) ((l3 + 1)) (i32_upp c1 hn_l3) (i32_up c1 hm))
set_option maxRecDepth 20000 in
theorem sb_195_0 {s : cs} {mc : am_H} {D : List pgT} (hJ : J s mc D) (l1 : Int64)  : tb_wp L xs 195 0 [(0, .ref 8), (1, .long l1)] [] (HH s mc D) (SV mc) := by
  refine wp0 rfl rfl ?_
  refine wp1 rfl rfl ?_
  refine wpV (lv' := [(0, .ref 8), (1, .long l1), (3, .int 0)]) rfl ?_
  refine wp1 rfl rfl ?_
  refine wp3 rfl (am_alen rfl) ?_
  refine wp1 rfl rfl ?_
  refine wpV (lv' := [(0, .ref 8), (1, .long l1), (3, .int 0), (4, .int 16)]) rfl ?_
  exact wpL rfl rfl (sb_195_6 _ hJ (l1) (0) (by decide) (Nat.lt_succ_self _))
theorem sf_195 {s : cs} {mc : am_H} {D : List pgT} (hJ : J s mc D) (l1 : Int64)  : tb_wp L xs 195 0 (lv_args 0 [.ref 8, .long l1]) [] (HH s mc D) (SV mc) := sb_195_0 hJ l1
/- 6: FlagMachine.input(JI)Z -/
set_option maxRecDepth 20000 in
theorem sb_6_0 {s : cs} {mc : am_H} {D : List pgT} (hJ : J s mc D) (l1 : Int64) (l3 : Int32)  : tb_wp L xs 6 0 [(0, .ref 1), (1, .long l1), (3, .int l3)] [] (HH s mc D) (SZ mc) := by
  refine wp1 rfl rfl ?_
  refine wp3 rfl (am_getf rfl rfl) ?_
  refine wp1 rfl rfl ?_
  refine wp1 rfl rfl ?_
  refine wp4 rfl rfl (sf_100 hJ (l1) (l3)) (fun rv h1 hq => ?_)
  obtain ⟨s2, D3, hJ4, rfl, x5, rfl, hb_x5⟩ := hq
  exact wp5z rfl rfl hb_x5 ⟨_, _, hJ4, rfl, _, rfl, hb_x5⟩
theorem sf_6 {s : cs} {mc : am_H} {D : List pgT} (hJ : J s mc D) (l1 : Int64) (l3 : Int32)  : tb_wp L xs 6 0 (lv_args 0 [.ref 1, .long l1, .int l3]) [] (HH s mc D) (SZ mc) := sb_6_0 hJ l1 l3
/- 12: FlagMachine.output(I)I -/
set_option maxRecDepth 20000 in
theorem sb_12_0 {s : cs} {mc : am_H} {D : List pgT} (hJ : J s mc D) (l1 : Int32)  : tb_wp L xs 12 0 [(0, .ref 1), (1, .int l1)] [] (HH s mc D) (SI mc) := by
  refine wp1 rfl rfl ?_
  refine wp3 rfl (am_getf rfl rfl) ?_
  refine wp1 rfl rfl ?_
  refine wp4 rfl rfl (sf_102 hJ (l1)) (fun rv h1 hq => ?_)
  obtain ⟨s2, D3, hJ4, rfl, x5, rfl⟩ := hq
  exact wp5i rfl rfl ⟨_, _, hJ4, rfl, _, rfl⟩
theorem sf_12 {s : cs} {mc : am_H} {D : List pgT} (hJ : J s mc D) (l1 : Int32)  : tb_wp L xs 12 0 (lv_args 0 [.ref 1, .int l1]) [] (HH s mc D) (SI mc) := sb_12_0 hJ l1
/- 15: FlagMachine.register(I)J -/
set_option maxRecDepth 20000 in
theorem sb_15_20 {s : cs} {mc : am_H} {D : List pgT} (hJ : J s mc D) (l1 : Int32)  : tb_wp L xs 15 20 [(0, .ref 1), (1, .int l1)] [] (HH s mc D) (SJ mc) := by
  refine wp1 rfl rfl ?_
  refine wp2s [52, 60, 71, 82, 87] rfl rfl rfl rfl (am_fa1 ?_ (am_fa1 ?_ (am_fa1 ?_ (am_fa1 ?_ (am_fa1 ?_ (am_fa0))))))
  · refine wp1 rfl rfl ?_
    refine wp3 rfl (am_getf rfl rfl) ?_
    refine wp3 rfl (am_getf rfl rfl) ?_
    exact wp5 rfl rfl ⟨_, _, hJ, rfl, _, rfl⟩
  · refine wp1 rfl rfl ?_
    refine wp3 rfl (am_getf rfl rfl) ?_
    refine wp3 rfl (am_getf rfl rfl) ?_
    refine wp4 rfl rfl (sf_44 hJ ) (fun rv h1 hq => ?_)
    obtain ⟨s2, D3, hJ4, rfl, x5, rfl⟩ := hq
    exact wp5 rfl rfl ⟨_, _, hJ4, rfl, _, rfl⟩
  · refine wp1 rfl rfl ?_
    refine wp3 rfl (am_getf rfl rfl) ?_
    refine wp3 rfl (am_getf rfl rfl) ?_
    refine wp4 rfl rfl (sf_66 hJ ) (fun rv h1 hq => ?_)
    obtain ⟨s7, D8, hJ9, rfl, x10, rfl⟩ := hq
    exact wp5 rfl rfl ⟨_, _, hJ9, rfl, _, rfl⟩
  · refine wp1 rfl rfl ?_
    refine wp3 rfl (am_getf rfl rfl) ?_
    exact wp5 rfl rfl ⟨_, _, hJ, rfl, _, rfl⟩
  · refine wp0 rfl rfl ?_
    exact wp5 rfl rfl ⟨_, _, hJ, rfl, _, rfl⟩
set_option maxRecDepth 20000 in
theorem sb_15_0 {s : cs} {mc : am_H} {D : List pgT} (hJ : J s mc D) (l1 : Int32)  : tb_wp L xs 15 0 [(0, .ref 1), (1, .int l1)] [] (HH s mc D) (SJ mc) := by
  refine wp1 rfl rfl ?_
  refine wp2b rfl rfl (fun c11 => ?_) (fun c11 => ?_)
  · exact wpL rfl rfl (sb_15_20 hJ (l1))
  · refine wp1 rfl rfl ?_
    refine wp0 rfl rfl ?_
    refine wp2b rfl rfl (fun c12 => ?_) (fun c12 => ?_)
    · exact wpL rfl rfl (sb_15_20 hJ (l1))
    · refine wp1 rfl rfl ?_
      refine wp3 rfl (am_getf rfl rfl) ?_
      refine wp3 rfl (am_getf rfl rfl) ?_
      refine wp1 rfl rfl ?_
      refine wp3 rfl (am_lald rfl (by simp only [Int32.lt_iff_toInt_lt, Int32.le_iff_toInt_le, ← Int32.toInt_inj] at c11 c12; have e0 : (0 : Int32).toInt = 0 := rfl; have g0 : (Int32.ofNat 0).toInt = 0 := rfl; have e1 : (15 : Int32).toInt = 15 := rfl; have g1 : (Int32.ofNat 15).toInt = 15 := rfl; exact am_in_of (by omega) (by omega))) ?_
      exact wp5 rfl rfl ⟨_, _, hJ, rfl, _, rfl⟩
theorem sf_15 {s : cs} {mc : am_H} {D : List pgT} (hJ : J s mc D) (l1 : Int32)  : tb_wp L xs 15 0 (lv_args 0 [.ref 1, .int l1]) [] (HH s mc D) (SJ mc) := sb_15_0 hJ l1
/- 34: FlagMachine$Core.memoryAddress()J -/
set_option maxRecDepth 20000 in
theorem sb_34_30 {s : cs} {mc : am_H} {D : List pgT} (hJ : J s mc D) (k0 : Int64)  : tb_wp L xs 34 30 [(0, .ref 7)] [.long k0] (HH s mc D) (SJ mc) := by
  refine wp1 rfl rfl ?_
  refine wpV (lv' := [(0, .ref 7), (1, .long k0)]) rfl ?_
  refine wp1 rfl rfl ?_
  refine wp1 rfl rfl ?_
  refine wp1 rfl rfl ?_
  refine wp3 rfl (am_getf rfl rfl) ?_
  refine wp3 rfl (am_getf rfl rfl) ?_
  refine wp4 rfl rfl (sf_38 hJ ((g_index s))) (fun rv h1 hq => ?_)
  obtain ⟨s2, D3, hJ4, rfl, x5, rfl⟩ := hq
  refine wp1 rfl rfl ?_
  refine wp3 rfl (am_getf rfl rfl) ?_
  refine wp3 rfl (am_getf rfl rfl) ?_
  refine wp0 rfl rfl ?_
  refine wp0 rfl rfl ?_
  refine wp0 rfl rfl ?_
  refine wp1 rfl rfl ?_
  refine wp3 rfl (am_getf rfl rfl) ?_
  refine wp3 rfl (am_getf rfl rfl) ?_
  refine wp0 rfl rfl ?_
  refine wp0 rfl rfl ?_
  exact wp5 rfl rfl ⟨_, _, hJ4, rfl, _, rfl⟩
set_option maxRecDepth 20000 in
theorem sb_34_0 {s : cs} {mc : am_H} {D : List pgT} (hJ : J s mc D)   : tb_wp L xs 34 0 [(0, .ref 7)] [] (HH s mc D) (SJ mc) := by
  refine wp1 rfl rfl ?_
  refine wp3 rfl (am_getf rfl rfl) ?_
  refine wp3 rfl (am_getf rfl rfl) ?_
  refine wp0 rfl rfl ?_
  refine wp2b rfl rfl (fun c6 => ?_) (fun c6 => ?_)
  · refine wp1 rfl rfl ?_
    refine wp3 rfl (am_getf rfl rfl) ?_
    refine wp2 rfl rfl ?_
    exact wpL rfl rfl (sb_34_30 hJ ((g_next s)))
  · refine wp1 rfl rfl ?_
    refine wp1 rfl rfl ?_
    refine wp3 rfl (am_getf rfl rfl) ?_
    refine wp3 rfl (am_getf rfl rfl) ?_
    refine wp4 rfl rfl (sf_38 hJ ((g_base s))) (fun rv h1 hq => ?_)
    obtain ⟨s8, D9, hJ10, rfl, x11, rfl⟩ := hq
    exact wpL rfl rfl (sb_34_30 hJ10 (x11))
theorem sf_34 {s : cs} {mc : am_H} {D : List pgT} (hJ : J s mc D)   : tb_wp L xs 34 0 (lv_args 0 [.ref 7]) [] (HH s mc D) (SJ mc) := sb_34_0 hJ 
/- 36: FlagMachine$Core.prepare(I)V -/
set_option maxRecDepth 20000 in
theorem sb_36_41 {s : cs} {mc : am_H} {D : List pgT} (hJ : J s mc D) (k1 : Int64)  : tb_wp L xs 36 41 [] [.long k1, .ref 7] (HH s mc D) (SV mc) := by
  refine wp3 rfl (am_putf rfl (Nat.le_of_ble_eq_true rfl) rfl rfl) ?_
  have hJ1 : J (s_address s k1) mc D := hJ
  refine wpH (h' := HH (s_address s k1) mc D) rfl ?_
  exact wp5 rfl rfl ⟨_, _, hJ1, rfl, rfl⟩
set_option maxRecDepth 20000 in
theorem sb_36_0 {s : cs} {mc : am_H} {D : List pgT} (hJ : J s mc D) (l1 : Int32)  : tb_wp L xs 36 0 [(0, .ref 7), (1, .int l1)] [] (HH s mc D) (SV mc) := by
  refine wp1 rfl rfl ?_
  refine wp0 rfl rfl ?_
  refine wp3 rfl (am_putf rfl (Nat.le_of_ble_eq_true rfl) rfl rfl) ?_
  have hJ2 : J (s_stop s 0) mc D := hJ
  refine wpH (h' := HH (s_stop s 0) mc D) rfl ?_
  refine wp1 rfl rfl ?_
  refine wp0 rfl rfl ?_
  refine wp3 rfl (am_putf rfl (Nat.le_of_ble_eq_true rfl) rfl rfl) ?_
  have hJ3 : J (s_stopv (s_stop s 0) 0) mc D := hJ2
  refine wpH (h' := HH (s_stopv (s_stop s 0) 0) mc D) rfl ?_
  refine wp1 rfl rfl ?_
  refine wp1 rfl rfl ?_
  refine wp3 rfl (am_getf rfl rfl) ?_
  refine wp1 rfl rfl ?_
  refine wp0 rfl rfl ?_
  refine wp0 rfl rfl ?_
  refine wp3 rfl (am_putf rfl (Nat.le_of_ble_eq_true rfl) rfl rfl) ?_
  have hJ4 : J (s_next (s_stopv (s_stop s 0) 0) ((g_ip (s_stopv (s_stop s 0) 0)) + (Int32.toInt64 l1))) mc D := hJ3
  refine wpH (h' := HH (s_next (s_stopv (s_stop s 0) 0) ((g_ip (s_stopv (s_stop s 0) 0)) + (Int32.toInt64 l1))) mc D) rfl ?_
  refine wp1 rfl rfl ?_
  refine wp1 rfl rfl ?_
  refine wp3 rfl (am_getf rfl rfl) ?_
  refine wp0 rfl rfl ?_
  refine wp4 rfl rfl (sf_55 hJ4 (2)) (fun rv h1 hq => ?_)
  obtain ⟨s6, D7, hJ8, rfl, x9, rfl, hb_x9⟩ := hq
  refine wp2b rfl rfl (fun c10 => ?_) (fun c10 => ?_)
  · refine wp0 rfl rfl ?_
    exact wpL rfl rfl (sb_36_41 hJ8 (0))
  · refine wp1 rfl rfl ?_
    refine wp4 rfl rfl (sf_34 hJ8 ) (fun rv h1 hq => ?_)
    obtain ⟨s12, D13, hJ14, rfl, x15, rfl⟩ := hq
    refine wp2 rfl rfl ?_
    exact wpL rfl rfl (sb_36_41 hJ14 (x15))
theorem sf_36 {s : cs} {mc : am_H} {D : List pgT} (hJ : J s mc D) (l1 : Int32)  : tb_wp L xs 36 0 (lv_args 0 [.ref 7, .int l1]) [] (HH s mc D) (SV mc) := sb_36_0 hJ l1
/- 40: FlagMachine$Core.startAnew()V -/
set_option maxRecDepth 20000 in
theorem sb_40_0 {s : cs} {mc : am_H} {D : List pgT} (hJ : J s mc D)   : tb_wp L xs 40 0 [(0, .ref 7)] [] (HH s mc D) (SV mc) := by
  refine wp1 rfl rfl ?_
  refine wp3 rfl (am_getf rfl rfl) ?_
  refine wp0 rfl rfl ?_
  refine wp4 rfl rfl (sf_195 hJ (0)) (fun rv h1 hq => ?_)
  obtain ⟨s2, D3, hJ4, rfl, rfl⟩ := hq
  refine wp1 rfl rfl ?_
  refine wp3 rfl (am_getf rfl rfl) ?_
  refine wp0 rfl rfl ?_
  refine wp0 rfl rfl ?_
  refine wp3 rfl (am_last rfl (by decide)) ?_
  have hJ6 : J (s_regs s2 (vp_updL (g_regs s2) (Int32.toNatClampNeg 4) 2147479552)) mc D3 := hJ4
  refine wpH (h' := HH (s_regs s2 (vp_updL (g_regs s2) (Int32.toNatClampNeg 4) 2147479552)) mc D3) rfl ?_
  refine wp1 rfl rfl ?_
  refine wp3 rfl (am_getf rfl rfl) ?_
  refine wp4 rfl rfl (sf_45 hJ6 ) (fun rv h1 hq => ?_)
  obtain ⟨s8, D9, hJ10, rfl, rfl⟩ := hq
  refine wp1 rfl rfl ?_
  refine wp0 rfl rfl ?_
  refine wp3 rfl (am_putf rfl (Nat.le_of_ble_eq_true rfl) rfl rfl) ?_
  have hJ12 : J (s_ip s8 4194304) mc D9 := hJ10
  refine wpH (h' := HH (s_ip s8 4194304) mc D9) rfl ?_
  refine wp1 rfl rfl ?_
  refine wp0 rfl rfl ?_
  refine wp3 rfl (am_putf rfl (Nat.le_of_ble_eq_true rfl) rfl rfl) ?_
  have hJ13 : J (s_stop (s_ip s8 4194304) 0) mc D9 := hJ12
  refine wpH (h' := HH (s_stop (s_ip s8 4194304) 0) mc D9) rfl ?_
  refine wp1 rfl rfl ?_
  refine wp0 rfl rfl ?_
  refine wp3 rfl (am_putf rfl (Nat.le_of_ble_eq_true rfl) rfl rfl) ?_
  have hJ14 : J (s_stopv (s_stop (s_ip s8 4194304) 0) 0) mc D9 := hJ13
  refine wpH (h' := HH (s_stopv (s_stop (s_ip s8 4194304) 0) 0) mc D9) rfl ?_
  exact wp5 rfl rfl ⟨_, _, hJ14, rfl, rfl⟩
theorem sf_40 {s : cs} {mc : am_H} {D : List pgT} (hJ : J s mc D)   : tb_wp L xs 40 0 (lv_args 0 [.ref 7]) [] (HH s mc D) (SV mc) := sb_40_0 hJ 
/- 46: FlagMachine$Flags.holds(I)Z -/
set_option maxRecDepth 20000 in
theorem sb_46_28 {s : cs} {mc : am_H} {D : List pgT} (hJ : J s mc D) (k0 : Int32) (hb_k0 : b01 k0) : tb_wp L xs 46 28 [] [.int k0] (HH s mc D) (SZ mc) := by
  exact wp5z rfl rfl hb_k0 ⟨_, _, hJ, rfl, _, rfl, hb_k0⟩
set_option maxRecDepth 20000 in
theorem sb_46_11 {s : cs} {mc : am_H} {D : List pgT} (hJ : J s mc D) (l1 : Int32) (k0 : Int32) (hb_k0 : b01 k0) : tb_wp L xs 46 11 [(0, .ref 9), (1, .int l1)] [.int k0] (HH s mc D) (SZ mc) := by
  refine wp1 rfl rfl ?_
  refine wpV (lv' := [(0, .ref 9), (1, .int l1), (2, .int k0)]) rfl ?_
  refine wp1 rfl rfl ?_
  refine wp1 rfl rfl ?_
  refine wp0 rfl rfl ?_
  refine wp0 rfl rfl ?_
  refine wp4 rfl rfl (sf_47 hJ ((l1 >>> (1 &&& 31)))) (fun rv h1 hq => ?_)
  obtain ⟨s2, D3, hJ4, rfl, x5, rfl, hb_x5⟩ := hq
  refine wp1 rfl rfl ?_
  refine wp2b rfl rfl (fun c6 => ?_) (fun c6 => ?_)
  · refine wp0 rfl rfl ?_
    exact wpL rfl rfl (sb_46_28 hJ4 (0) b0)
  · refine wp0 rfl rfl ?_
    refine wp2 rfl rfl ?_
    exact wpL rfl rfl (sb_46_28 hJ4 (1) b1)
set_option maxRecDepth 20000 in
theorem sb_46_0 {s : cs} {mc : am_H} {D : List pgT} (hJ : J s mc D) (l1 : Int32)  : tb_wp L xs 46 0 [(0, .ref 9), (1, .int l1)] [] (HH s mc D) (SZ mc) := by
  refine wp1 rfl rfl ?_
  refine wp0 rfl rfl ?_
  refine wp0 rfl rfl ?_
  refine wp2b rfl rfl (fun c7 => ?_) (fun c7 => ?_)
  · refine wp0 rfl rfl ?_
    exact wpL rfl rfl (sb_46_11 hJ (l1) (0) b0)
  · refine wp0 rfl rfl ?_
    refine wp2 rfl rfl ?_
    exact wpL rfl rfl (sb_46_11 hJ (l1) (1) b1)
theorem sf_46 {s : cs} {mc : am_H} {D : List pgT} (hJ : J s mc D) (l1 : Int32)  : tb_wp L xs 46 0 (lv_args 0 [.ref 9, .int l1]) [] (HH s mc D) (SZ mc) := sb_46_0 hJ l1
/- 51: FlagMachine$Flags.tellResult(JI)V -/
set_option maxRecDepth 20000 in
theorem sb_51_54 {s : cs} {mc : am_H} {D : List pgT} (hJ : J s mc D) (k1 : Int32) (hb_k1 : b01 k1) : tb_wp L xs 51 54 [] [.int k1, .ref 9] (HH s mc D) (SV mc) := by
  refine wp3 rfl (am_putf rfl (Nat.le_of_ble_eq_true rfl) (b01_nar hb_k1) (b01_fit hb_k1)) ?_
  have hJ1 := J_parity hJ hb_k1
  refine wpH (h' := HH (s_parity s k1) mc D) rfl ?_
  exact wp5 rfl rfl ⟨_, _, hJ1, rfl, rfl⟩
set_option maxRecDepth 20000 in
theorem sb_51_32 {s : cs} {mc : am_H} {D : List pgT} (hJ : J s mc D) (l1 : Int64) (k1 : Int32) (hb_k1 : b01 k1) : tb_wp L xs 51 32 [(0, .ref 9), (1, .long l1)] [.int k1, .ref 9] (HH s mc D) (SV mc) := by
  refine wp3 rfl (am_putf rfl (Nat.le_of_ble_eq_true rfl) (b01_nar hb_k1) (b01_fit hb_k1)) ?_
  have hJ2 := J_sign hJ hb_k1
  refine wpH (h' := HH (s_sign s k1) mc D) rfl ?_
  refine wp1 rfl rfl ?_
  refine wp1 rfl rfl ?_
  refine wp0 rfl rfl ?_
  refine wp0 rfl rfl ?_
  refine wp4 rfl rfl (sf_192 hJ2 ((l1 &&& 255))) (fun rv h1 hq => ?_)
  obtain ⟨s4, D5, hJ6, rfl, x7, rfl⟩ := hq
  refine wp0 rfl rfl ?_
  refine wp0 rfl rfl ?_
  refine wp2b rfl rfl (fun c8 => ?_) (fun c8 => ?_)
  · refine wp0 rfl rfl ?_
    refine wp2 rfl rfl ?_
    exact wpL rfl rfl (sb_51_54 hJ6 (1) b1)
  · refine wp0 rfl rfl ?_
    exact wpL rfl rfl (sb_51_54 hJ6 (0) b0)
set_option maxRecDepth 20000 in
theorem sb_51_12 {s : cs} {mc : am_H} {D : List pgT} (hJ : J s mc D) (l1 : Int64) (l3 : Int32) (k1 : Int32) (hb_k1 : b01 k1) : tb_wp L xs 51 12 [(0, .ref 9), (1, .long l1), (3, .int l3)] [.int k1, .ref 9] (HH s mc D) (SV mc) := by
  refine wp3 rfl (am_putf rfl (Nat.le_of_ble_eq_true rfl) (b01_nar hb_k1) (b01_fit hb_k1)) ?_
  have hJ9 := J_zero hJ hb_k1
  refine wpH (h' := HH (s_zero s k1) mc D) rfl ?_
  refine wp1 rfl rfl ?_
  refine wp1 rfl rfl ?_
  refine wp1 rfl rfl ?_
  refine wp4 rfl rfl (sf_19 hJ9 (l3)) (fun rv h1 hq => ?_)
  obtain ⟨s11, D12, hJ13, rfl, x14, rfl⟩ := hq
  refine wp0 rfl rfl ?_
  refine wp0 rfl rfl ?_
  refine wp0 rfl rfl ?_
  refine wp2b rfl rfl (fun c15 => ?_) (fun c15 => ?_)
  · refine wp0 rfl rfl ?_
    exact wpL rfl rfl (sb_51_32 hJ13 (l1) (0) b0)
  · refine wp0 rfl rfl ?_
    refine wp2 rfl rfl ?_
    exact wpL rfl rfl (sb_51_32 hJ13 (l1) (1) b1)
set_option maxRecDepth 20000 in
theorem sb_51_0 {s : cs} {mc : am_H} {D : List pgT} (hJ : J s mc D) (l1 : Int64) (l3 : Int32)  : tb_wp L xs 51 0 [(0, .ref 9), (1, .long l1), (3, .int l3)] [] (HH s mc D) (SV mc) := by
  refine wp1 rfl rfl ?_
  refine wp1 rfl rfl ?_
  refine wp0 rfl rfl ?_
  refine wp0 rfl rfl ?_
  refine wp2b rfl rfl (fun c16 => ?_) (fun c16 => ?_)
  · refine wp0 rfl rfl ?_
    refine wp2 rfl rfl ?_
    exact wpL rfl rfl (sb_51_12 hJ (l1) (l3) (1) b1)
  · refine wp0 rfl rfl ?_
    exact wpL rfl rfl (sb_51_12 hJ (l1) (l3) (0) b0)
theorem sf_51 {s : cs} {mc : am_H} {D : List pgT} (hJ : J s mc D) (l1 : Int64) (l3 : Int32)  : tb_wp L xs 51 0 (lv_args 0 [.ref 9, .long l1, .int l3]) [] (HH s mc D) (SV mc) := sb_51_0 hJ l1 l3
/- 52: FlagMachine$Flags.tellSum(JJJI)V -/
set_option maxRecDepth 20000 in
theorem sb_52_61 {s : cs} {mc : am_H} {D : List pgT} (hJ : J s mc D) (l5 : Int64) (l7 : Int32) (k1 : Int32) (hb_k1 : b01 k1) : tb_wp L xs 52 61 [(0, .ref 9), (5, .long l5), (7, .int l7)] [.int k1, .ref 9] (HH s mc D) (SV mc) := by
  refine wp3 rfl (am_putf rfl (Nat.le_of_ble_eq_true rfl) (b01_nar hb_k1) (b01_fit hb_k1)) ?_
  have hJ1 := J_over hJ hb_k1
  refine wpH (h' := HH (s_over s k1) mc D) rfl ?_
  refine wp1 rfl rfl ?_
  refine wp1 rfl rfl ?_
  refine wp1 rfl rfl ?_
  refine wp4 rfl rfl (sf_51 hJ1 (l5) (l7)) (fun rv h1 hq => ?_)
  obtain ⟨s3, D4, hJ5, rfl, rfl⟩ := hq
  exact wp5 rfl rfl ⟨_, _, hJ5, rfl, rfl⟩
set_option maxRecDepth 20000 in
theorem sb_52_35 {s : cs} {mc : am_H} {D : List pgT} (hJ : J s mc D) (l1 : Int64) (l3 : Int64) (l5 : Int64) (l7 : Int32) (l8 : Int64) (k1 : Int32) (hb_k1 : b01 k1) : tb_wp L xs 52 35 [(0, .ref 9), (1, .long l1), (3, .long l3), (5, .long l5), (7, .int l7), (8, .long l8)] [.int k1, .ref 9] (HH s mc D) (SV mc) := by
  refine wp3 rfl (am_putf rfl (Nat.le_of_ble_eq_true rfl) (b01_nar hb_k1) (b01_fit hb_k1)) ?_
  have hJ7 := J_carry hJ hb_k1
  refine wpH (h' := HH (s_carry s k1) mc D) rfl ?_
  refine wp1 rfl rfl ?_
  refine wp1 rfl rfl ?_
  refine wp1 rfl rfl ?_
  refine wp0 rfl rfl ?_
  refine wp1 rfl rfl ?_
  refine wp1 rfl rfl ?_
  refine wp0 rfl rfl ?_
  refine wp0 rfl rfl ?_
  refine wp1 rfl rfl ?_
  refine wp0 rfl rfl ?_
  refine wp0 rfl rfl ?_
  refine wp0 rfl rfl ?_
  refine wp2b rfl rfl (fun c8 => ?_) (fun c8 => ?_)
  · refine wp0 rfl rfl ?_
    exact wpL rfl rfl (sb_52_61 hJ7 (l5) (l7) (0) b0)
  · refine wp0 rfl rfl ?_
    refine wp2 rfl rfl ?_
    exact wpL rfl rfl (sb_52_61 hJ7 (l5) (l7) (1) b1)
set_option maxRecDepth 20000 in
theorem sb_52_0 {s : cs} {mc : am_H} {D : List pgT} (hJ : J s mc D) (l1 : Int64) (l3 : Int64) (l5 : Int64) (l7 : Int32)  : tb_wp L xs 52 0 [(0, .ref 9), (1, .long l1), (3, .long l3), (5, .long l5), (7, .int l7)] [] (HH s mc D) (SV mc) := by
  refine wp1 rfl rfl ?_
  refine wp4 rfl rfl (sf_19 hJ (l7)) (fun rv h1 hq => ?_)
  obtain ⟨s10, D11, hJ12, rfl, x13, rfl⟩ := hq
  refine wp1 rfl rfl ?_
  refine wpV (lv' := [(0, .ref 9), (1, .long l1), (3, .long l3), (5, .long l5), (7, .int l7), (8, .long x13)]) rfl ?_
  refine wp1 rfl rfl ?_
  refine wp1 rfl rfl ?_
  refine wp1 rfl rfl ?_
  refine wp0 rfl rfl ?_
  refine wp1 rfl rfl ?_
  refine wp1 rfl rfl ?_
  refine wp0 rfl rfl ?_
  refine wp1 rfl rfl ?_
  refine wp0 rfl rfl ?_
  refine wp0 rfl rfl ?_
  refine wp0 rfl rfl ?_
  refine wp0 rfl rfl ?_
  refine wp1 rfl rfl ?_
  refine wp0 rfl rfl ?_
  refine wp0 rfl rfl ?_
  refine wp0 rfl rfl ?_
  refine wp2b rfl rfl (fun c14 => ?_) (fun c14 => ?_)
  · refine wp0 rfl rfl ?_
    exact wpL rfl rfl (sb_52_35 hJ12 (l1) (l3) (l5) (l7) (x13) (0) b0)
  · refine wp0 rfl rfl ?_
    refine wp2 rfl rfl ?_
    exact wpL rfl rfl (sb_52_35 hJ12 (l1) (l3) (l5) (l7) (x13) (1) b1)
theorem sf_52 {s : cs} {mc : am_H} {D : List pgT} (hJ : J s mc D) (l1 : Int64) (l3 : Int64) (l5 : Int64) (l7 : Int32)  : tb_wp L xs 52 0 (lv_args 0 [.ref 9, .long l1, .long l3, .long l5, .int l7]) [] (HH s mc D) (SV mc) := sb_52_0 hJ l1 l3 l5 l7
/- 57: FlagMachine$Instruction.isSound()Z -/
set_option maxRecDepth 20000 in
theorem sb_57_79 {s : cs} {mc : am_H} {D : List pgT} (hJ : J s mc D) (k0 : Int32) (hb_k0 : b01 k0) : tb_wp L xs 57 79 [] [.int k0] (HH s mc D) (SZ mc) := by
  exact wp5z rfl rfl hb_k0 ⟨_, _, hJ, rfl, _, rfl, hb_k0⟩
set_option maxRecDepth 20000 in
theorem sb_57_78 {s : cs} {mc : am_H} {D : List pgT} (hJ : J s mc D)   : tb_wp L xs 57 78 [] [] (HH s mc D) (SZ mc) := by
  refine wp0 rfl rfl ?_
  exact wpL rfl rfl (sb_57_79 hJ (0) b0)
set_option maxRecDepth 20000 in
theorem sb_57_74 {s : cs} {mc : am_H} {D : List pgT} (hJ : J s mc D)   : tb_wp L xs 57 74 [] [] (HH s mc D) (SZ mc) := by
  refine wp0 rfl rfl ?_
  refine wp2 rfl rfl ?_
  exact wpL rfl rfl (sb_57_79 hJ (1) b1)
set_option maxRecDepth 20000 in
theorem sb_57_59 {s : cs} {mc : am_H} {D : List pgT} (hJ : J s mc D)   : tb_wp L xs 57 59 [(0, .ref 2)] [] (HH s mc D) (SZ mc) := by
  refine wp1 rfl rfl ?_
  refine wp0 rfl rfl ?_
  refine wp4 rfl rfl (sf_55 hJ (3)) (fun rv h1 hq => ?_)
  obtain ⟨s2, D3, hJ4, rfl, x5, rfl, hb_x5⟩ := hq
  refine wp2b rfl rfl (fun c6 => ?_) (fun c6 => ?_)
  · exact wpL rfl rfl (sb_57_74 hJ4 )
  · refine wp1 rfl rfl ?_
    refine wp4 rfl rfl (sf_59 hJ4 ) (fun rv h1 hq => ?_)
    obtain ⟨s8, D9, hJ10, rfl, x11, rfl, hb_x11⟩ := hq
    refine wp2b rfl rfl (fun c12 => ?_) (fun c12 => ?_)
    · exact wpL rfl rfl (sb_57_78 hJ10 )
    · exact wpL rfl rfl (sb_57_74 hJ10 )
set_option maxRecDepth 20000 in
theorem sb_57_0 {s : cs} {mc : am_H} {D : List pgT} (hJ : J s mc D)   : tb_wp L xs 57 0 [(0, .ref 2)] [] (HH s mc D) (SZ mc) := by
  refine wp1 rfl rfl ?_
  refine wp3 rfl (am_getf rfl rfl) ?_
  refine wp2b rfl rfl (fun c13 => ?_) (fun c13 => ?_)
  · exact wpL rfl rfl (sb_57_78 hJ )
  · refine wp1 rfl rfl ?_
    refine wp3 rfl (am_getf rfl rfl) ?_
    refine wp0 rfl rfl ?_
    refine wp2b rfl rfl (fun c14 => ?_) (fun c14 => ?_)
    · exact wpL rfl rfl (sb_57_78 hJ )
    · refine wp1 rfl rfl ?_
      refine wp4 rfl rfl (sf_63 hJ ) (fun rv h1 hq => ?_)
      obtain ⟨s16, D17, hJ18, rfl, x19, rfl, hb_x19⟩ := hq
      refine wp2b rfl rfl (fun c20 => ?_) (fun c20 => ?_)
      · exact wpL rfl rfl (sb_57_78 hJ18 )
      · refine wp1 rfl rfl ?_
        refine wp4 rfl rfl (sf_54 hJ18 ) (fun rv h1 hq => ?_)
        obtain ⟨s22, D23, hJ24, rfl, x25, rfl, hb_x25⟩ := hq
        refine wp2b rfl rfl (fun c26 => ?_) (fun c26 => ?_)
        · exact wpL rfl rfl (sb_57_78 hJ24 )
        · refine wp1 rfl rfl ?_
          refine wp4 rfl rfl (sf_64 hJ24 ) (fun rv h1 hq => ?_)
          obtain ⟨s28, D29, hJ30, rfl, x31, rfl, hb_x31⟩ := hq
          refine wp2b rfl rfl (fun c32 => ?_) (fun c32 => ?_)
          · exact wpL rfl rfl (sb_57_78 hJ30 )
          · refine wp1 rfl rfl ?_
            refine wp4 rfl rfl (sf_61 hJ30 ) (fun rv h1 hq => ?_)
            obtain ⟨s34, D35, hJ36, rfl, x37, rfl, hb_x37⟩ := hq
            refine wp2b rfl rfl (fun c38 => ?_) (fun c38 => ?_)
            · exact wpL rfl rfl (sb_57_78 hJ36 )
            · refine wp1 rfl rfl ?_
              refine wp0 rfl rfl ?_
              refine wp4 rfl rfl (sf_55 hJ36 (2)) (fun rv h1 hq => ?_)
              obtain ⟨s40, D41, hJ42, rfl, x43, rfl, hb_x43⟩ := hq
              refine wp2b rfl rfl (fun c44 => ?_) (fun c44 => ?_)
              · exact wpL rfl rfl (sb_57_59 hJ42 )
              · refine wp1 rfl rfl ?_
                refine wp4 rfl rfl (sf_58 hJ42 ) (fun rv h1 hq => ?_)
                obtain ⟨s46, D47, hJ48, rfl, x49, rfl, hb_x49⟩ := hq
                refine wp2b rfl rfl (fun c50 => ?_) (fun c50 => ?_)
                · exact wpL rfl rfl (sb_57_78 hJ48 )
                · exact wpL rfl rfl (sb_57_59 hJ48 )
theorem sf_57 {s : cs} {mc : am_H} {D : List pgT} (hJ : J s mc D)   : tb_wp L xs 57 0 (lv_args 0 [.ref 2]) [] (HH s mc D) (SZ mc) := sb_57_0 hJ 
/- 71: FlagMachine$Memory.placeFor(JII)I -/
set_option maxRecDepth 20000 in
theorem sb_71_83 {s : cs} {mc : am_H} {D : List pgT} (hJ : J s mc D) (k0 : Int32)  : tb_wp L xs 71 83 [] [.int k0] (HH s mc D) (SI mc) := by
  exact wp5i rfl rfl ⟨_, _, hJ, rfl, _, rfl⟩
set_option maxRecDepth 20000 in
theorem sb_71_23 (n : Nat) : ∀ {s : cs} {mc : am_H} {D : List pgT} (hJ : J s mc D) (l3 : Int32) (l5 : Int32) (l6 : Int32) (l7 : Int32) (hn_l7 : 0 ≤ Int32.toInt l7) (hm : ((5 : Int32).toInt - (l7 : Int32).toInt).toNat < n), tb_wp L xs 71 23 [(0, .ref 10), (3, .int l3), (5, .int l5), (6, .int l6), (7, .int l7)] [] (HH s mc D) (SI mc) := by
  induction n with
  | zero => intro s mc D hJ l3 l5 l6 l7 hn_l7 hm; exact absurd hm (Nat.not_lt_zero _)
  | succ n ih =>
    intro s mc D hJ l3 l5 l6 l7 hn_l7 hm
    refine wp1 rfl rfl ?_
    refine wp0 rfl rfl ?_
    refine wp2b rfl rfl (fun c1 => ?_) (fun c1 => ?_)
    · refine wp1 rfl rfl ?_
      refine wp1 rfl rfl ?_
      refine wp0 rfl rfl ?_
      refine wp1 rfl rfl ?_
      refine wp2b rfl rfl (fun c2 => ?_) (fun c2 => ?_)
      · refine wp1 rfl rfl ?_
        exact wpL rfl rfl (sb_71_83 hJ (l5))
      · refine wp0 rfl rfl ?_
        refine wp2 rfl rfl ?_
        exact wpL rfl rfl (sb_71_83 hJ ((-1)))
    · refine wp1 rfl rfl ?_
      refine wp1 rfl rfl ?_
      refine wp3 rfl (am_getf rfl rfl) ?_
      refine wp1 rfl rfl ?_
      refine wp3 rfl (am_iald rfl (by simp only [Int32.lt_iff_toInt_lt, Int32.le_iff_toInt_le, ← Int32.toInt_inj] at c1; have hnn := hn_l7; have e0 : (5 : Int32).toInt = 5 := rfl; have g0 : (Int32.ofNat 5).toInt = 5 := rfl; exact am_in_of (by omega) (by omega))) ?_
      refine wp2b rfl rfl (fun c3 => ?_) (fun c3 => ?_)
      · refine wp1 rfl rfl ?_
        refine wpV (lv' := [(0, .ref 10), (3, .int l3), (5, .int l5), (6, .int l6), (7, .int (l7 + 1))]) rfl ?_
        refine wp2 rfl rfl ?_
        exact wpL rfl rfl (ih hJ (l3) (l5) (l6) ((l7 + 1)) (i32_upp c1 hn_l7) (i32_up c1 hm))
      · refine wp1 rfl rfl ?_
        refine wp1 rfl rfl ?_
        refine wp3 rfl (am_getf rfl rfl) ?_
        refine wp1 rfl rfl ?_
        refine wp3 rfl (am_iald rfl (by simp only [Int32.lt_iff_toInt_lt, Int32.le_iff_toInt_le, ← Int32.toInt_inj] at c1; have hnn := hn_l7; have e0 : (5 : Int32).toInt = 5 := rfl; have g0 : (Int32.ofNat 5).toInt = 5 := rfl; exact am_in_of (by omega) (by omega))) ?_
        refine wp2b rfl rfl (fun c4 => ?_) (fun c4 => ?_)
        · refine wp1 rfl rfl ?_
          refine wpV (lv' := [(0, .ref 10), (3, .int l3), (5, .int l5), (6, .int l6), (7, .int (l7 + 1))]) rfl ?_
          refine wp2 rfl rfl ?_
          exact wpL rfl rfl (ih hJ (l3) (l5) (l6) ((l7 + 1)) (i32_upp c1 hn_l7) (i32_up c1 hm))
        · refine wp1 rfl rfl ?_
          refine wp3 rfl (am_getf rfl rfl) ?_
          refine wp1 rfl rfl ?_
          refine wp3 rfl (am_iald rfl (by simp only [Int32.lt_iff_toInt_lt, Int32.le_iff_toInt_le, ← Int32.toInt_inj] at c1; have hnn := hn_l7; have e0 : (5 : Int32).toInt = 5 := rfl; have g0 : (Int32.ofNat 5).toInt = 5 := rfl; exact am_in_of (by omega) (by omega))) ?_
          refine wpTi (fun z5 ez5 => ?_)
          refine wp1 rfl rfl ?_
          refine wpV (lv' := [(0, .ref 10), (3, .int l3), (5, .int l5), (6, .int z5), (7, .int l7)]) rfl ?_
          refine wp1 rfl rfl ?_
          refine wpV (lv' := [(0, .ref 10), (3, .int l3), (5, .int l5), (6, .int z5), (7, .int (l7 + 1))]) rfl ?_
          refine wp2 rfl rfl ?_
          exact wpL rfl rfl (ih hJ (l3) (l5) (z5) ((l7 + 1)) (i32_upp c1 hn_l7) (i32_up c1 hm))
set_option maxRecDepth 20000 in
theorem sb_71_21 {s : cs} {mc : am_H} {D : List pgT} (hJ : J s mc D) (l3 : Int32) (l5 : Int32) (l6 : Int32) (k0 : Int32) (hi_k0 : am_in k0 3 = true) : tb_wp L xs 71 21 [(0, .ref 10), (3, .int l3), (5, .int l5), (6, .int l6)] [.int k0] (HH s mc D) (SI mc) := by
  refine wp1 rfl rfl ?_
  refine wpV (lv' := [(0, .ref 10), (3, .int l3), (5, .int l5), (6, .int l6), (7, .int k0)]) rfl ?_
  exact wpL rfl rfl (sb_71_23 _ hJ (l3) (l5) (l6) (k0) (am_in_nn hi_k0) (Nat.lt_succ_self _))
set_option maxRecDepth 20000 in
theorem sb_71_0 {s : cs} {mc : am_H} {D : List pgT} (hJ : J s mc D) (l1 : Int64) (l3 : Int32) (l4 : Int32)  : tb_wp L xs 71 0 [(0, .ref 10), (1, .long l1), (3, .int l3), (4, .int l4)] [] (HH s mc D) (SI mc) := by
  refine wp1 rfl rfl ?_
  refine wp4 rfl rfl (sf_72 hJ (l1)) (fun rv h1 hq => ?_)
  obtain ⟨s7, D8, hJ9, rfl, x10, rfl⟩ := hq
  refine wp1 rfl rfl ?_
  refine wpV (lv' := [(0, .ref 10), (1, .long l1), (3, .int l3), (4, .int l4), (5, .int x10)]) rfl ?_
  refine wp1 rfl rfl ?_
  refine wp1 rfl rfl ?_
  refine wpV (lv' := [(0, .ref 10), (1, .long l1), (3, .int l3), (4, .int l4), (5, .int x10), (6, .int x10)]) rfl ?_
  refine wp1 rfl rfl ?_
  refine wp0 rfl rfl ?_
  refine wp2b rfl rfl (fun c11 => ?_) (fun c11 => ?_)
  · refine wp0 rfl rfl ?_
    refine wp2 rfl rfl ?_
    exact wpL rfl rfl (sb_71_21 hJ9 (l3) (x10) (x10) (2) (by decide))
  · refine wp0 rfl rfl ?_
    exact wpL rfl rfl (sb_71_21 hJ9 (l3) (x10) (x10) (0) (by decide))
theorem sf_71 {s : cs} {mc : am_H} {D : List pgT} (hJ : J s mc D) (l1 : Int64) (l3 : Int32) (l4 : Int32)  : tb_wp L xs 71 0 (lv_args 0 [.ref 10, .long l1, .int l3, .int l4]) [] (HH s mc D) (SI mc) := sb_71_0 hJ l1 l3 l4
/- 90: FlagMachine$Products.divideSigned(JI)Z -/
set_option maxRecDepth 20000 in
theorem sb_90_217 {s : cs} {mc : am_H} {D : List pgT} (hJ : J s mc D) (k1 : Int64)  : tb_wp L xs 90 217 [] [.long k1, .ref 16] (HH s mc D) (SZ mc) := by
  refine wp3 rfl (am_putf rfl (Nat.le_of_ble_eq_true rfl) rfl rfl) ?_
  have hJ1 : J (s_rest s k1) mc D := hJ
  refine wpH (h' := HH (s_rest s k1) mc D) rfl ?_
  refine wp0 rfl rfl ?_
  exact wp5z rfl rfl b1 ⟨_, _, hJ1, rfl, _, rfl, b1⟩
set_option maxRecDepth 20000 in
theorem sb_90_193 {s : cs} {mc : am_H} {D : List pgT} (hJ : J s mc D) (l4 : Int64) (l6 : Int32) (k1 : Int64) (hb_l6 : b01 l6) : tb_wp L xs 90 193 [(0, .ref 16), (4, .long l4), (6, .int l6)] [.long k1, .ref 16] (HH s mc D) (SZ mc) := by
  refine wp3 rfl (am_putf rfl (Nat.le_of_ble_eq_true rfl) rfl rfl) ?_
  have hJ2 : J (s_quot s k1) mc D := hJ
  refine wpH (h' := HH (s_quot s k1) mc D) rfl ?_
  refine wp1 rfl rfl ?_
  refine wp1 rfl rfl ?_
  refine wp2b rfl rfl (fun c3 => ?_) (fun c3 => ?_)
  · refine wp1 rfl rfl ?_
    refine wp3 rfl (am_getf rfl rfl) ?_
    exact wpL rfl rfl (sb_90_217 hJ2 ((g_rest (s_quot s k1))))
  · refine wp1 rfl rfl ?_
    refine wp3 rfl (am_getf rfl rfl) ?_
    refine wp0 rfl rfl ?_
    refine wp1 rfl rfl ?_
    refine wp0 rfl rfl ?_
    refine wp2 rfl rfl ?_
    exact wpL rfl rfl (sb_90_217 hJ2 (((-(g_rest (s_quot s k1))) &&& l4)))
set_option maxRecDepth 20000 in
theorem sb_90_156 {s : cs} {mc : am_H} {D : List pgT} (hJ : J s mc D) (l4 : Int64) (l6 : Int32) (l7 : Int32) (k0 : Int64) (hb_l6 : b01 l6) (hb_l7 : b01 l7) : tb_wp L xs 90 156 [(0, .ref 16), (4, .long l4), (6, .int l6), (7, .int l7)] [.long k0] (HH s mc D) (SZ mc) := by
  refine wp1 rfl rfl ?_
  refine wpV (lv' := [(0, .ref 16), (4, .long l4), (6, .int l6), (7, .int l7), (10, .long k0)]) rfl ?_
  refine wp1 rfl rfl ?_
  refine wp1 rfl rfl ?_
  refine wp3 rfl (am_getf rfl rfl) ?_
  refine wp4 rfl rfl (sf_3 hJ (k0) ((g_quot s))) (fun rv h1 hq => ?_)
  obtain ⟨s5, D6, hJ7, rfl, x8, rfl, hb_x8⟩ := hq
  refine wp2b rfl rfl (fun c9 => ?_) (fun c9 => ?_)
  · refine wp1 rfl rfl ?_
    refine wp1 rfl rfl ?_
    refine wp2b rfl rfl (fun c10 => ?_) (fun c10 => ?_)
    · refine wp1 rfl rfl ?_
      refine wp3 rfl (am_getf rfl rfl) ?_
      exact wpL rfl rfl (sb_90_193 hJ7 (l4) (l6) ((g_quot s5)) hb_l6)
    · refine wp1 rfl rfl ?_
      refine wp3 rfl (am_getf rfl rfl) ?_
      refine wp0 rfl rfl ?_
      refine wp1 rfl rfl ?_
      refine wp0 rfl rfl ?_
      refine wp2 rfl rfl ?_
      exact wpL rfl rfl (sb_90_193 hJ7 (l4) (l6) (((-(g_quot s5)) &&& l4)) hb_l6)
  · refine wp0 rfl rfl ?_
    exact wp5z rfl rfl b0 ⟨_, _, hJ7, rfl, _, rfl, b0⟩
set_option maxRecDepth 20000 in
theorem sb_90_124 {s : cs} {mc : am_H} {D : List pgT} (hJ : J s mc D) (l3 : Int32) (l4 : Int64) (l6 : Int32) (l7 : Int32) (k0 : Int64) (hb_l6 : b01 l6) (hb_l7 : b01 l7) : tb_wp L xs 90 124 [(0, .ref 16), (3, .int l3), (4, .long l4), (6, .int l6), (7, .int l7)] [.long k0] (HH s mc D) (SZ mc) := by
  refine wp1 rfl rfl ?_
  refine wpV (lv' := [(0, .ref 16), (3, .int l3), (4, .long l4), (6, .int l6), (7, .int l7), (8, .long k0)]) rfl ?_
  refine wp1 rfl rfl ?_
  refine wp1 rfl rfl ?_
  refine wp1 rfl rfl ?_
  refine wp4 rfl rfl (sf_91 hJ (k0) (l3)) (fun rv h1 hq => ?_)
  obtain ⟨s12, D13, hJ14, rfl, x15, rfl, hb_x15⟩ := hq
  refine wp2b rfl rfl (fun c16 => ?_) (fun c16 => ?_)
  · refine wp0 rfl rfl ?_
    exact wp5z rfl rfl b0 ⟨_, _, hJ14, rfl, _, rfl, b0⟩
  · refine wp1 rfl rfl ?_
    refine wp2b rfl rfl (fun c17 => ?_) (fun c17 => ?_)
    · refine wp1 rfl rfl ?_
      refine wp4 rfl rfl (sf_19 hJ14 (l3)) (fun rv h1 hq => ?_)
      obtain ⟨s19, D20, hJ21, rfl, x22, rfl⟩ := hq
      refine wp0 rfl rfl ?_
      refine wp0 rfl rfl ?_
      exact wpL rfl rfl (sb_90_156 hJ21 (l4) (l6) (l7) ((x22 - 1)) hb_l6 hb_l7)
    · refine wp1 rfl rfl ?_
      refine wp4 rfl rfl (sf_19 hJ14 (l3)) (fun rv h1 hq => ?_)
      obtain ⟨s24, D25, hJ26, rfl, x27, rfl⟩ := hq
      refine wp2 rfl rfl ?_
      exact wpL rfl rfl (sb_90_156 hJ26 (l4) (l6) (l7) (x27) hb_l6 hb_l7)
set_option maxRecDepth 20000 in
theorem sb_90_104 {s : cs} {mc : am_H} {D : List pgT} (hJ : J s mc D) (l1 : Int64) (l3 : Int32) (l4 : Int64) (l6 : Int32) (l7 : Int32) (hb_l6 : b01 l6) (hb_l7 : b01 l7) : tb_wp L xs 90 104 [(0, .ref 16), (1, .long l1), (3, .int l3), (4, .long l4), (6, .int l6), (7, .int l7)] [] (HH s mc D) (SZ mc) := by
  refine wp1 rfl rfl ?_
  refine wp1 rfl rfl ?_
  refine wp4 rfl rfl (sf_19 hJ (l3)) (fun rv h1 hq => ?_)
  obtain ⟨s29, D30, hJ31, rfl, x32, rfl⟩ := hq
  refine wp0 rfl rfl ?_
  refine wp0 rfl rfl ?_
  refine wp0 rfl rfl ?_
  refine wp2b rfl rfl (fun c33 => ?_) (fun c33 => ?_)
  · refine wp1 rfl rfl ?_
    exact wpL rfl rfl (sb_90_124 hJ31 (l3) (l4) (l6) (l7) (l1) hb_l6 hb_l7)
  · refine wp1 rfl rfl ?_
    refine wp0 rfl rfl ?_
    refine wp1 rfl rfl ?_
    refine wp0 rfl rfl ?_
    refine wp2 rfl rfl ?_
    exact wpL rfl rfl (sb_90_124 hJ31 (l3) (l4) (l6) (l7) (((-l1) &&& l4)) hb_l6 hb_l7)
set_option maxRecDepth 20000 in
theorem sb_90_98 {s : cs} {mc : am_H} {D : List pgT} (hJ : J s mc D) (l1 : Int64) (l3 : Int32) (l4 : Int64) (l6 : Int32) (l7 : Int32) (k1 : Int64) (hb_l6 : b01 l6) (hb_l7 : b01 l7) : tb_wp L xs 90 98 [(0, .ref 16), (1, .long l1), (3, .int l3), (4, .long l4), (6, .int l6), (7, .int l7)] [.long k1, .ref 16] (HH s mc D) (SZ mc) := by
  refine wp1 rfl rfl ?_
  refine wp0 rfl rfl ?_
  refine wp3 rfl (am_putf rfl (Nat.le_of_ble_eq_true rfl) rfl rfl) ?_
  have hJ34 : J (s_upper s (k1 &&& l4)) mc D := hJ
  refine wpH (h' := HH (s_upper s (k1 &&& l4)) mc D) rfl ?_
  exact wpL rfl rfl (sb_90_104 hJ34 (l1) (l3) (l4) (l6) (l7) hb_l6 hb_l7)
set_option maxRecDepth 20000 in
theorem sb_90_53 {s : cs} {mc : am_H} {D : List pgT} (hJ : J s mc D) (l1 : Int64) (l3 : Int32) (l4 : Int64) (l6 : Int32) (k0 : Int32) (hb_l6 : b01 l6) (hb_k0 : b01 k0) : tb_wp L xs 90 53 [(0, .ref 16), (1, .long l1), (3, .int l3), (4, .long l4), (6, .int l6)] [.int k0] (HH s mc D) (SZ mc) := by
  refine wp1 rfl rfl ?_
  refine wpV (lv' := [(0, .ref 16), (1, .long l1), (3, .int l3), (4, .long l4), (6, .int l6), (7, .int k0)]) rfl ?_
  refine wp1 rfl rfl ?_
  refine wp2b rfl rfl (fun c35 => ?_) (fun c35 => ?_)
  · exact wpL rfl rfl (sb_90_104 hJ (l1) (l3) (l4) (l6) (k0) hb_l6 hb_k0)
  · refine wp1 rfl rfl ?_
    refine wp1 rfl rfl ?_
    refine wp3 rfl (am_getf rfl rfl) ?_
    refine wp0 rfl rfl ?_
    refine wp1 rfl rfl ?_
    refine wp0 rfl rfl ?_
    refine wp3 rfl (am_putf rfl (Nat.le_of_ble_eq_true rfl) rfl rfl) ?_
    have hJ36 : J (s_lower s ((-(g_lower s)) &&& l4)) mc D := hJ
    refine wpH (h' := HH (s_lower s ((-(g_lower s)) &&& l4)) mc D) rfl ?_
    refine wp1 rfl rfl ?_
    refine wp1 rfl rfl ?_
    refine wp3 rfl (am_getf rfl rfl) ?_
    refine wp0 rfl rfl ?_
    refine wp0 rfl rfl ?_
    refine wp2b rfl rfl (fun c37 => ?_) (fun c37 => ?_)
    · refine wp1 rfl rfl ?_
      refine wp3 rfl (am_getf rfl rfl) ?_
      refine wp0 rfl rfl ?_
      refine wp2 rfl rfl ?_
      exact wpL rfl rfl (sb_90_98 hJ36 (l1) (l3) (l4) (l6) (k0) ((-(g_upper (s_lower s ((-(g_lower s)) &&& l4))))) hb_l6 hb_k0)
    · refine wp1 rfl rfl ?_
      refine wp3 rfl (am_getf rfl rfl) ?_
      refine wp0 rfl rfl ?_
      refine wp0 rfl rfl ?_
      exact wpL rfl rfl (sb_90_98 hJ36 (l1) (l3) (l4) (l6) (k0) (((g_upper (s_lower s ((-(g_lower s)) &&& l4))) ^^^ (-1))) hb_l6 hb_k0)
set_option maxRecDepth 20000 in
theorem sb_90_45 {s : cs} {mc : am_H} {D : List pgT} (hJ : J s mc D) (l1 : Int64) (l3 : Int32) (l4 : Int64) (l6 : Int32) (k0 : Int32) (k1 : Int32) (hb_l6 : b01 l6) (hb_k0 : b01 k0) (hb_k1 : b01 k1) : tb_wp L xs 90 45 [(0, .ref 16), (1, .long l1), (3, .int l3), (4, .long l4), (6, .int l6)] [.int k1, .int k0] (HH s mc D) (SZ mc) := by
  refine wp2b rfl rfl (fun c38 => ?_) (fun c38 => ?_)
  · refine wp0 rfl rfl ?_
    exact wpL rfl rfl (sb_90_53 hJ (l1) (l3) (l4) (l6) (0) hb_l6 b0)
  · refine wp0 rfl rfl ?_
    refine wp2 rfl rfl ?_
    exact wpL rfl rfl (sb_90_53 hJ (l1) (l3) (l4) (l6) (1) hb_l6 b1)
set_option maxRecDepth 20000 in
theorem sb_90_25 {s : cs} {mc : am_H} {D : List pgT} (hJ : J s mc D) (l1 : Int64) (l3 : Int32) (l4 : Int64) (k0 : Int32) (hb_k0 : b01 k0) : tb_wp L xs 90 25 [(0, .ref 16), (1, .long l1), (3, .int l3), (4, .long l4)] [.int k0] (HH s mc D) (SZ mc) := by
  refine wp1 rfl rfl ?_
  refine wpV (lv' := [(0, .ref 16), (1, .long l1), (3, .int l3), (4, .long l4), (6, .int k0)]) rfl ?_
  refine wp1 rfl rfl ?_
  refine wp1 rfl rfl ?_
  refine wp1 rfl rfl ?_
  refine wp4 rfl rfl (sf_19 hJ (l3)) (fun rv h1 hq => ?_)
  obtain ⟨s40, D41, hJ42, rfl, x43, rfl⟩ := hq
  refine wp0 rfl rfl ?_
  refine wp0 rfl rfl ?_
  refine wp0 rfl rfl ?_
  refine wp2b rfl rfl (fun c44 => ?_) (fun c44 => ?_)
  · refine wp0 rfl rfl ?_
    exact wpL rfl rfl (sb_90_45 hJ42 (l1) (l3) (l4) (k0) (k0) (0) hb_k0 hb_k0 b0)
  · refine wp0 rfl rfl ?_
    refine wp2 rfl rfl ?_
    exact wpL rfl rfl (sb_90_45 hJ42 (l1) (l3) (l4) (k0) (k0) (1) hb_k0 hb_k0 b1)
set_option maxRecDepth 20000 in
theorem sb_90_0 {s : cs} {mc : am_H} {D : List pgT} (hJ : J s mc D) (l1 : Int64) (l3 : Int32)  : tb_wp L xs 90 0 [(0, .ref 16), (1, .long l1), (3, .int l3)] [] (HH s mc D) (SZ mc) := by
  refine wp1 rfl rfl ?_
  refine wp4 rfl rfl (sf_7 hJ (l3)) (fun rv h1 hq => ?_)
  obtain ⟨s46, D47, hJ48, rfl, x49, rfl⟩ := hq
  refine wp1 rfl rfl ?_
  refine wpV (lv' := [(0, .ref 16), (1, .long l1), (3, .int l3), (4, .long x49)]) rfl ?_
  refine wp1 rfl rfl ?_
  refine wp3 rfl (am_getf rfl rfl) ?_
  refine wp1 rfl rfl ?_
  refine wp4 rfl rfl (sf_19 hJ48 (l3)) (fun rv h1 hq => ?_)
  obtain ⟨s51, D52, hJ53, rfl, x54, rfl⟩ := hq
  refine wp0 rfl rfl ?_
  refine wp0 rfl rfl ?_
  refine wp0 rfl rfl ?_
  refine wp2b rfl rfl (fun c55 => ?_) (fun c55 => ?_)
  · refine wp0 rfl rfl ?_
    exact wpL rfl rfl (sb_90_25 hJ53 (l1) (l3) (x49) (0) b0)
  · refine wp0 rfl rfl ?_
    refine wp2 rfl rfl ?_
    exact wpL rfl rfl (sb_90_25 hJ53 (l1) (l3) (x49) (1) b1)
theorem sf_90 {s : cs} {mc : am_H} {D : List pgT} (hJ : J s mc D) (l1 : Int64) (l3 : Int32)  : tb_wp L xs 90 0 (lv_args 0 [.ref 16, .long l1, .int l3]) [] (HH s mc D) (SZ mc) := sb_90_0 hJ l1 l3
/- 101: FlagMachine$Services.giveOutput(JJ)J -/
set_option maxRecDepth 20000 in
theorem sb_101_54 {s : cs} {mc : am_H} {D : List pgT} (hJ : J s mc D) (l5 : Int32) (l6 : Int32)  : tb_wp L xs 101 54 [(0, .ref 19), (5, .int l5), (6, .int l6)] [] (HH s mc D) (SJ mc) := by
  refine wp1 rfl rfl ?_
  refine wp3 rfl (am_getf rfl rfl) ?_
  refine wp1 rfl rfl ?_
  refine wp3 rfl (am_getf rfl rfl) ?_
  refine wp3 rfl (am_getf rfl rfl) ?_
  refine wp3 rfl (am_getf rfl rfl) ?_
  refine wp1 rfl rfl ?_
  refine wp1 rfl rfl ?_
  refine wp3 rfl (am_getf rfl rfl) ?_
  refine wp1 rfl rfl ?_
  refine wp4 rfl rfl (sf_112_3_1 hJ (l6) ((g_sent s)) (l5)) (fun rv h1 hq => ?_)
  obtain ⟨s2, D3, hJ4, rfl, rfl⟩ := hq
  refine wp1 rfl rfl ?_
  refine wp0 rfl rfl ?_
  refine wp3 rfl (am_getf rfl rfl) ?_
  refine wp1 rfl rfl ?_
  refine wp0 rfl rfl ?_
  refine wp3 rfl (am_putf rfl (Nat.le_of_ble_eq_true rfl) rfl rfl) ?_
  have hJ6 : J (s_sent s2 ((g_sent s2) + l5)) mc D3 := hJ4
  refine wpH (h' := HH (s_sent s2 ((g_sent s2) + l5)) mc D3) rfl ?_
  refine wp1 rfl rfl ?_
  refine wp0 rfl rfl ?_
  exact wp5 rfl rfl ⟨_, _, hJ6, rfl, _, rfl⟩
set_option maxRecDepth 20000 in
theorem sb_101_0 {s : cs} {mc : am_H} {D : List pgT} (hJ : J s mc D) (l1 : Int64) (l3 : Int64)  : tb_wp L xs 101 0 [(0, .ref 19), (1, .long l1), (3, .long l3)] [] (HH s mc D) (SJ mc) := by
  refine wp0 rfl rfl ?_
  refine wp1 rfl rfl ?_
  refine wp3 rfl (am_getf rfl rfl) ?_
  refine wp0 rfl rfl ?_
  refine wp0 rfl rfl ?_
  refine wp1 rfl rfl ?_
  refine wp4 rfl rfl (sf_3 hJ ((Int32.toInt64 (65536 - (g_sent s)))) (l3)) (fun rv h1 hq => ?_)
  obtain ⟨s8, D9, hJ10, rfl, x11, rfl, hb_x11⟩ := hq
  refine wp2b rfl rfl (fun c12 => ?_) (fun c12 => ?_)
  · refine wp1 rfl rfl ?_
    refine wp0 rfl rfl ?_
    refine wpTi (fun z13 ez13 => ?_)
    refine wp1 rfl rfl ?_
    refine wpV (lv' := [(0, .ref 19), (1, .long l1), (3, .long l3), (5, .int z13)]) rfl ?_
    refine wp1 rfl rfl ?_
    refine wp3 rfl (am_getf rfl rfl) ?_
    refine wp3 rfl (am_getf rfl rfl) ?_
    refine wp1 rfl rfl ?_
    refine wp1 rfl rfl ?_
    refine wp0 rfl rfl ?_
    refine wp4 rfl rfl (sf_71 hJ10 (l1) (z13) (0)) (fun rv h1 hq => ?_)
    obtain ⟨s15, D16, hJ17, rfl, x18, rfl⟩ := hq
    refine wp1 rfl rfl ?_
    refine wpV (lv' := [(0, .ref 19), (1, .long l1), (3, .long l3), (5, .int z13), (6, .int x18)]) rfl ?_
    refine wp1 rfl rfl ?_
    refine wp2b rfl rfl (fun c19 => ?_) (fun c19 => ?_)
    · exact wpL rfl rfl (sb_101_54 hJ17 (z13) (x18))
    · refine wp1 rfl rfl ?_
      refine wp0 rfl rfl ?_
      refine wp2b rfl rfl (fun c20 => ?_) (fun c20 => ?_)
      · refine wp0 rfl rfl ?_
        exact wp5 rfl rfl ⟨_, _, hJ17, rfl, _, rfl⟩
      · exact wpL rfl rfl (sb_101_54 hJ17 (z13) (x18))
  · refine wp0 rfl rfl ?_
    exact wp5 rfl rfl ⟨_, _, hJ10, rfl, _, rfl⟩
theorem sf_101 {s : cs} {mc : am_H} {D : List pgT} (hJ : J s mc D) (l1 : Int64) (l3 : Int64)  : tb_wp L xs 101 0 (lv_args 0 [.ref 19, .long l1, .long l3]) [] (HH s mc D) (SJ mc) := sb_101_0 hJ l1 l3
/- 105: FlagMachine$Services.takeInput(JJ)J -/
set_option maxRecDepth 20000 in
theorem sb_105_57 (n : Nat) : ∀ {s : cs} {mc : am_H} {D : List pgT} (hJ : J s mc D) (l5 : Int32) (l6 : Int32) (l7 : Int32) (hn_l7 : 0 ≤ Int32.toInt l7) (hm : ((l5 : Int32).toInt - (l7 : Int32).toInt).toNat < n), tb_wp L xs 105 57 [(0, .ref 19), (5, .int l5), (6, .int l6), (7, .int l7)] [] (HH s mc D) (SJ mc) := by
  induction n with
  | zero => intro s mc D hJ l5 l6 l7 hn_l7 hm; exact absurd hm (Nat.not_lt_zero _)
  | succ n ih =>
    intro s mc D hJ l5 l6 l7 hn_l7 hm
    refine wp1 rfl rfl ?_
    refine wp1 rfl rfl ?_
    refine wp2b rfl rfl (fun c1 => ?_) (fun c1 => ?_)
    · refine wp1 rfl rfl ?_
      refine wp1 rfl rfl ?_
      refine wp3 rfl (am_getf rfl rfl) ?_
      refine wp1 rfl rfl ?_
      refine wp0 rfl rfl ?_
      refine wp0 rfl rfl ?_
      refine wp0 rfl rfl ?_
      refine wp3 rfl (am_putf rfl (Nat.le_of_ble_eq_true rfl) rfl rfl) ?_
      have hJ2 : J (s_first s (((g_first s) + l5) - ((g_first s) + l5) / 65536 * 65536)) mc D := hJ
      refine wpH (h' := HH (s_first s (((g_first s) + l5) - ((g_first s) + l5) / 65536 * 65536)) mc D) rfl ?_
      refine wp1 rfl rfl ?_
      refine wp0 rfl rfl ?_
      refine wp3 rfl (am_getf rfl rfl) ?_
      refine wp1 rfl rfl ?_
      refine wp0 rfl rfl ?_
      refine wp3 rfl (am_putf rfl (Nat.le_of_ble_eq_true rfl) rfl rfl) ?_
      have hJ3 : J (s_waiting (s_first s (((g_first s) + l5) - ((g_first s) + l5) / 65536 * 65536)) ((g_waiting (s_first s (((g_first s) + l5) - ((g_first s) + l5) / 65536 * 65536))) - l5)) mc D := hJ2
      refine wpH (h' := HH (s_waiting (s_first s (((g_first s) + l5) - ((g_first s) + l5) / 65536 * 65536)) ((g_waiting (s_first s (((g_first s) + l5) - ((g_first s) + l5) / 65536 * 65536))) - l5)) mc D) rfl ?_
      refine wp1 rfl rfl ?_
      refine wp0 rfl rfl ?_
      exact wp5 rfl rfl ⟨_, _, hJ3, rfl, _, rfl⟩
    · refine wp1 rfl rfl ?_
      refine wp3 rfl (am_getf rfl rfl) ?_
      refine wp3 rfl (am_getf rfl rfl) ?_
      refine wp3 rfl (am_getf rfl rfl) ?_
      refine wp1 rfl rfl ?_
      refine wp1 rfl rfl ?_
      refine wp0 rfl rfl ?_
      refine wp1 rfl rfl ?_
      refine wp3 rfl (am_getf rfl rfl) ?_
      refine wp1 rfl rfl ?_
      refine wp3 rfl (am_getf rfl rfl) ?_
      refine wp1 rfl rfl ?_
      refine wp0 rfl rfl ?_
      refine wp0 rfl rfl ?_
      refine wp0 rfl rfl ?_
      refine wp4 rfl rfl (sf_108_2 hJ ((((g_first s) + l7) - ((g_first s) + l7) / 65536 * 65536))) (fun rv h1 hq => ?_)
      obtain ⟨s5, D6, hJ7, rfl, x8, rfl⟩ := hq
      refine wp4 rfl rfl (sf_116_1 hJ7 ((l6 + l7)) (x8)) (fun rv h1 hq => ?_)
      obtain ⟨s10, D11, hJ12, rfl, rfl⟩ := hq
      refine wp1 rfl rfl ?_
      refine wpV (lv' := [(0, .ref 19), (5, .int l5), (6, .int l6), (7, .int (l7 + 1))]) rfl ?_
      refine wp2 rfl rfl ?_
      exact wpL rfl rfl (ih hJ12 (l5) (l6) ((l7 + 1)) (i32_upp c1 hn_l7) (i32_up c1 hm))
set_option maxRecDepth 20000 in
theorem sb_105_54 {s : cs} {mc : am_H} {D : List pgT} (hJ : J s mc D) (l5 : Int32) (l6 : Int32)  : tb_wp L xs 105 54 [(0, .ref 19), (5, .int l5), (6, .int l6)] [] (HH s mc D) (SJ mc) := by
  refine wp0 rfl rfl ?_
  refine wp1 rfl rfl ?_
  refine wpV (lv' := [(0, .ref 19), (5, .int l5), (6, .int l6), (7, .int 0)]) rfl ?_
  exact wpL rfl rfl (sb_105_57 _ hJ (l5) (l6) (0) (by decide) (Nat.lt_succ_self _))
set_option maxRecDepth 20000 in
theorem sb_105_21 {s : cs} {mc : am_H} {D : List pgT} (hJ : J s mc D) (l1 : Int64) (k0 : Int32)  : tb_wp L xs 105 21 [(0, .ref 19), (1, .long l1)] [.int k0] (HH s mc D) (SJ mc) := by
  refine wp1 rfl rfl ?_
  refine wpV (lv' := [(0, .ref 19), (1, .long l1), (5, .int k0)]) rfl ?_
  refine wp1 rfl rfl ?_
  refine wp3 rfl (am_getf rfl rfl) ?_
  refine wp3 rfl (am_getf rfl rfl) ?_
  refine wp1 rfl rfl ?_
  refine wp1 rfl rfl ?_
  refine wp0 rfl rfl ?_
  refine wp4 rfl rfl (sf_71 hJ (l1) (k0) (1)) (fun rv h1 hq => ?_)
  obtain ⟨s15, D16, hJ17, rfl, x18, rfl⟩ := hq
  refine wp1 rfl rfl ?_
  refine wpV (lv' := [(0, .ref 19), (1, .long l1), (5, .int k0), (6, .int x18)]) rfl ?_
  refine wp1 rfl rfl ?_
  refine wp2b rfl rfl (fun c19 => ?_) (fun c19 => ?_)
  · exact wpL rfl rfl (sb_105_54 hJ17 (k0) (x18))
  · refine wp1 rfl rfl ?_
    refine wp0 rfl rfl ?_
    refine wp2b rfl rfl (fun c20 => ?_) (fun c20 => ?_)
    · refine wp0 rfl rfl ?_
      exact wp5 rfl rfl ⟨_, _, hJ17, rfl, _, rfl⟩
    · exact wpL rfl rfl (sb_105_54 hJ17 (k0) (x18))
set_option maxRecDepth 20000 in
theorem sb_105_0 {s : cs} {mc : am_H} {D : List pgT} (hJ : J s mc D) (l1 : Int64) (l3 : Int64)  : tb_wp L xs 105 0 [(0, .ref 19), (1, .long l1), (3, .long l3)] [] (HH s mc D) (SJ mc) := by
  refine wp1 rfl rfl ?_
  refine wp1 rfl rfl ?_
  refine wp3 rfl (am_getf rfl rfl) ?_
  refine wp0 rfl rfl ?_
  refine wp4 rfl rfl (sf_3 hJ (l3) ((Int32.toInt64 (g_waiting s)))) (fun rv h1 hq => ?_)
  obtain ⟨s22, D23, hJ24, rfl, x25, rfl, hb_x25⟩ := hq
  refine wp2b rfl rfl (fun c26 => ?_) (fun c26 => ?_)
  · refine wp1 rfl rfl ?_
    refine wp3 rfl (am_getf rfl rfl) ?_
    exact wpL rfl rfl (sb_105_21 hJ24 (l1) ((g_waiting s22)))
  · refine wp1 rfl rfl ?_
    refine wp0 rfl rfl ?_
    refine wp2 rfl rfl ?_
    exact wpL rfl rfl (sb_105_21 hJ24 (l1) ((Int64.toInt32 l3)))
theorem sf_105 {s : cs} {mc : am_H} {D : List pgT} (hJ : J s mc D) (l1 : Int64) (l3 : Int64)  : tb_wp L xs 105 0 (lv_args 0 [.ref 19, .long l1, .long l3]) [] (HH s mc D) (SJ mc) := sb_105_0 hJ l1 l3
/- 2: FlagMachine.begin(IIIIII)Z -/
set_option maxRecDepth 20000 in
theorem sb_2_54 {s : cs} {mc : am_H} {D : List pgT} (hJ : J s mc D)   : tb_wp L xs 2 54 [] [] (HH s mc D) (SZ mc) := by
  refine wp0 rfl rfl ?_
  exact wp5z rfl rfl b0 ⟨_, _, hJ, rfl, _, rfl, b0⟩
set_option maxRecDepth 20000 in
theorem sb_2_35 {s : cs} {mc : am_H} {D : List pgT} (hJ : J s mc D) (l1 : Int32) (l2 : Int32) (l3 : Int32) (l4 : Int32) (l5 : Int32) (l6 : Int32) (k0 : Int32) (hb_k0 : b01 k0) : tb_wp L xs 2 35 [(0, .ref 1), (1, .int l1), (2, .int l2), (3, .int l3), (4, .int l4), (5, .int l5), (6, .int l6)] [.int k0] (HH s mc D) (SZ mc) := by
  refine wp1 rfl rfl ?_
  refine wpV (lv' := [(0, .ref 1), (1, .int l1), (2, .int l2), (3, .int l3), (4, .int l4), (5, .int l5), (6, .int l6), (7, .int k0)]) rfl ?_
  refine wp1 rfl rfl ?_
  refine wp2b rfl rfl (fun c1 => ?_) (fun c1 => ?_)
  · exact wpL rfl rfl (sb_2_54 hJ )
  · refine wp1 rfl rfl ?_
    refine wp1 rfl rfl ?_
    refine wp2b rfl rfl (fun c2 => ?_) (fun c2 => ?_)
    · exact wpL rfl rfl (sb_2_54 hJ )
    · refine wp1 rfl rfl ?_
      refine wp0 rfl rfl ?_
      refine wp2b rfl rfl (fun c3 => ?_) (fun c3 => ?_)
      · refine wp1 rfl rfl ?_
        refine wp3 rfl (am_getf rfl rfl) ?_
        refine wp3 rfl (am_getf rfl rfl) ?_
        refine wp1 rfl rfl ?_
        refine wp1 rfl rfl ?_
        refine wp1 rfl rfl ?_
        refine wp1 rfl rfl ?_
        refine wp1 rfl rfl ?_
        refine wp1 rfl rfl ?_
        refine wp4 rfl rfl (sf_68 hJ (l1) (l2) (l3) (l4) (l5) (l6)) (fun rv h1 hq => ?_)
        obtain ⟨s5, D6, hJ7, rfl, rfl⟩ := hq
        refine wp1 rfl rfl ?_
        refine wp3 rfl (am_getf rfl rfl) ?_
        refine wp3 rfl (am_getf rfl rfl) ?_
        refine wp1 rfl rfl ?_
        refine wp3 rfl (am_getf rfl rfl) ?_
        refine wp1 rfl rfl ?_
        refine wp4 rfl rfl (sf_69 hJ7 (l1)) (fun rv h1 hq => ?_)
        obtain ⟨s10, D11, hJ12, rfl, rfl⟩ := hq
        refine wp1 rfl rfl ?_
        refine wp3 rfl (am_getf rfl rfl) ?_
        refine wp4 rfl rfl (sf_40 hJ12 ) (fun rv h1 hq => ?_)
        obtain ⟨s15, D16, hJ17, rfl, rfl⟩ := hq
        refine wp1 rfl rfl ?_
        refine wp3 rfl (am_getf rfl rfl) ?_
        refine wp4 rfl rfl (sf_104 hJ17 ) (fun rv h1 hq => ?_)
        obtain ⟨s20, D21, hJ22, rfl, rfl⟩ := hq
        refine wp1 rfl rfl ?_
        refine wp0 rfl rfl ?_
        refine wp3 rfl (am_putf rfl (Nat.le_of_ble_eq_true rfl) (b01_nar b0) (b01_fit b0)) ?_
        have hJ24 := J_ended hJ22 b0
        refine wpH (h' := HH (s_ended s20 0) mc D21) rfl ?_
        refine wp1 rfl rfl ?_
        refine wp0 rfl rfl ?_
        refine wp3 rfl (am_putf rfl (Nat.le_of_ble_eq_true rfl) rfl rfl) ?_
        have hJ25 : J (s_steps (s_ended s20 0) 0) mc D21 := hJ24
        refine wpH (h' := HH (s_steps (s_ended s20 0) 0) mc D21) rfl ?_
        refine wp0 rfl rfl ?_
        exact wp5z rfl rfl b1 ⟨_, _, hJ25, rfl, _, rfl, b1⟩
      · exact wpL rfl rfl (sb_2_54 hJ )
set_option maxRecDepth 20000 in
theorem sb_2_34 {s : cs} {mc : am_H} {D : List pgT} (hJ : J s mc D) (l1 : Int32) (l2 : Int32) (l3 : Int32) (l4 : Int32) (l5 : Int32) (l6 : Int32)  : tb_wp L xs 2 34 [(0, .ref 1), (1, .int l1), (2, .int l2), (3, .int l3), (4, .int l4), (5, .int l5), (6, .int l6)] [] (HH s mc D) (SZ mc) := by
  refine wp0 rfl rfl ?_
  exact wpL rfl rfl (sb_2_35 hJ (l1) (l2) (l3) (l4) (l5) (l6) (0) b0)
set_option maxRecDepth 20000 in
theorem sb_2_0 {s : cs} {mc : am_H} {D : List pgT} (hJ : J s mc D) (l1 : Int32) (l2 : Int32) (l3 : Int32) (l4 : Int32) (l5 : Int32) (l6 : Int32)  : tb_wp L xs 2 0 [(0, .ref 1), (1, .int l1), (2, .int l2), (3, .int l3), (4, .int l4), (5, .int l5), (6, .int l6)] [] (HH s mc D) (SZ mc) := by
  refine wp0 rfl rfl ?_
  refine wp1 rfl rfl ?_
  refine wp2b rfl rfl (fun c26 => ?_) (fun c26 => ?_)
  · exact wpL rfl rfl (sb_2_34 hJ (l1) (l2) (l3) (l4) (l5) (l6))
  · refine wp1 rfl rfl ?_
    refine wp1 rfl rfl ?_
    refine wp2b rfl rfl (fun c27 => ?_) (fun c27 => ?_)
    · exact wpL rfl rfl (sb_2_34 hJ (l1) (l2) (l3) (l4) (l5) (l6))
    · refine wp1 rfl rfl ?_
      refine wp1 rfl rfl ?_
      refine wp2b rfl rfl (fun c28 => ?_) (fun c28 => ?_)
      · exact wpL rfl rfl (sb_2_34 hJ (l1) (l2) (l3) (l4) (l5) (l6))
      · refine wp1 rfl rfl ?_
        refine wp1 rfl rfl ?_
        refine wp2b rfl rfl (fun c29 => ?_) (fun c29 => ?_)
        · exact wpL rfl rfl (sb_2_34 hJ (l1) (l2) (l3) (l4) (l5) (l6))
        · refine wp1 rfl rfl ?_
          refine wp1 rfl rfl ?_
          refine wp2b rfl rfl (fun c30 => ?_) (fun c30 => ?_)
          · exact wpL rfl rfl (sb_2_34 hJ (l1) (l2) (l3) (l4) (l5) (l6))
          · refine wp0 rfl rfl ?_
            refine wp2 rfl rfl ?_
            exact wpL rfl rfl (sb_2_35 hJ (l1) (l2) (l3) (l4) (l5) (l6) (1) b1)
theorem sf_2 {s : cs} {mc : am_H} {D : List pgT} (hJ : J s mc D) (l1 : Int32) (l2 : Int32) (l3 : Int32) (l4 : Int32) (l5 : Int32) (l6 : Int32)  : tb_wp L xs 2 0 (lv_args 0 [.ref 1, .int l1, .int l2, .int l3, .int l4, .int l5, .int l6]) [] (HH s mc D) (SZ mc) := sb_2_0 hJ l1 l2 l3 l4 l5 l6
/- 13: FlagMachine.peek(J)I -/
set_option maxRecDepth 20000 in
theorem sb_13_37 {s : cs} {mc : am_H} {D : List pgT} (hJ : J s mc D) (k0 : Int32)  : tb_wp L xs 13 37 [] [.int k0] (HH s mc D) (SI mc) := by
  exact wp5i rfl rfl ⟨_, _, hJ, rfl, _, rfl⟩
set_option maxRecDepth 20000 in
theorem sb_13_0 {s : cs} {mc : am_H} {D : List pgT} (hJ : J s mc D) (l1 : Int64)  : tb_wp L xs 13 0 [(0, .ref 1), (1, .long l1)] [] (HH s mc D) (SI mc) := by
  refine wp1 rfl rfl ?_
  refine wp3 rfl (am_getf rfl rfl) ?_
  refine wp3 rfl (am_getf rfl rfl) ?_
  refine wp1 rfl rfl ?_
  refine wp0 rfl rfl ?_
  refine wp0 rfl rfl ?_
  refine wp4 rfl rfl (sf_71 hJ (l1) (1) (0)) (fun rv h1 hq => ?_)
  obtain ⟨s2, D3, hJ4, rfl, x5, rfl⟩ := hq
  refine wp1 rfl rfl ?_
  refine wpV (lv' := [(0, .ref 1), (1, .long l1), (3, .int x5)]) rfl ?_
  refine wp1 rfl rfl ?_
  refine wp0 rfl rfl ?_
  refine wp2b rfl rfl (fun c6 => ?_) (fun c6 => ?_)
  · refine wp0 rfl rfl ?_
    refine wp2 rfl rfl ?_
    exact wpL rfl rfl (sb_13_37 hJ4 ((-1)))
  · refine wp1 rfl rfl ?_
    refine wp3 rfl (am_getf rfl rfl) ?_
    refine wp3 rfl (am_getf rfl rfl) ?_
    refine wp3 rfl (am_getf rfl rfl) ?_
    refine wp1 rfl rfl ?_
    refine wp4 rfl rfl (sf_108_1 hJ4 (x5)) (fun rv h1 hq => ?_)
    obtain ⟨s8, D9, hJ10, rfl, x11, rfl⟩ := hq
    exact wpL rfl rfl (sb_13_37 hJ10 (x11))
theorem sf_13 {s : cs} {mc : am_H} {D : List pgT} (hJ : J s mc D) (l1 : Int64)  : tb_wp L xs 13 0 (lv_args 0 [.ref 1, .long l1]) [] (HH s mc D) (SI mc) := sb_13_0 hJ l1
/- 14: FlagMachine.poke(JI)Z -/
set_option maxRecDepth 20000 in
theorem sb_14_0 {s : cs} {mc : am_H} {D : List pgT} (hJ : J s mc D) (l1 : Int64) (l3 : Int32)  : tb_wp L xs 14 0 [(0, .ref 1), (1, .long l1), (3, .int l3)] [] (HH s mc D) (SZ mc) := by
  refine wp1 rfl rfl ?_
  refine wp3 rfl (am_getf rfl rfl) ?_
  refine wp3 rfl (am_getf rfl rfl) ?_
  refine wp1 rfl rfl ?_
  refine wp0 rfl rfl ?_
  refine wp0 rfl rfl ?_
  refine wp4 rfl rfl (sf_71 hJ (l1) (1) (1)) (fun rv h1 hq => ?_)
  obtain ⟨s2, D3, hJ4, rfl, x5, rfl⟩ := hq
  refine wp1 rfl rfl ?_
  refine wpV (lv' := [(0, .ref 1), (1, .long l1), (3, .int l3), (4, .int x5)]) rfl ?_
  refine wp1 rfl rfl ?_
  refine wp0 rfl rfl ?_
  refine wp2b rfl rfl (fun c6 => ?_) (fun c6 => ?_)
  · refine wp0 rfl rfl ?_
    exact wp5z rfl rfl b0 ⟨_, _, hJ4, rfl, _, rfl, b0⟩
  · refine wp1 rfl rfl ?_
    refine wp3 rfl (am_getf rfl rfl) ?_
    refine wp3 rfl (am_getf rfl rfl) ?_
    refine wp3 rfl (am_getf rfl rfl) ?_
    refine wp1 rfl rfl ?_
    refine wp1 rfl rfl ?_
    refine wp0 rfl rfl ?_
    refine wp0 rfl rfl ?_
    refine wp4 rfl rfl (sf_116_1 hJ4 (x5) ((l3 &&& 255))) (fun rv h1 hq => ?_)
    obtain ⟨s8, D9, hJ10, rfl, rfl⟩ := hq
    refine wp0 rfl rfl ?_
    exact wp5z rfl rfl b1 ⟨_, _, hJ10, rfl, _, rfl, b1⟩
theorem sf_14 {s : cs} {mc : am_H} {D : List pgT} (hJ : J s mc D) (l1 : Int64) (l3 : Int32)  : tb_wp L xs 14 0 (lv_args 0 [.ref 1, .long l1, .int l3]) [] (HH s mc D) (SZ mc) := sb_14_0 hJ l1 l3
/- 33: FlagMachine$Core.load(JI)J -/
set_option maxRecDepth 20000 in
theorem sb_33_0 {s : cs} {mc : am_H} {D : List pgT} (hJ : J s mc D) (l1 : Int64) (l3 : Int32)  : tb_wp L xs 33 0 [(0, .ref 7), (1, .long l1), (3, .int l3)] [] (HH s mc D) (SJ mc) := by
  refine wp1 rfl rfl ?_
  refine wp3 rfl (am_getf rfl rfl) ?_
  refine wp1 rfl rfl ?_
  refine wp1 rfl rfl ?_
  refine wp0 rfl rfl ?_
  refine wp4 rfl rfl (sf_71 hJ (l1) (l3) (0)) (fun rv h1 hq => ?_)
  obtain ⟨s2, D3, hJ4, rfl, x5, rfl⟩ := hq
  refine wp1 rfl rfl ?_
  refine wpV (lv' := [(0, .ref 7), (1, .long l1), (3, .int l3), (4, .int x5)]) rfl ?_
  refine wp1 rfl rfl ?_
  refine wp0 rfl rfl ?_
  refine wp2b rfl rfl (fun c6 => ?_) (fun c6 => ?_)
  · refine wp1 rfl rfl ?_
    refine wp0 rfl rfl ?_
    refine wp1 rfl rfl ?_
    refine wp4 rfl rfl (sf_41 hJ4 (3) (l1)) (fun rv h1 hq => ?_)
    obtain ⟨s8, D9, hJ10, rfl, rfl⟩ := hq
    refine wp0 rfl rfl ?_
    exact wp5 rfl rfl ⟨_, _, hJ10, rfl, _, rfl⟩
  · refine wp1 rfl rfl ?_
    refine wp3 rfl (am_getf rfl rfl) ?_
    refine wp3 rfl (am_getf rfl rfl) ?_
    refine wp1 rfl rfl ?_
    refine wp1 rfl rfl ?_
    refine wp4 rfl rfl (sf_119_1 hJ4 (x5) (l3)) (fun rv h1 hq => ?_)
    obtain ⟨s13, D14, hJ15, rfl, x16, rfl⟩ := hq
    exact wp5 rfl rfl ⟨_, _, hJ15, rfl, _, rfl⟩
theorem sf_33 {s : cs} {mc : am_H} {D : List pgT} (hJ : J s mc D) (l1 : Int64) (l3 : Int32)  : tb_wp L xs 33 0 (lv_args 0 [.ref 7, .long l1, .int l3]) [] (HH s mc D) (SJ mc) := sb_33_0 hJ l1 l3
/- 39: FlagMachine$Core.save(JIJ)Z -/
set_option maxRecDepth 20000 in
theorem sb_39_0 {s : cs} {mc : am_H} {D : List pgT} (hJ : J s mc D) (l1 : Int64) (l3 : Int32) (l4 : Int64)  : tb_wp L xs 39 0 [(0, .ref 7), (1, .long l1), (3, .int l3), (4, .long l4)] [] (HH s mc D) (SZ mc) := by
  refine wp1 rfl rfl ?_
  refine wp3 rfl (am_getf rfl rfl) ?_
  refine wp1 rfl rfl ?_
  refine wp1 rfl rfl ?_
  refine wp0 rfl rfl ?_
  refine wp4 rfl rfl (sf_71 hJ (l1) (l3) (1)) (fun rv h1 hq => ?_)
  obtain ⟨s2, D3, hJ4, rfl, x5, rfl⟩ := hq
  refine wp1 rfl rfl ?_
  refine wpV (lv' := [(0, .ref 7), (1, .long l1), (3, .int l3), (4, .long l4), (6, .int x5)]) rfl ?_
  refine wp1 rfl rfl ?_
  refine wp0 rfl rfl ?_
  refine wp2b rfl rfl (fun c6 => ?_) (fun c6 => ?_)
  · refine wp1 rfl rfl ?_
    refine wp0 rfl rfl ?_
    refine wp1 rfl rfl ?_
    refine wp4 rfl rfl (sf_41 hJ4 (3) (l1)) (fun rv h1 hq => ?_)
    obtain ⟨s8, D9, hJ10, rfl, rfl⟩ := hq
    refine wp0 rfl rfl ?_
    exact wp5z rfl rfl b0 ⟨_, _, hJ10, rfl, _, rfl, b0⟩
  · refine wp1 rfl rfl ?_
    refine wp3 rfl (am_getf rfl rfl) ?_
    refine wp3 rfl (am_getf rfl rfl) ?_
    refine wp1 rfl rfl ?_
    refine wp1 rfl rfl ?_
    refine wp1 rfl rfl ?_
    refine wp4 rfl rfl (sf_117_1 hJ4 (x5) (l3) (l4)) (fun rv h1 hq => ?_)
    obtain ⟨s13, D14, hJ15, rfl, rfl⟩ := hq
    refine wp0 rfl rfl ?_
    exact wp5z rfl rfl b1 ⟨_, _, hJ15, rfl, _, rfl, b1⟩
theorem sf_39 {s : cs} {mc : am_H} {D : List pgT} (hJ : J s mc D) (l1 : Int64) (l3 : Int32) (l4 : Int64)  : tb_wp L xs 39 0 (lv_args 0 [.ref 7, .long l1, .int l3, .long l4]) [] (HH s mc D) (SZ mc) := sb_39_0 hJ l1 l3 l4
/- 42: FlagMachine$Core.store(IIJ)Z -/
set_option maxRecDepth 20000 in
theorem sb_42_0 {s : cs} {mc : am_H} {D : List pgT} (hJ : J s mc D) (l1 : Int32) (l2 : Int32) (l3 : Int64) (hi_l1 : am_in l1 3 = true) : tb_wp L xs 42 0 [(0, .ref 7), (1, .int l1), (2, .int l2), (3, .long l3)] [] (HH s mc D) (SZ mc) := by
  refine wp1 rfl rfl ?_
  refine wp3 rfl (am_getf rfl rfl) ?_
  refine wp3 rfl (am_getf rfl rfl) ?_
  refine wp1 rfl rfl ?_
  refine wp3 rfl (am_iald rfl hi_l1) ?_
  refine wp0 rfl rfl ?_
  refine wp2b rfl rfl (fun c1 => ?_) (fun c1 => ?_)
  · refine wp1 rfl rfl ?_
    refine wp1 rfl rfl ?_
    refine wp3 rfl (am_getf rfl rfl) ?_
    refine wp1 rfl rfl ?_
    refine wp1 rfl rfl ?_
    refine wp4 rfl rfl (sf_39 hJ ((g_address s)) (l2) (l3)) (fun rv h1 hq => ?_)
    obtain ⟨s3, D4, hJ5, rfl, x6, rfl, hb_x6⟩ := hq
    exact wp5z rfl rfl hb_x6 ⟨_, _, hJ5, rfl, _, rfl, hb_x6⟩
  · refine wp1 rfl rfl ?_
    refine wp1 rfl rfl ?_
    refine wp3 rfl (am_getf rfl rfl) ?_
    refine wp3 rfl (am_getf rfl rfl) ?_
    refine wp1 rfl rfl ?_
    refine wp3 rfl (am_iald rfl hi_l1) ?_
    refine wp1 rfl rfl ?_
    refine wp1 rfl rfl ?_
    refine wp4 rfl rfl (sf_37 hJ ((g_hregs s (Int32.toNatClampNeg l1))) (l2) (l3) (J_hreg hJ hi_l1)) (fun rv h1 hq => ?_)
    obtain ⟨s8, D9, hJ10, rfl, rfl⟩ := hq
    refine wp0 rfl rfl ?_
    exact wp5z rfl rfl b1 ⟨_, _, hJ10, rfl, _, rfl, b1⟩
theorem sf_42 {s : cs} {mc : am_H} {D : List pgT} (hJ : J s mc D) (l1 : Int32) (l2 : Int32) (l3 : Int64) (hi_l1 : am_in l1 3 = true) : tb_wp L xs 42 0 (lv_args 0 [.ref 7, .int l1, .int l2, .long l3]) [] (HH s mc D) (SZ mc) := sb_42_0 hJ l1 l2 l3 hi_l1
/- 48: FlagMachine$Flags.tellBits(JI)V -/
set_option maxRecDepth 20000 in
theorem sb_48_0 {s : cs} {mc : am_H} {D : List pgT} (hJ : J s mc D) (l1 : Int64) (l3 : Int32)  : tb_wp L xs 48 0 [(0, .ref 9), (1, .long l1), (3, .int l3)] [] (HH s mc D) (SV mc) := by
  refine wp1 rfl rfl ?_
  refine wp0 rfl rfl ?_
  refine wp3 rfl (am_putf rfl (Nat.le_of_ble_eq_true rfl) (b01_nar b0) (b01_fit b0)) ?_
  have hJ1 := J_carry hJ b0
  refine wpH (h' := HH (s_carry s 0) mc D) rfl ?_
  refine wp1 rfl rfl ?_
  refine wp0 rfl rfl ?_
  refine wp3 rfl (am_putf rfl (Nat.le_of_ble_eq_true rfl) (b01_nar b0) (b01_fit b0)) ?_
  have hJ2 := J_over hJ1 b0
  refine wpH (h' := HH (s_over (s_carry s 0) 0) mc D) rfl ?_
  refine wp1 rfl rfl ?_
  refine wp1 rfl rfl ?_
  refine wp1 rfl rfl ?_
  refine wp4 rfl rfl (sf_51 hJ2 (l1) (l3)) (fun rv h1 hq => ?_)
  obtain ⟨s4, D5, hJ6, rfl, rfl⟩ := hq
  exact wp5 rfl rfl ⟨_, _, hJ6, rfl, rfl⟩
theorem sf_48 {s : cs} {mc : am_H} {D : List pgT} (hJ : J s mc D) (l1 : Int64) (l3 : Int32)  : tb_wp L xs 48 0 (lv_args 0 [.ref 9, .long l1, .int l3]) [] (HH s mc D) (SV mc) := sb_48_0 hJ l1 l3
/- 49: FlagMachine$Flags.tellDifference(JJJI)V -/
set_option maxRecDepth 20000 in
theorem sb_49_64 {s : cs} {mc : am_H} {D : List pgT} (hJ : J s mc D) (l5 : Int64) (l7 : Int32) (k1 : Int32) (hb_k1 : b01 k1) : tb_wp L xs 49 64 [(0, .ref 9), (5, .long l5), (7, .int l7)] [.int k1, .ref 9] (HH s mc D) (SV mc) := by
  refine wp3 rfl (am_putf rfl (Nat.le_of_ble_eq_true rfl) (b01_nar hb_k1) (b01_fit hb_k1)) ?_
  have hJ1 := J_over hJ hb_k1
  refine wpH (h' := HH (s_over s k1) mc D) rfl ?_
  refine wp1 rfl rfl ?_
  refine wp1 rfl rfl ?_
  refine wp1 rfl rfl ?_
  refine wp4 rfl rfl (sf_51 hJ1 (l5) (l7)) (fun rv h1 hq => ?_)
  obtain ⟨s3, D4, hJ5, rfl, rfl⟩ := hq
  exact wp5 rfl rfl ⟨_, _, hJ5, rfl, rfl⟩
set_option maxRecDepth 20000 in
theorem sb_49_39 {s : cs} {mc : am_H} {D : List pgT} (hJ : J s mc D) (l1 : Int64) (l3 : Int64) (l5 : Int64) (l7 : Int32) (l8 : Int64) (k1 : Int32) (hb_k1 : b01 k1) : tb_wp L xs 49 39 [(0, .ref 9), (1, .long l1), (3, .long l3), (5, .long l5), (7, .int l7), (8, .long l8)] [.int k1, .ref 9] (HH s mc D) (SV mc) := by
  refine wp3 rfl (am_putf rfl (Nat.le_of_ble_eq_true rfl) (b01_nar hb_k1) (b01_fit hb_k1)) ?_
  have hJ7 := J_carry hJ hb_k1
  refine wpH (h' := HH (s_carry s k1) mc D) rfl ?_
  refine wp1 rfl rfl ?_
  refine wp1 rfl rfl ?_
  refine wp1 rfl rfl ?_
  refine wp0 rfl rfl ?_
  refine wp1 rfl rfl ?_
  refine wp1 rfl rfl ?_
  refine wp0 rfl rfl ?_
  refine wp0 rfl rfl ?_
  refine wp1 rfl rfl ?_
  refine wp0 rfl rfl ?_
  refine wp0 rfl rfl ?_
  refine wp0 rfl rfl ?_
  refine wp2b rfl rfl (fun c8 => ?_) (fun c8 => ?_)
  · refine wp0 rfl rfl ?_
    exact wpL rfl rfl (sb_49_64 hJ7 (l5) (l7) (0) b0)
  · refine wp0 rfl rfl ?_
    refine wp2 rfl rfl ?_
    exact wpL rfl rfl (sb_49_64 hJ7 (l5) (l7) (1) b1)
set_option maxRecDepth 20000 in
theorem sb_49_0 {s : cs} {mc : am_H} {D : List pgT} (hJ : J s mc D) (l1 : Int64) (l3 : Int64) (l5 : Int64) (l7 : Int32)  : tb_wp L xs 49 0 [(0, .ref 9), (1, .long l1), (3, .long l3), (5, .long l5), (7, .int l7)] [] (HH s mc D) (SV mc) := by
  refine wp1 rfl rfl ?_
  refine wp4 rfl rfl (sf_19 hJ (l7)) (fun rv h1 hq => ?_)
  obtain ⟨s10, D11, hJ12, rfl, x13, rfl⟩ := hq
  refine wp1 rfl rfl ?_
  refine wpV (lv' := [(0, .ref 9), (1, .long l1), (3, .long l3), (5, .long l5), (7, .int l7), (8, .long x13)]) rfl ?_
  refine wp1 rfl rfl ?_
  refine wp1 rfl rfl ?_
  refine wp0 rfl rfl ?_
  refine wp0 rfl rfl ?_
  refine wp1 rfl rfl ?_
  refine wp0 rfl rfl ?_
  refine wp1 rfl rfl ?_
  refine wp0 rfl rfl ?_
  refine wp0 rfl rfl ?_
  refine wp1 rfl rfl ?_
  refine wp0 rfl rfl ?_
  refine wp1 rfl rfl ?_
  refine wp0 rfl rfl ?_
  refine wp0 rfl rfl ?_
  refine wp1 rfl rfl ?_
  refine wp0 rfl rfl ?_
  refine wp0 rfl rfl ?_
  refine wp0 rfl rfl ?_
  refine wp2b rfl rfl (fun c14 => ?_) (fun c14 => ?_)
  · refine wp0 rfl rfl ?_
    exact wpL rfl rfl (sb_49_39 hJ12 (l1) (l3) (l5) (l7) (x13) (0) b0)
  · refine wp0 rfl rfl ?_
    refine wp2 rfl rfl ?_
    exact wpL rfl rfl (sb_49_39 hJ12 (l1) (l3) (l5) (l7) (x13) (1) b1)
theorem sf_49 {s : cs} {mc : am_H} {D : List pgT} (hJ : J s mc D) (l1 : Int64) (l3 : Int64) (l5 : Int64) (l7 : Int32)  : tb_wp L xs 49 0 (lv_args 0 [.ref 9, .long l1, .long l3, .long l5, .int l7]) [] (HH s mc D) (SV mc) := sb_49_0 hJ l1 l3 l5 l7
/- 74: FlagMachine$Moves.call(J)V -/
set_option maxRecDepth 20000 in
theorem sb_74_62 {s : cs} {mc : am_H} {D : List pgT} (hJ : J s mc D)   : tb_wp L xs 74 62 [] [] (HH s mc D) (SV mc) := by
  exact wp5 rfl rfl ⟨_, _, hJ, rfl, rfl⟩
set_option maxRecDepth 20000 in
theorem sb_74_0 {s : cs} {mc : am_H} {D : List pgT} (hJ : J s mc D) (l1 : Int64)  : tb_wp L xs 74 0 [(0, .ref 18), (1, .long l1)] [] (HH s mc D) (SV mc) := by
  refine wp1 rfl rfl ?_
  refine wp3 rfl (am_getf rfl rfl) ?_
  refine wp3 rfl (am_getf rfl rfl) ?_
  refine wp0 rfl rfl ?_
  refine wp3 rfl (am_lald rfl (by decide)) ?_
  refine wp0 rfl rfl ?_
  refine wp0 rfl rfl ?_
  refine wpTl (fun z1 ez1 => ?_)
  refine wp1 rfl rfl ?_
  refine wpV (lv' := [(0, .ref 18), (1, .long l1), (3, .long z1)]) rfl ?_
  refine wp1 rfl rfl ?_
  refine wp3 rfl (am_getf rfl rfl) ?_
  refine wp3 rfl (am_getf rfl rfl) ?_
  refine wp2b rfl rfl (fun c2 => ?_) (fun c2 => ?_)
  · refine wp1 rfl rfl ?_
    refine wp3 rfl (am_getf rfl rfl) ?_
    refine wp1 rfl rfl ?_
    refine wp0 rfl rfl ?_
    refine wp1 rfl rfl ?_
    refine wp3 rfl (am_getf rfl rfl) ?_
    refine wp3 rfl (am_getf rfl rfl) ?_
    refine wp4 rfl rfl (sf_39 hJ (z1) (8) ((g_next s))) (fun rv h1 hq => ?_)
    obtain ⟨s4, D5, hJ6, rfl, x7, rfl, hb_x7⟩ := hq
    refine wp2b rfl rfl (fun c8 => ?_) (fun c8 => ?_)
    · exact wpL rfl rfl (sb_74_62 hJ6 )
    · refine wp1 rfl rfl ?_
      refine wp3 rfl (am_getf rfl rfl) ?_
      refine wp3 rfl (am_getf rfl rfl) ?_
      refine wp0 rfl rfl ?_
      refine wp1 rfl rfl ?_
      refine wp3 rfl (am_last rfl (by decide)) ?_
      have hJ9 : J (s_regs s4 (vp_updL (g_regs s4) (Int32.toNatClampNeg 4) z1)) mc D5 := hJ6
      refine wpH (h' := HH (s_regs s4 (vp_updL (g_regs s4) (Int32.toNatClampNeg 4) z1)) mc D5) rfl ?_
      refine wp1 rfl rfl ?_
      refine wp3 rfl (am_getf rfl rfl) ?_
      refine wp1 rfl rfl ?_
      refine wp3 rfl (am_putf rfl (Nat.le_of_ble_eq_true rfl) rfl rfl) ?_
      have hJ10 : J (s_next (s_regs s4 (vp_updL (g_regs s4) (Int32.toNatClampNeg 4) z1)) l1) mc D5 := hJ9
      refine wpH (h' := HH (s_next (s_regs s4 (vp_updL (g_regs s4) (Int32.toNatClampNeg 4) z1)) l1) mc D5) rfl ?_
      exact wpL rfl rfl (sb_74_62 hJ10 )
  · exact wpL rfl rfl (sb_74_62 hJ )
theorem sf_74 {s : cs} {mc : am_H} {D : List pgT} (hJ : J s mc D) (l1 : Int64)  : tb_wp L xs 74 0 (lv_args 0 [.ref 18, .long l1]) [] (HH s mc D) (SV mc) := sb_74_0 hJ l1
/- 78: FlagMachine$Moves.leaveFrame()V -/
set_option maxRecDepth 20000 in
theorem sb_78_55 {s : cs} {mc : am_H} {D : List pgT} (hJ : J s mc D)   : tb_wp L xs 78 55 [] [] (HH s mc D) (SV mc) := by
  exact wp5 rfl rfl ⟨_, _, hJ, rfl, rfl⟩
set_option maxRecDepth 20000 in
theorem sb_78_0 {s : cs} {mc : am_H} {D : List pgT} (hJ : J s mc D)   : tb_wp L xs 78 0 [(0, .ref 18)] [] (HH s mc D) (SV mc) := by
  refine wp1 rfl rfl ?_
  refine wp3 rfl (am_getf rfl rfl) ?_
  refine wp3 rfl (am_getf rfl rfl) ?_
  refine wp0 rfl rfl ?_
  refine wp3 rfl (am_lald rfl (by decide)) ?_
  refine wpTl (fun z1 ez1 => ?_)
  refine wp1 rfl rfl ?_
  refine wpV (lv' := [(0, .ref 18), (1, .long z1)]) rfl ?_
  refine wp1 rfl rfl ?_
  refine wp3 rfl (am_getf rfl rfl) ?_
  refine wp1 rfl rfl ?_
  refine wp0 rfl rfl ?_
  refine wp4 rfl rfl (sf_33 hJ (z1) (8)) (fun rv h1 hq => ?_)
  obtain ⟨s3, D4, hJ5, rfl, x6, rfl⟩ := hq
  refine wp1 rfl rfl ?_
  refine wpV (lv' := [(0, .ref 18), (1, .long z1), (3, .long x6)]) rfl ?_
  refine wp1 rfl rfl ?_
  refine wp3 rfl (am_getf rfl rfl) ?_
  refine wp3 rfl (am_getf rfl rfl) ?_
  refine wp2b rfl rfl (fun c7 => ?_) (fun c7 => ?_)
  · refine wp1 rfl rfl ?_
    refine wp3 rfl (am_getf rfl rfl) ?_
    refine wp3 rfl (am_getf rfl rfl) ?_
    refine wp0 rfl rfl ?_
    refine wp1 rfl rfl ?_
    refine wp0 rfl rfl ?_
    refine wp0 rfl rfl ?_
    refine wp3 rfl (am_last rfl (by decide)) ?_
    have hJ8 : J (s_regs s3 (vp_updL (g_regs s3) (Int32.toNatClampNeg 4) (z1 + 8))) mc D4 := hJ5
    refine wpH (h' := HH (s_regs s3 (vp_updL (g_regs s3) (Int32.toNatClampNeg 4) (z1 + 8))) mc D4) rfl ?_
    refine wp1 rfl rfl ?_
    refine wp3 rfl (am_getf rfl rfl) ?_
    refine wp3 rfl (am_getf rfl rfl) ?_
    refine wp0 rfl rfl ?_
    refine wp1 rfl rfl ?_
    refine wp3 rfl (am_last rfl (by decide)) ?_
    have hJ9 : J (s_regs (s_regs s3 (vp_updL (g_regs s3) (Int32.toNatClampNeg 4) (z1 + 8))) (vp_updL (g_regs (s_regs s3 (vp_updL (g_regs s3) (Int32.toNatClampNeg 4) (z1 + 8)))) (Int32.toNatClampNeg 5) x6)) mc D4 := hJ8
    refine wpH (h' := HH (s_regs (s_regs s3 (vp_updL (g_regs s3) (Int32.toNatClampNeg 4) (z1 + 8))) (vp_updL (g_regs (s_regs s3 (vp_updL (g_regs s3) (Int32.toNatClampNeg 4) (z1 + 8)))) (Int32.toNatClampNeg 5) x6)) mc D4) rfl ?_
    exact wpL rfl rfl (sb_78_55 hJ9 )
  · exact wpL rfl rfl (sb_78_55 hJ5 )
theorem sf_78 {s : cs} {mc : am_H} {D : List pgT} (hJ : J s mc D)   : tb_wp L xs 78 0 (lv_args 0 [.ref 18]) [] (HH s mc D) (SV mc) := sb_78_0 hJ 
/- 79: FlagMachine$Moves.move(J)V -/
set_option maxRecDepth 20000 in
theorem sb_79_27 {s : cs} {mc : am_H} {D : List pgT} (hJ : J s mc D)   : tb_wp L xs 79 27 [] [] (HH s mc D) (SV mc) := by
  exact wp5 rfl rfl ⟨_, _, hJ, rfl, rfl⟩
set_option maxRecDepth 20000 in
theorem sb_79_0 {s : cs} {mc : am_H} {D : List pgT} (hJ : J s mc D) (l1 : Int64)  : tb_wp L xs 79 0 [(0, .ref 18), (1, .long l1)] [] (HH s mc D) (SV mc) := by
  refine wp1 rfl rfl ?_
  refine wp3 rfl (am_getf rfl rfl) ?_
  refine wp3 rfl (am_getf rfl rfl) ?_
  refine wp2b rfl rfl (fun c1 => ?_) (fun c1 => ?_)
  · refine wp1 rfl rfl ?_
    refine wp3 rfl (am_getf rfl rfl) ?_
    refine wp0 rfl rfl ?_
    refine wp1 rfl rfl ?_
    refine wp3 rfl (am_getf rfl rfl) ?_
    refine wp3 rfl (am_getf rfl rfl) ?_
    refine wp1 rfl rfl ?_
    refine wp4 rfl rfl (sf_42 hJ (0) ((g_size s)) (l1) (by decide)) (fun rv h1 hq => ?_)
    obtain ⟨s3, D4, hJ5, rfl, x6, rfl, hb_x6⟩ := hq
    refine wp0 rfl rfl ?_
    exact wpL rfl rfl (sb_79_27 hJ5 )
  · exact wpL rfl rfl (sb_79_27 hJ )
theorem sf_79 {s : cs} {mc : am_H} {D : List pgT} (hJ : J s mc D) (l1 : Int64)  : tb_wp L xs 79 0 (lv_args 0 [.ref 18, .long l1]) [] (HH s mc D) (SV mc) := sb_79_0 hJ l1
/- 80: FlagMachine$Moves.moveString(ZZ)V -/
set_option maxRecDepth 20000 in
theorem sb_80_164 {s : cs} {mc : am_H} {D : List pgT} (hJ : J s mc D)   : tb_wp L xs 80 164 [] [] (HH s mc D) (SV mc) := by
  exact wp5 rfl rfl ⟨_, _, hJ, rfl, rfl⟩
set_option maxRecDepth 20000 in
theorem sb_80_161 {s : cs} {mc : am_H} {D : List pgT} (hJ : J s mc D) (k1 : Int64)  : tb_wp L xs 80 161 [] [.long k1, .ref 7] (HH s mc D) (SV mc) := by
  refine wp3 rfl (am_putf rfl (Nat.le_of_ble_eq_true rfl) rfl rfl) ?_
  have hJ1 : J (s_next s k1) mc D := hJ
  refine wpH (h' := HH (s_next s k1) mc D) rfl ?_
  exact wpL rfl rfl (sb_80_164 hJ1 )
set_option maxRecDepth 20000 in
theorem sb_80_117 {s : cs} {mc : am_H} {D : List pgT} (hJ : J s mc D) (l2 : Int32) (k2 : Int64) (k3 : Int64) (hb_l2 : b01 l2) : tb_wp L xs 80 117 [(0, .ref 18), (2, .int l2), (4, .ref 8)] [.long k3, .long k2, .int 6, .ref 8] (HH s mc D) (SV mc) := by
  refine wp0 rfl rfl ?_
  refine wp3 rfl (am_last rfl (by decide)) ?_
  have hJ2 : J (s_regs s (vp_updL (g_regs s) (Int32.toNatClampNeg 6) (k2 + k3))) mc D := hJ
  refine wpH (h' := HH (s_regs s (vp_updL (g_regs s) (Int32.toNatClampNeg 6) (k2 + k3))) mc D) rfl ?_
  refine wp1 rfl rfl ?_
  refine wp2b rfl rfl (fun c3 => ?_) (fun c3 => ?_)
  · exact wpL rfl rfl (sb_80_164 hJ2 )
  · refine wp1 rfl rfl ?_
    refine wp0 rfl rfl ?_
    refine wp0 rfl rfl ?_
    refine wp3 rfl (am_lald rfl (by decide)) ?_
    refine wp0 rfl rfl ?_
    refine wp0 rfl rfl ?_
    refine wp3 rfl (am_last rfl (by decide)) ?_
    have hJ4 : J (s_regs (s_regs s (vp_updL (g_regs s) (Int32.toNatClampNeg 6) (k2 + k3))) (vp_updL (g_regs (s_regs s (vp_updL (g_regs s) (Int32.toNatClampNeg 6) (k2 + k3)))) (Int32.toNatClampNeg 1) ((g_regs (s_regs s (vp_updL (g_regs s) (Int32.toNatClampNeg 6) (k2 + k3))) (Int32.toNatClampNeg 1)) - 1))) mc D := hJ2
    refine wpH (h' := HH (s_regs (s_regs s (vp_updL (g_regs s) (Int32.toNatClampNeg 6) (k2 + k3))) (vp_updL (g_regs (s_regs s (vp_updL (g_regs s) (Int32.toNatClampNeg 6) (k2 + k3)))) (Int32.toNatClampNeg 1) ((g_regs (s_regs s (vp_updL (g_regs s) (Int32.toNatClampNeg 6) (k2 + k3))) (Int32.toNatClampNeg 1)) - 1))) mc D) rfl ?_
    refine wp1 rfl rfl ?_
    refine wp3 rfl (am_getf rfl rfl) ?_
    refine wp1 rfl rfl ?_
    refine wp0 rfl rfl ?_
    refine wp3 rfl (am_lald rfl (by decide)) ?_
    refine wp0 rfl rfl ?_
    refine wp0 rfl rfl ?_
    refine wp2b rfl rfl (fun c5 => ?_) (fun c5 => ?_)
    · refine wp1 rfl rfl ?_
      refine wp3 rfl (am_getf rfl rfl) ?_
      refine wp3 rfl (am_getf rfl rfl) ?_
      exact wpL rfl rfl (sb_80_161 hJ4 ((g_next (s_regs (s_regs s (vp_updL (g_regs s) (Int32.toNatClampNeg 6) (k2 + k3))) (vp_updL (g_regs (s_regs s (vp_updL (g_regs s) (Int32.toNatClampNeg 6) (k2 + k3)))) (Int32.toNatClampNeg 1) ((g_regs (s_regs s (vp_updL (g_regs s) (Int32.toNatClampNeg 6) (k2 + k3))) (Int32.toNatClampNeg 1)) - 1))))))
    · refine wp1 rfl rfl ?_
      refine wp3 rfl (am_getf rfl rfl) ?_
      refine wp3 rfl (am_getf rfl rfl) ?_
      refine wp2 rfl rfl ?_
      exact wpL rfl rfl (sb_80_161 hJ4 ((g_ip (s_regs (s_regs s (vp_updL (g_regs s) (Int32.toNatClampNeg 6) (k2 + k3))) (vp_updL (g_regs (s_regs s (vp_updL (g_regs s) (Int32.toNatClampNeg 6) (k2 + k3)))) (Int32.toNatClampNeg 1) ((g_regs (s_regs s (vp_updL (g_regs s) (Int32.toNatClampNeg 6) (k2 + k3))) (Int32.toNatClampNeg 1)) - 1))))))
set_option maxRecDepth 20000 in
theorem sb_80_90 {s : cs} {mc : am_H} {D : List pgT} (hJ : J s mc D)   : tb_wp L xs 80 90 [] [] (HH s mc D) (SV mc) := by
  exact wp5 rfl rfl ⟨_, _, hJ, rfl, rfl⟩
set_option maxRecDepth 20000 in
theorem sb_80_60 {s : cs} {mc : am_H} {D : List pgT} (hJ : J s mc D) (l1 : Int32) (l2 : Int32) (l3 : Int32) (k0 : Int64) (hb_l1 : b01 l1) (hb_l2 : b01 l2) : tb_wp L xs 80 60 [(0, .ref 18), (1, .int l1), (2, .int l2), (3, .int l3), (4, .ref 8)] [.long k0] (HH s mc D) (SV mc) := by
  refine wp1 rfl rfl ?_
  refine wpV (lv' := [(0, .ref 18), (1, .int l1), (2, .int l2), (3, .int l3), (4, .ref 8), (5, .long k0)]) rfl ?_
  refine wp1 rfl rfl ?_
  refine wp3 rfl (am_getf rfl rfl) ?_
  refine wp3 rfl (am_getf rfl rfl) ?_
  refine wp2b rfl rfl (fun c6 => ?_) (fun c6 => ?_)
  · refine wp1 rfl rfl ?_
    refine wp3 rfl (am_getf rfl rfl) ?_
    refine wp1 rfl rfl ?_
    refine wp0 rfl rfl ?_
    refine wp3 rfl (am_lald rfl (by decide)) ?_
    refine wp1 rfl rfl ?_
    refine wp1 rfl rfl ?_
    refine wp4 rfl rfl (sf_39 hJ ((g_regs s (Int32.toNatClampNeg 7))) (l3) (k0)) (fun rv h1 hq => ?_)
    obtain ⟨s8, D9, hJ10, rfl, x11, rfl, hb_x11⟩ := hq
    refine wp2b rfl rfl (fun c12 => ?_) (fun c12 => ?_)
    · exact wpL rfl rfl (sb_80_90 hJ10 )
    · refine wp1 rfl rfl ?_
      refine wp0 rfl rfl ?_
      refine wp0 rfl rfl ?_
      refine wp3 rfl (am_lald rfl (by decide)) ?_
      refine wp1 rfl rfl ?_
      refine wp0 rfl rfl ?_
      refine wp0 rfl rfl ?_
      refine wp3 rfl (am_last rfl (by decide)) ?_
      have hJ13 : J (s_regs s8 (vp_updL (g_regs s8) (Int32.toNatClampNeg 7) ((g_regs s8 (Int32.toNatClampNeg 7)) + (Int32.toInt64 l3)))) mc D9 := hJ10
      refine wpH (h' := HH (s_regs s8 (vp_updL (g_regs s8) (Int32.toNatClampNeg 7) ((g_regs s8 (Int32.toNatClampNeg 7)) + (Int32.toInt64 l3)))) mc D9) rfl ?_
      refine wp1 rfl rfl ?_
      refine wp0 rfl rfl ?_
      refine wp0 rfl rfl ?_
      refine wp3 rfl (am_lald rfl (by decide)) ?_
      refine wp1 rfl rfl ?_
      refine wp2b rfl rfl (fun c14 => ?_) (fun c14 => ?_)
      · refine wp0 rfl rfl ?_
        exact wpL rfl rfl (sb_80_117 hJ13 (l2) ((g_regs (s_regs s8 (vp_updL (g_regs s8) (Int32.toNatClampNeg 7) ((g_regs s8 (Int32.toNatClampNeg 7)) + (Int32.toInt64 l3)))) (Int32.toNatClampNeg 6))) (0) hb_l2)
      · refine wp1 rfl rfl ?_
        refine wp0 rfl rfl ?_
        refine wp2 rfl rfl ?_
        exact wpL rfl rfl (sb_80_117 hJ13 (l2) ((g_regs (s_regs s8 (vp_updL (g_regs s8) (Int32.toNatClampNeg 7) ((g_regs s8 (Int32.toNatClampNeg 7)) + (Int32.toInt64 l3)))) (Int32.toNatClampNeg 6))) ((Int32.toInt64 l3)) hb_l2)
  · exact wpL rfl rfl (sb_80_90 hJ )
set_option maxRecDepth 20000 in
theorem sb_80_31 {s : cs} {mc : am_H} {D : List pgT} (hJ : J s mc D) (l1 : Int32) (l2 : Int32) (l3 : Int32) (hb_l1 : b01 l1) (hb_l2 : b01 l2) : tb_wp L xs 80 31 [(0, .ref 18), (1, .int l1), (2, .int l2), (3, .int l3), (4, .ref 8)] [] (HH s mc D) (SV mc) := by
  refine wp1 rfl rfl ?_
  refine wp2b rfl rfl (fun c15 => ?_) (fun c15 => ?_)
  · refine wp1 rfl rfl ?_
    refine wp3 rfl (am_getf rfl rfl) ?_
    refine wp0 rfl rfl ?_
    refine wp1 rfl rfl ?_
    refine wp4 rfl rfl (sf_35 hJ (0) (l3) (by decide)) (fun rv h1 hq => ?_)
    obtain ⟨s17, D18, hJ19, rfl, x20, rfl⟩ := hq
    exact wpL rfl rfl (sb_80_60 hJ19 (l1) (l2) (l3) (x20) hb_l1 hb_l2)
  · refine wp1 rfl rfl ?_
    refine wp3 rfl (am_getf rfl rfl) ?_
    refine wp1 rfl rfl ?_
    refine wp0 rfl rfl ?_
    refine wp3 rfl (am_lald rfl (by decide)) ?_
    refine wp1 rfl rfl ?_
    refine wp4 rfl rfl (sf_33 hJ ((g_regs s (Int32.toNatClampNeg 6))) (l3)) (fun rv h1 hq => ?_)
    obtain ⟨s22, D23, hJ24, rfl, x25, rfl⟩ := hq
    refine wp2 rfl rfl ?_
    exact wpL rfl rfl (sb_80_60 hJ24 (l1) (l2) (l3) (x25) hb_l1 hb_l2)
set_option maxRecDepth 20000 in
theorem sb_80_0 {s : cs} {mc : am_H} {D : List pgT} (hJ : J s mc D) (l1 : Int32) (l2 : Int32) (hb_l1 : b01 l1) (hb_l2 : b01 l2) : tb_wp L xs 80 0 [(0, .ref 18), (1, .int l1), (2, .int l2)] [] (HH s mc D) (SV mc) := by
  refine wp1 rfl rfl ?_
  refine wp3 rfl (am_getf rfl rfl) ?_
  refine wp3 rfl (am_getf rfl rfl) ?_
  refine wpTi (fun z26 ez26 => ?_)
  refine wp1 rfl rfl ?_
  refine wpV (lv' := [(0, .ref 18), (1, .int l1), (2, .int l2), (3, .int z26)]) rfl ?_
  refine wp1 rfl rfl ?_
  refine wp3 rfl (am_getf rfl rfl) ?_
  refine wp3 rfl (am_getf rfl rfl) ?_
  refine wp1 rfl rfl ?_
  refine wpV (lv' := [(0, .ref 18), (1, .int l1), (2, .int l2), (3, .int z26), (4, .ref 8)]) rfl ?_
  refine wp1 rfl rfl ?_
  refine wp2b rfl rfl (fun c27 => ?_) (fun c27 => ?_)
  · exact wpL rfl rfl (sb_80_31 hJ (l1) (l2) (z26) hb_l1 hb_l2)
  · refine wp1 rfl rfl ?_
    refine wp0 rfl rfl ?_
    refine wp3 rfl (am_lald rfl (by decide)) ?_
    refine wp0 rfl rfl ?_
    refine wp0 rfl rfl ?_
    refine wp2b rfl rfl (fun c28 => ?_) (fun c28 => ?_)
    · exact wp5 rfl rfl ⟨_, _, hJ, rfl, rfl⟩
    · exact wpL rfl rfl (sb_80_31 hJ (l1) (l2) (z26) hb_l1 hb_l2)
theorem sf_80 {s : cs} {mc : am_H} {D : List pgT} (hJ : J s mc D) (l1 : Int32) (l2 : Int32) (hb_l1 : b01 l1) (hb_l2 : b01 l2) : tb_wp L xs 80 0 (lv_args 0 [.ref 18, .int l1, .int l2]) [] (HH s mc D) (SV mc) := sb_80_0 hJ l1 l2 hb_l1 hb_l2
/- 82: FlagMachine$Moves.popOperand()V -/
set_option maxRecDepth 20000 in
theorem sb_82_95 {s : cs} {mc : am_H} {D : List pgT} (hJ : J s mc D)   : tb_wp L xs 82 95 [] [] (HH s mc D) (SV mc) := by
  exact wp5 rfl rfl ⟨_, _, hJ, rfl, rfl⟩
set_option maxRecDepth 20000 in
theorem sb_82_71 {s : cs} {mc : am_H} {D : List pgT} (hJ : J s mc D) (l1 : Int64) (l3 : Int64)  : tb_wp L xs 82 71 [(0, .ref 18), (1, .long l1), (3, .long l3)] [] (HH s mc D) (SV mc) := by
  refine wp1 rfl rfl ?_
  refine wp3 rfl (am_getf rfl rfl) ?_
  refine wp0 rfl rfl ?_
  refine wp0 rfl rfl ?_
  refine wp1 rfl rfl ?_
  refine wp4 rfl rfl (sf_42 hJ (0) (8) (l3) (by decide)) (fun rv h1 hq => ?_)
  obtain ⟨s2, D3, hJ4, rfl, x5, rfl, hb_x5⟩ := hq
  refine wp2b rfl rfl (fun c6 => ?_) (fun c6 => ?_)
  · refine wp1 rfl rfl ?_
    refine wp3 rfl (am_getf rfl rfl) ?_
    refine wp3 rfl (am_getf rfl rfl) ?_
    refine wp0 rfl rfl ?_
    refine wp1 rfl rfl ?_
    refine wp3 rfl (am_last rfl (by decide)) ?_
    have hJ7 : J (s_regs s2 (vp_updL (g_regs s2) (Int32.toNatClampNeg 4) l1)) mc D3 := hJ4
    refine wpH (h' := HH (s_regs s2 (vp_updL (g_regs s2) (Int32.toNatClampNeg 4) l1)) mc D3) rfl ?_
    exact wpL rfl rfl (sb_82_95 hJ7 )
  · exact wpL rfl rfl (sb_82_95 hJ4 )
set_option maxRecDepth 20000 in
theorem sb_82_0 {s : cs} {mc : am_H} {D : List pgT} (hJ : J s mc D)   : tb_wp L xs 82 0 [(0, .ref 18)] [] (HH s mc D) (SV mc) := by
  refine wp1 rfl rfl ?_
  refine wp3 rfl (am_getf rfl rfl) ?_
  refine wp3 rfl (am_getf rfl rfl) ?_
  refine wp0 rfl rfl ?_
  refine wp3 rfl (am_lald rfl (by decide)) ?_
  refine wpTl (fun z8 ez8 => ?_)
  refine wp1 rfl rfl ?_
  refine wpV (lv' := [(0, .ref 18), (1, .long z8)]) rfl ?_
  refine wp1 rfl rfl ?_
  refine wp3 rfl (am_getf rfl rfl) ?_
  refine wp1 rfl rfl ?_
  refine wp0 rfl rfl ?_
  refine wp4 rfl rfl (sf_33 hJ (z8) (8)) (fun rv h1 hq => ?_)
  obtain ⟨s10, D11, hJ12, rfl, x13, rfl⟩ := hq
  refine wp1 rfl rfl ?_
  refine wpV (lv' := [(0, .ref 18), (1, .long z8), (3, .long x13)]) rfl ?_
  refine wp1 rfl rfl ?_
  refine wp3 rfl (am_getf rfl rfl) ?_
  refine wp3 rfl (am_getf rfl rfl) ?_
  refine wp2b rfl rfl (fun c14 => ?_) (fun c14 => ?_)
  · refine wp1 rfl rfl ?_
    refine wp3 rfl (am_getf rfl rfl) ?_
    refine wp3 rfl (am_getf rfl rfl) ?_
    refine wp0 rfl rfl ?_
    refine wp1 rfl rfl ?_
    refine wp0 rfl rfl ?_
    refine wp0 rfl rfl ?_
    refine wp3 rfl (am_last rfl (by decide)) ?_
    have hJ15 : J (s_regs s10 (vp_updL (g_regs s10) (Int32.toNatClampNeg 4) (z8 + 8))) mc D11 := hJ12
    refine wpH (h' := HH (s_regs s10 (vp_updL (g_regs s10) (Int32.toNatClampNeg 4) (z8 + 8))) mc D11) rfl ?_
    refine wp1 rfl rfl ?_
    refine wp3 rfl (am_getf rfl rfl) ?_
    refine wp0 rfl rfl ?_
    refine wp4 rfl rfl (sf_55 hJ15 (2)) (fun rv h1 hq => ?_)
    obtain ⟨s17, D18, hJ19, rfl, x20, rfl, hb_x20⟩ := hq
    refine wp2b rfl rfl (fun c21 => ?_) (fun c21 => ?_)
    · exact wpL rfl rfl (sb_82_71 hJ19 (z8) (x13))
    · refine wp1 rfl rfl ?_
      refine wp3 rfl (am_getf rfl rfl) ?_
      refine wp1 rfl rfl ?_
      refine wp3 rfl (am_getf rfl rfl) ?_
      refine wp4 rfl rfl (sf_34 hJ19 ) (fun rv h1 hq => ?_)
      obtain ⟨s23, D24, hJ25, rfl, x26, rfl⟩ := hq
      refine wp3 rfl (am_putf rfl (Nat.le_of_ble_eq_true rfl) rfl rfl) ?_
      have hJ27 : J (s_address s23 x26) mc D24 := hJ25
      refine wpH (h' := HH (s_address s23 x26) mc D24) rfl ?_
      exact wpL rfl rfl (sb_82_71 hJ27 (z8) (x13))
  · exact wp5 rfl rfl ⟨_, _, hJ12, rfl, rfl⟩
theorem sf_82 {s : cs} {mc : am_H} {D : List pgT} (hJ : J s mc D)   : tb_wp L xs 82 0 (lv_args 0 [.ref 18]) [] (HH s mc D) (SV mc) := sb_82_0 hJ 
/- 103: FlagMachine$Services.serve()V -/
set_option maxRecDepth 20000 in
theorem sb_103_149 {s : cs} {mc : am_H} {D : List pgT} (hJ : J s mc D)   : tb_wp L xs 103 149 [] [] (HH s mc D) (SV mc) := by
  exact wp5 rfl rfl ⟨_, _, hJ, rfl, rfl⟩
set_option maxRecDepth 20000 in
theorem sb_103_0 {s : cs} {mc : am_H} {D : List pgT} (hJ : J s mc D)   : tb_wp L xs 103 0 [(0, .ref 19)] [] (HH s mc D) (SV mc) := by
  refine wp1 rfl rfl ?_
  refine wp3 rfl (am_getf rfl rfl) ?_
  refine wp3 rfl (am_getf rfl rfl) ?_
  refine wp1 rfl rfl ?_
  refine wpV (lv' := [(0, .ref 19), (1, .ref 8)]) rfl ?_
  refine wp1 rfl rfl ?_
  refine wp0 rfl rfl ?_
  refine wp3 rfl (am_lald rfl (by decide)) ?_
  refine wpTl (fun z1 ez1 => ?_)
  refine wp1 rfl rfl ?_
  refine wpV (lv' := [(0, .ref 19), (1, .ref 8), (2, .long z1)]) rfl ?_
  refine wp1 rfl rfl ?_
  refine wp0 rfl rfl ?_
  refine wp1 rfl rfl ?_
  refine wp3 rfl (am_getf rfl rfl) ?_
  refine wp3 rfl (am_getf rfl rfl) ?_
  refine wp3 rfl (am_last rfl (by decide)) ?_
  have hJ2 : J (s_regs s (vp_updL (g_regs s) (Int32.toNatClampNeg 1) (g_next s))) mc D := hJ
  refine wpH (h' := HH (s_regs s (vp_updL (g_regs s) (Int32.toNatClampNeg 1) (g_next s))) mc D) rfl ?_
  refine wp1 rfl rfl ?_
  refine wp0 rfl rfl ?_
  refine wp1 rfl rfl ?_
  refine wp3 rfl (am_getf rfl rfl) ?_
  refine wp3 rfl (am_getf rfl rfl) ?_
  refine wp4 rfl rfl (sf_44 hJ2 ) (fun rv h1 hq => ?_)
  obtain ⟨s4, D5, hJ6, rfl, x7, rfl⟩ := hq
  refine wp3 rfl (am_last rfl (by decide)) ?_
  have hJ8 : J (s_regs s4 (vp_updL (g_regs s4) (Int32.toNatClampNeg 11) x7)) mc D5 := hJ6
  refine wpH (h' := HH (s_regs s4 (vp_updL (g_regs s4) (Int32.toNatClampNeg 11) x7)) mc D5) rfl ?_
  refine wp1 rfl rfl ?_
  refine wp0 rfl rfl ?_
  refine wp0 rfl rfl ?_
  refine wp2b rfl rfl (fun c9 => ?_) (fun c9 => ?_)
  · refine wp1 rfl rfl ?_
    refine wp0 rfl rfl ?_
    refine wp1 rfl rfl ?_
    refine wp1 rfl rfl ?_
    refine wp0 rfl rfl ?_
    refine wp3 rfl (am_lald rfl (by decide)) ?_
    refine wp1 rfl rfl ?_
    refine wp0 rfl rfl ?_
    refine wp3 rfl (am_lald rfl (by decide)) ?_
    refine wp4 rfl rfl (sf_105 hJ8 ((g_regs (s_regs s4 (vp_updL (g_regs s4) (Int32.toNatClampNeg 11) x7)) (Int32.toNatClampNeg 6))) ((g_regs (s_regs s4 (vp_updL (g_regs s4) (Int32.toNatClampNeg 11) x7)) (Int32.toNatClampNeg 2)))) (fun rv h1 hq => ?_)
    obtain ⟨s11, D12, hJ13, rfl, x14, rfl⟩ := hq
    refine wp3 rfl (am_last rfl (by decide)) ?_
    have hJ15 : J (s_regs s11 (vp_updL (g_regs s11) (Int32.toNatClampNeg 0) x14)) mc D12 := hJ13
    refine wpH (h' := HH (s_regs s11 (vp_updL (g_regs s11) (Int32.toNatClampNeg 0) x14)) mc D12) rfl ?_
    refine wp2 rfl rfl ?_
    exact wpL rfl rfl (sb_103_149 hJ15 )
  · refine wp1 rfl rfl ?_
    refine wp0 rfl rfl ?_
    refine wp0 rfl rfl ?_
    refine wp2b rfl rfl (fun c16 => ?_) (fun c16 => ?_)
    · refine wp1 rfl rfl ?_
      refine wp0 rfl rfl ?_
      refine wp1 rfl rfl ?_
      refine wp1 rfl rfl ?_
      refine wp0 rfl rfl ?_
      refine wp3 rfl (am_lald rfl (by decide)) ?_
      refine wp1 rfl rfl ?_
      refine wp0 rfl rfl ?_
      refine wp3 rfl (am_lald rfl (by decide)) ?_
      refine wp4 rfl rfl (sf_101 hJ8 ((g_regs (s_regs s4 (vp_updL (g_regs s4) (Int32.toNatClampNeg 11) x7)) (Int32.toNatClampNeg 6))) ((g_regs (s_regs s4 (vp_updL (g_regs s4) (Int32.toNatClampNeg 11) x7)) (Int32.toNatClampNeg 2)))) (fun rv h1 hq => ?_)
      obtain ⟨s18, D19, hJ20, rfl, x21, rfl⟩ := hq
      refine wp3 rfl (am_last rfl (by decide)) ?_
      have hJ22 : J (s_regs s18 (vp_updL (g_regs s18) (Int32.toNatClampNeg 0) x21)) mc D19 := hJ20
      refine wpH (h' := HH (s_regs s18 (vp_updL (g_regs s18) (Int32.toNatClampNeg 0) x21)) mc D19) rfl ?_
      refine wp2 rfl rfl ?_
      exact wpL rfl rfl (sb_103_149 hJ22 )
    · refine wp1 rfl rfl ?_
      refine wp0 rfl rfl ?_
      refine wp0 rfl rfl ?_
      refine wp2b rfl rfl (fun c23 => ?_) (fun c23 => ?_)
      · refine wp1 rfl rfl ?_
        refine wp3 rfl (am_getf rfl rfl) ?_
        refine wp3 rfl (am_getf rfl rfl) ?_
        refine wp1 rfl rfl ?_
        refine wp0 rfl rfl ?_
        refine wp3 rfl (am_lald rfl (by decide)) ?_
        refine wp4 rfl rfl (sf_70 hJ8 ((g_regs (s_regs s4 (vp_updL (g_regs s4) (Int32.toNatClampNeg 11) x7)) (Int32.toNatClampNeg 7)))) (fun rv h1 hq => ?_)
        obtain ⟨s25, D26, hJ27, rfl, rfl⟩ := hq
        refine wp1 rfl rfl ?_
        refine wp0 rfl rfl ?_
        refine wp1 rfl rfl ?_
        refine wp3 rfl (am_getf rfl rfl) ?_
        refine wp3 rfl (am_getf rfl rfl) ?_
        refine wp4 rfl rfl (sf_66 hJ27 ) (fun rv h1 hq => ?_)
        obtain ⟨s30, D31, hJ32, rfl, x33, rfl⟩ := hq
        refine wp3 rfl (am_last rfl (by decide)) ?_
        have hJ34 : J (s_regs s30 (vp_updL (g_regs s30) (Int32.toNatClampNeg 0) x33)) mc D31 := hJ32
        refine wpH (h' := HH (s_regs s30 (vp_updL (g_regs s30) (Int32.toNatClampNeg 0) x33)) mc D31) rfl ?_
        refine wp2 rfl rfl ?_
        exact wpL rfl rfl (sb_103_149 hJ34 )
      · refine wp1 rfl rfl ?_
        refine wp0 rfl rfl ?_
        refine wp0 rfl rfl ?_
        refine wp2b rfl rfl (fun c35 => ?_) (fun c35 => ?_)
        · refine wp1 rfl rfl ?_
          refine wp3 rfl (am_getf rfl rfl) ?_
          refine wp0 rfl rfl ?_
          refine wp1 rfl rfl ?_
          refine wp0 rfl rfl ?_
          refine wp3 rfl (am_lald rfl (by decide)) ?_
          refine wp4 rfl rfl (sf_41 hJ8 (1) ((g_regs (s_regs s4 (vp_updL (g_regs s4) (Int32.toNatClampNeg 11) x7)) (Int32.toNatClampNeg 7)))) (fun rv h1 hq => ?_)
          obtain ⟨s37, D38, hJ39, rfl, rfl⟩ := hq
          refine wp2 rfl rfl ?_
          exact wpL rfl rfl (sb_103_149 hJ39 )
        · refine wp1 rfl rfl ?_
          refine wp0 rfl rfl ?_
          refine wp0 rfl rfl ?_
          refine wp3 rfl (am_last rfl (by decide)) ?_
          have hJ41 : J (s_regs (s_regs s4 (vp_updL (g_regs s4) (Int32.toNatClampNeg 11) x7)) (vp_updL (g_regs (s_regs s4 (vp_updL (g_regs s4) (Int32.toNatClampNeg 11) x7))) (Int32.toNatClampNeg 0) (-38))) mc D5 := hJ8
          refine wpH (h' := HH (s_regs (s_regs s4 (vp_updL (g_regs s4) (Int32.toNatClampNeg 11) x7)) (vp_updL (g_regs (s_regs s4 (vp_updL (g_regs s4) (Int32.toNatClampNeg 11) x7))) (Int32.toNatClampNeg 0) (-38))) mc D5) rfl ?_
          exact wpL rfl rfl (sb_103_149 hJ41 )
theorem sf_103 {s : cs} {mc : am_H} {D : List pgT} (hJ : J s mc D)   : tb_wp L xs 103 0 (lv_args 0 [.ref 19]) [] (HH s mc D) (SV mc) := sb_103_0 hJ 
/- 124: FlagMachine$Sums.tellFlags(IJJJ)V -/
set_option maxRecDepth 20000 in
theorem sb_124_222 {s : cs} {mc : am_H} {D : List pgT} (hJ : J s mc D)   : tb_wp L xs 124 222 [] [] (HH s mc D) (SV mc) := by
  exact wp5 rfl rfl ⟨_, _, hJ, rfl, rfl⟩
set_option maxRecDepth 20000 in
theorem sb_124_0 {s : cs} {mc : am_H} {D : List pgT} (hJ : J s mc D) (l1 : Int32) (l2 : Int64) (l4 : Int64) (l6 : Int64)  : tb_wp L xs 124 0 [(0, .ref 15), (1, .int l1), (2, .long l2), (4, .long l4), (6, .long l6)] [] (HH s mc D) (SV mc) := by
  refine wp1 rfl rfl ?_
  refine wp3 rfl (am_getf rfl rfl) ?_
  refine wp3 rfl (am_getf rfl rfl) ?_
  refine wpTi (fun z1 ez1 => ?_)
  refine wp1 rfl rfl ?_
  refine wpV (lv' := [(0, .ref 15), (1, .int l1), (2, .long l2), (4, .long l4), (6, .long l6), (8, .int z1)]) rfl ?_
  refine wp1 rfl rfl ?_
  refine wp3 rfl (am_getf rfl rfl) ?_
  refine wp3 rfl (am_getf rfl rfl) ?_
  refine wpTi (fun z2 ez2 => ?_)
  refine wp1 rfl rfl ?_
  refine wpV (lv' := [(0, .ref 15), (1, .int l1), (2, .long l2), (4, .long l4), (6, .long l6), (8, .int z1), (9, .int z2)]) rfl ?_
  refine wp1 rfl rfl ?_
  refine wp2s [108, 125, 142, 145, 161, 186, 211] rfl rfl rfl rfl (am_fa1 ?_ (am_fa1 ?_ (am_fa1 ?_ (am_fa1 ?_ (am_fa1 ?_ (am_fa1 ?_ (am_fa1 ?_ (am_fa0))))))))
  · refine wp1 rfl rfl ?_
    refine wp3 rfl (am_getf rfl rfl) ?_
    refine wp1 rfl rfl ?_
    refine wp1 rfl rfl ?_
    refine wp1 rfl rfl ?_
    refine wp1 rfl rfl ?_
    refine wp4 rfl rfl (sf_52 hJ (l2) (l4) (l6) (z1)) (fun rv h1 hq => ?_)
    obtain ⟨s4, D5, hJ6, rfl, rfl⟩ := hq
    refine wp2 rfl rfl ?_
    exact wpL rfl rfl (sb_124_222 hJ6 )
  · refine wp1 rfl rfl ?_
    refine wp3 rfl (am_getf rfl rfl) ?_
    refine wp1 rfl rfl ?_
    refine wp1 rfl rfl ?_
    refine wp1 rfl rfl ?_
    refine wp1 rfl rfl ?_
    refine wp4 rfl rfl (sf_49 hJ (l2) (l4) (l6) (z1)) (fun rv h1 hq => ?_)
    obtain ⟨s9, D10, hJ11, rfl, rfl⟩ := hq
    refine wp2 rfl rfl ?_
    exact wpL rfl rfl (sb_124_222 hJ11 )
  · refine wp2 rfl rfl ?_
    exact wpL rfl rfl (sb_124_222 hJ )
  · refine wp1 rfl rfl ?_
    refine wp3 rfl (am_getf rfl rfl) ?_
    refine wp0 rfl rfl ?_
    refine wp1 rfl rfl ?_
    refine wp1 rfl rfl ?_
    refine wp1 rfl rfl ?_
    refine wp4 rfl rfl (sf_49 hJ (0) (l2) (l6) (z1)) (fun rv h1 hq => ?_)
    obtain ⟨s14, D15, hJ16, rfl, rfl⟩ := hq
    refine wp2 rfl rfl ?_
    exact wpL rfl rfl (sb_124_222 hJ16 )
  · refine wp1 rfl rfl ?_
    refine wp3 rfl (am_getf rfl rfl) ?_
    refine wp1 rfl rfl ?_
    refine wp0 rfl rfl ?_
    refine wp1 rfl rfl ?_
    refine wp1 rfl rfl ?_
    refine wp4 rfl rfl (sf_52 hJ (l2) (1) (l6) (z1)) (fun rv h1 hq => ?_)
    obtain ⟨s19, D20, hJ21, rfl, rfl⟩ := hq
    refine wp1 rfl rfl ?_
    refine wp3 rfl (am_getf rfl rfl) ?_
    refine wp1 rfl rfl ?_
    refine wp3 rfl (am_putf rfl (Nat.le_of_ble_eq_true rfl) (b01_nar (ez2 ▸ hJ.2.1)) (b01_fit (ez2 ▸ hJ.2.1))) ?_
    have hJ23 := J_carry hJ21 (ez2 ▸ hJ.2.1)
    refine wpH (h' := HH (s_carry s19 z2) mc D20) rfl ?_
    refine wp2 rfl rfl ?_
    exact wpL rfl rfl (sb_124_222 hJ23 )
  · refine wp1 rfl rfl ?_
    refine wp3 rfl (am_getf rfl rfl) ?_
    refine wp1 rfl rfl ?_
    refine wp0 rfl rfl ?_
    refine wp1 rfl rfl ?_
    refine wp1 rfl rfl ?_
    refine wp4 rfl rfl (sf_49 hJ (l2) (1) (l6) (z1)) (fun rv h1 hq => ?_)
    obtain ⟨s25, D26, hJ27, rfl, rfl⟩ := hq
    refine wp1 rfl rfl ?_
    refine wp3 rfl (am_getf rfl rfl) ?_
    refine wp1 rfl rfl ?_
    refine wp3 rfl (am_putf rfl (Nat.le_of_ble_eq_true rfl) (b01_nar (ez2 ▸ hJ.2.1)) (b01_fit (ez2 ▸ hJ.2.1))) ?_
    have hJ29 := J_carry hJ27 (ez2 ▸ hJ.2.1)
    refine wpH (h' := HH (s_carry s25 z2) mc D26) rfl ?_
    refine wp2 rfl rfl ?_
    exact wpL rfl rfl (sb_124_222 hJ29 )
  · refine wp1 rfl rfl ?_
    refine wp3 rfl (am_getf rfl rfl) ?_
    refine wp1 rfl rfl ?_
    refine wp1 rfl rfl ?_
    refine wp4 rfl rfl (sf_48 hJ (l6) (z1)) (fun rv h1 hq => ?_)
    obtain ⟨s31, D32, hJ33, rfl, rfl⟩ := hq
    exact wpL rfl rfl (sb_124_222 hJ33 )
theorem sf_124 {s : cs} {mc : am_H} {D : List pgT} (hJ : J s mc D) (l1 : Int32) (l2 : Int64) (l4 : Int64) (l6 : Int64)  : tb_wp L xs 124 0 (lv_args 0 [.ref 15, .int l1, .long l2, .long l4, .long l6]) [] (HH s mc D) (SV mc) := sb_124_0 hJ l1 l2 l4 l6
/- 32: FlagMachine$Core.fetch(II)J -/
set_option maxRecDepth 20000 in
theorem sb_32_0 {s : cs} {mc : am_H} {D : List pgT} (hJ : J s mc D) (l1 : Int32) (l2 : Int32) (hi_l1 : am_in l1 3 = true) : tb_wp L xs 32 0 [(0, .ref 7), (1, .int l1), (2, .int l2)] [] (HH s mc D) (SJ mc) := by
  refine wp1 rfl rfl ?_
  refine wp3 rfl (am_getf rfl rfl) ?_
  refine wp3 rfl (am_getf rfl rfl) ?_
  refine wp1 rfl rfl ?_
  refine wp3 rfl (am_iald rfl hi_l1) ?_
  refine wp2s [36, 51, 61, 74] rfl rfl rfl rfl (am_fa1 ?_ (am_fa1 ?_ (am_fa1 ?_ (am_fa1 ?_ (am_fa0)))))
  · refine wp1 rfl rfl ?_
    refine wp1 rfl rfl ?_
    refine wp3 rfl (am_getf rfl rfl) ?_
    refine wp3 rfl (am_getf rfl rfl) ?_
    refine wp1 rfl rfl ?_
    refine wp3 rfl (am_iald rfl hi_l1) ?_
    refine wp1 rfl rfl ?_
    refine wp4 rfl rfl (sf_35 hJ ((g_hregs s (Int32.toNatClampNeg l1))) (l2) (J_hreg hJ hi_l1)) (fun rv h1 hq => ?_)
    obtain ⟨s2, D3, hJ4, rfl, x5, rfl⟩ := hq
    exact wp5 rfl rfl ⟨_, _, hJ4, rfl, _, rfl⟩
  · refine wp1 rfl rfl ?_
    refine wp1 rfl rfl ?_
    refine wp3 rfl (am_getf rfl rfl) ?_
    refine wp1 rfl rfl ?_
    refine wp4 rfl rfl (sf_33 hJ ((g_address s)) (l2)) (fun rv h1 hq => ?_)
    obtain ⟨s7, D8, hJ9, rfl, x10, rfl⟩ := hq
    exact wp5 rfl rfl ⟨_, _, hJ9, rfl, _, rfl⟩
  · refine wp1 rfl rfl ?_
    refine wp3 rfl (am_getf rfl rfl) ?_
    refine wp3 rfl (am_getf rfl rfl) ?_
    refine wp1 rfl rfl ?_
    refine wp4 rfl rfl (sf_7 hJ (l2)) (fun rv h1 hq => ?_)
    obtain ⟨s12, D13, hJ14, rfl, x15, rfl⟩ := hq
    refine wp0 rfl rfl ?_
    exact wp5 rfl rfl ⟨_, _, hJ14, rfl, _, rfl⟩
  · refine wp0 rfl rfl ?_
    exact wp5 rfl rfl ⟨_, _, hJ, rfl, _, rfl⟩
theorem sf_32 {s : cs} {mc : am_H} {D : List pgT} (hJ : J s mc D) (l1 : Int32) (l2 : Int32) (hi_l1 : am_in l1 3 = true) : tb_wp L xs 32 0 (lv_args 0 [.ref 7, .int l1, .int l2]) [] (HH s mc D) (SJ mc) := sb_32_0 hJ l1 l2 hi_l1
/- 75: FlagMachine$Moves.comeBack()V -/
set_option maxRecDepth 20000 in
theorem sb_75_63 {s : cs} {mc : am_H} {D : List pgT} (hJ : J s mc D)   : tb_wp L xs 75 63 [] [] (HH s mc D) (SV mc) := by
  exact wp5 rfl rfl ⟨_, _, hJ, rfl, rfl⟩
set_option maxRecDepth 20000 in
theorem sb_75_0 {s : cs} {mc : am_H} {D : List pgT} (hJ : J s mc D)   : tb_wp L xs 75 0 [(0, .ref 18)] [] (HH s mc D) (SV mc) := by
  refine wp1 rfl rfl ?_
  refine wp3 rfl (am_getf rfl rfl) ?_
  refine wp1 rfl rfl ?_
  refine wp3 rfl (am_getf rfl rfl) ?_
  refine wp3 rfl (am_getf rfl rfl) ?_
  refine wp0 rfl rfl ?_
  refine wp3 rfl (am_lald rfl (by decide)) ?_
  refine wp0 rfl rfl ?_
  refine wp4 rfl rfl (sf_33 hJ ((g_regs s (Int32.toNatClampNeg 4))) (8)) (fun rv h1 hq => ?_)
  obtain ⟨s2, D3, hJ4, rfl, x5, rfl⟩ := hq
  refine wp1 rfl rfl ?_
  refine wpV (lv' := [(0, .ref 18), (1, .long x5)]) rfl ?_
  refine wp1 rfl rfl ?_
  refine wp3 rfl (am_getf rfl rfl) ?_
  refine wp3 rfl (am_getf rfl rfl) ?_
  refine wp2b rfl rfl (fun c6 => ?_) (fun c6 => ?_)
  · refine wp1 rfl rfl ?_
    refine wp3 rfl (am_getf rfl rfl) ?_
    refine wp3 rfl (am_getf rfl rfl) ?_
    refine wp0 rfl rfl ?_
    refine wp0 rfl rfl ?_
    refine wp3 rfl (am_lald rfl (by decide)) ?_
    refine wp0 rfl rfl ?_
    refine wp1 rfl rfl ?_
    refine wp3 rfl (am_getf rfl rfl) ?_
    refine wp0 rfl rfl ?_
    refine wp0 rfl rfl ?_
    refine wp4 rfl rfl (sf_32 hJ4 (0) (8) (by decide)) (fun rv h1 hq => ?_)
    obtain ⟨s8, D9, hJ10, rfl, x11, rfl⟩ := hq
    refine wp0 rfl rfl ?_
    refine wp0 rfl rfl ?_
    refine wp3 rfl (am_last rfl (by decide)) ?_
    have hJ12 : J (s_regs s8 (vp_updL (g_regs s8) (Int32.toNatClampNeg 4) ((g_regs s2 (Int32.toNatClampNeg 4)) + (8 + x11)))) mc D9 := hJ10
    refine wpH (h' := HH (s_regs s8 (vp_updL (g_regs s8) (Int32.toNatClampNeg 4) ((g_regs s2 (Int32.toNatClampNeg 4)) + (8 + x11)))) mc D9) rfl ?_
    refine wp1 rfl rfl ?_
    refine wp3 rfl (am_getf rfl rfl) ?_
    refine wp1 rfl rfl ?_
    refine wp3 rfl (am_putf rfl (Nat.le_of_ble_eq_true rfl) rfl rfl) ?_
    have hJ13 : J (s_next (s_regs s8 (vp_updL (g_regs s8) (Int32.toNatClampNeg 4) ((g_regs s2 (Int32.toNatClampNeg 4)) + (8 + x11)))) x5) mc D9 := hJ12
    refine wpH (h' := HH (s_next (s_regs s8 (vp_updL (g_regs s8) (Int32.toNatClampNeg 4) ((g_regs s2 (Int32.toNatClampNeg 4)) + (8 + x11)))) x5) mc D9) rfl ?_
    exact wpL rfl rfl (sb_75_63 hJ13 )
  · exact wpL rfl rfl (sb_75_63 hJ4 )
theorem sf_75 {s : cs} {mc : am_H} {D : List pgT} (hJ : J s mc D)   : tb_wp L xs 75 0 (lv_args 0 [.ref 18]) [] (HH s mc D) (SV mc) := sb_75_0 hJ 
/- 76: FlagMachine$Moves.exchange()V -/
set_option maxRecDepth 20000 in
theorem sb_76_78 {s : cs} {mc : am_H} {D : List pgT} (hJ : J s mc D)   : tb_wp L xs 76 78 [] [] (HH s mc D) (SV mc) := by
  exact wp5 rfl rfl ⟨_, _, hJ, rfl, rfl⟩
set_option maxRecDepth 20000 in
theorem sb_76_0 {s : cs} {mc : am_H} {D : List pgT} (hJ : J s mc D)   : tb_wp L xs 76 0 [(0, .ref 18)] [] (HH s mc D) (SV mc) := by
  refine wp1 rfl rfl ?_
  refine wp3 rfl (am_getf rfl rfl) ?_
  refine wp0 rfl rfl ?_
  refine wp1 rfl rfl ?_
  refine wp3 rfl (am_getf rfl rfl) ?_
  refine wp3 rfl (am_getf rfl rfl) ?_
  refine wp4 rfl rfl (sf_32 hJ (0) ((g_size s)) (by decide)) (fun rv h1 hq => ?_)
  obtain ⟨s2, D3, hJ4, rfl, x5, rfl⟩ := hq
  refine wp1 rfl rfl ?_
  refine wpV (lv' := [(0, .ref 18), (1, .long x5)]) rfl ?_
  refine wp1 rfl rfl ?_
  refine wp3 rfl (am_getf rfl rfl) ?_
  refine wp0 rfl rfl ?_
  refine wp1 rfl rfl ?_
  refine wp3 rfl (am_getf rfl rfl) ?_
  refine wp3 rfl (am_getf rfl rfl) ?_
  refine wp4 rfl rfl (sf_32 hJ4 (1) ((g_size s2)) (by decide)) (fun rv h1 hq => ?_)
  obtain ⟨s7, D8, hJ9, rfl, x10, rfl⟩ := hq
  refine wp1 rfl rfl ?_
  refine wpV (lv' := [(0, .ref 18), (1, .long x5), (3, .long x10)]) rfl ?_
  refine wp1 rfl rfl ?_
  refine wp3 rfl (am_getf rfl rfl) ?_
  refine wp3 rfl (am_getf rfl rfl) ?_
  refine wp2b rfl rfl (fun c11 => ?_) (fun c11 => ?_)
  · refine wp1 rfl rfl ?_
    refine wp3 rfl (am_getf rfl rfl) ?_
    refine wp0 rfl rfl ?_
    refine wp1 rfl rfl ?_
    refine wp3 rfl (am_getf rfl rfl) ?_
    refine wp3 rfl (am_getf rfl rfl) ?_
    refine wp1 rfl rfl ?_
    refine wp4 rfl rfl (sf_42 hJ9 (0) ((g_size s7)) (x10) (by decide)) (fun rv h1 hq => ?_)
    obtain ⟨s13, D14, hJ15, rfl, x16, rfl, hb_x16⟩ := hq
    refine wp2b rfl rfl (fun c17 => ?_) (fun c17 => ?_)
    · exact wpL rfl rfl (sb_76_78 hJ15 )
    · refine wp1 rfl rfl ?_
      refine wp3 rfl (am_getf rfl rfl) ?_
      refine wp0 rfl rfl ?_
      refine wp1 rfl rfl ?_
      refine wp3 rfl (am_getf rfl rfl) ?_
      refine wp3 rfl (am_getf rfl rfl) ?_
      refine wp1 rfl rfl ?_
      refine wp4 rfl rfl (sf_42 hJ15 (1) ((g_size s13)) (x5) (by decide)) (fun rv h1 hq => ?_)
      obtain ⟨s19, D20, hJ21, rfl, x22, rfl, hb_x22⟩ := hq
      refine wp0 rfl rfl ?_
      exact wpL rfl rfl (sb_76_78 hJ21 )
  · exact wpL rfl rfl (sb_76_78 hJ9 )
theorem sf_76 {s : cs} {mc : am_H} {D : List pgT} (hJ : J s mc D)   : tb_wp L xs 76 0 (lv_args 0 [.ref 18]) [] (HH s mc D) (SV mc) := sb_76_0 hJ 
/- 83: FlagMachine$Moves.pushOperand()V -/
set_option maxRecDepth 20000 in
theorem sb_83_59 {s : cs} {mc : am_H} {D : List pgT} (hJ : J s mc D)   : tb_wp L xs 83 59 [] [] (HH s mc D) (SV mc) := by
  exact wp5 rfl rfl ⟨_, _, hJ, rfl, rfl⟩
set_option maxRecDepth 20000 in
theorem sb_83_0 {s : cs} {mc : am_H} {D : List pgT} (hJ : J s mc D)   : tb_wp L xs 83 0 [(0, .ref 18)] [] (HH s mc D) (SV mc) := by
  refine wp1 rfl rfl ?_
  refine wp3 rfl (am_getf rfl rfl) ?_
  refine wp0 rfl rfl ?_
  refine wp0 rfl rfl ?_
  refine wp4 rfl rfl (sf_32 hJ (0) (8) (by decide)) (fun rv h1 hq => ?_)
  obtain ⟨s2, D3, hJ4, rfl, x5, rfl⟩ := hq
  refine wp1 rfl rfl ?_
  refine wpV (lv' := [(0, .ref 18), (1, .long x5)]) rfl ?_
  refine wp1 rfl rfl ?_
  refine wp3 rfl (am_getf rfl rfl) ?_
  refine wp3 rfl (am_getf rfl rfl) ?_
  refine wp0 rfl rfl ?_
  refine wp3 rfl (am_lald rfl (by decide)) ?_
  refine wp0 rfl rfl ?_
  refine wp0 rfl rfl ?_
  refine wpTl (fun z6 ez6 => ?_)
  refine wp1 rfl rfl ?_
  refine wpV (lv' := [(0, .ref 18), (1, .long x5), (3, .long z6)]) rfl ?_
  refine wp1 rfl rfl ?_
  refine wp3 rfl (am_getf rfl rfl) ?_
  refine wp3 rfl (am_getf rfl rfl) ?_
  refine wp2b rfl rfl (fun c7 => ?_) (fun c7 => ?_)
  · refine wp1 rfl rfl ?_
    refine wp3 rfl (am_getf rfl rfl) ?_
    refine wp1 rfl rfl ?_
    refine wp0 rfl rfl ?_
    refine wp1 rfl rfl ?_
    refine wp4 rfl rfl (sf_39 hJ4 (z6) (8) (x5)) (fun rv h1 hq => ?_)
    obtain ⟨s9, D10, hJ11, rfl, x12, rfl, hb_x12⟩ := hq
    refine wp2b rfl rfl (fun c13 => ?_) (fun c13 => ?_)
    · exact wpL rfl rfl (sb_83_59 hJ11 )
    · refine wp1 rfl rfl ?_
      refine wp3 rfl (am_getf rfl rfl) ?_
      refine wp3 rfl (am_getf rfl rfl) ?_
      refine wp0 rfl rfl ?_
      refine wp1 rfl rfl ?_
      refine wp3 rfl (am_last rfl (by decide)) ?_
      have hJ14 : J (s_regs s9 (vp_updL (g_regs s9) (Int32.toNatClampNeg 4) z6)) mc D10 := hJ11
      refine wpH (h' := HH (s_regs s9 (vp_updL (g_regs s9) (Int32.toNatClampNeg 4) z6)) mc D10) rfl ?_
      exact wpL rfl rfl (sb_83_59 hJ14 )
  · exact wpL rfl rfl (sb_83_59 hJ4 )
theorem sf_83 {s : cs} {mc : am_H} {D : List pgT} (hJ : J s mc D)   : tb_wp L xs 83 0 (lv_args 0 [.ref 18]) [] (HH s mc D) (SV mc) := sb_83_0 hJ 
/- 84: FlagMachine$Moves.target()J -/
set_option maxRecDepth 20000 in
theorem sb_84_37 {s : cs} {mc : am_H} {D : List pgT} (hJ : J s mc D) (k0 : Int64)  : tb_wp L xs 84 37 [] [.long k0] (HH s mc D) (SJ mc) := by
  exact wp5 rfl rfl ⟨_, _, hJ, rfl, _, rfl⟩
set_option maxRecDepth 20000 in
theorem sb_84_0 {s : cs} {mc : am_H} {D : List pgT} (hJ : J s mc D)   : tb_wp L xs 84 0 [(0, .ref 18)] [] (HH s mc D) (SJ mc) := by
  refine wp1 rfl rfl ?_
  refine wp3 rfl (am_getf rfl rfl) ?_
  refine wp0 rfl rfl ?_
  refine wp0 rfl rfl ?_
  refine wp4 rfl rfl (sf_32 hJ (0) (8) (by decide)) (fun rv h1 hq => ?_)
  obtain ⟨s2, D3, hJ4, rfl, x5, rfl⟩ := hq
  refine wp1 rfl rfl ?_
  refine wpV (lv' := [(0, .ref 18), (1, .long x5)]) rfl ?_
  refine wp1 rfl rfl ?_
  refine wp3 rfl (am_getf rfl rfl) ?_
  refine wp3 rfl (am_getf rfl rfl) ?_
  refine wp0 rfl rfl ?_
  refine wp3 rfl (am_iald rfl (by decide)) ?_
  refine wp0 rfl rfl ?_
  refine wp2b rfl rfl (fun c6 => ?_) (fun c6 => ?_)
  · refine wp1 rfl rfl ?_
    refine wp3 rfl (am_getf rfl rfl) ?_
    refine wp3 rfl (am_getf rfl rfl) ?_
    refine wp1 rfl rfl ?_
    refine wp0 rfl rfl ?_
    refine wp2 rfl rfl ?_
    exact wpL rfl rfl (sb_84_37 hJ4 (((g_next s2) + x5)))
  · refine wp1 rfl rfl ?_
    exact wpL rfl rfl (sb_84_37 hJ4 (x5))
theorem sf_84 {s : cs} {mc : am_H} {D : List pgT} (hJ : J s mc D)   : tb_wp L xs 84 0 (lv_args 0 [.ref 18]) [] (HH s mc D) (SJ mc) := sb_84_0 hJ 
/- 85: FlagMachine$Moves.valueIfCondition()J -/
set_option maxRecDepth 20000 in
theorem sb_85_55 {s : cs} {mc : am_H} {D : List pgT} (hJ : J s mc D) (k0 : Int64)  : tb_wp L xs 85 55 [] [.long k0] (HH s mc D) (SJ mc) := by
  exact wp5 rfl rfl ⟨_, _, hJ, rfl, _, rfl⟩
set_option maxRecDepth 20000 in
theorem sb_85_0 {s : cs} {mc : am_H} {D : List pgT} (hJ : J s mc D)   : tb_wp L xs 85 0 [(0, .ref 18)] [] (HH s mc D) (SJ mc) := by
  refine wp1 rfl rfl ?_
  refine wp3 rfl (am_getf rfl rfl) ?_
  refine wp0 rfl rfl ?_
  refine wp1 rfl rfl ?_
  refine wp3 rfl (am_getf rfl rfl) ?_
  refine wp3 rfl (am_getf rfl rfl) ?_
  refine wp4 rfl rfl (sf_32 hJ (1) ((g_size s)) (by decide)) (fun rv h1 hq => ?_)
  obtain ⟨s2, D3, hJ4, rfl, x5, rfl⟩ := hq
  refine wp1 rfl rfl ?_
  refine wpV (lv' := [(0, .ref 18), (1, .long x5)]) rfl ?_
  refine wp1 rfl rfl ?_
  refine wp3 rfl (am_getf rfl rfl) ?_
  refine wp3 rfl (am_getf rfl rfl) ?_
  refine wp1 rfl rfl ?_
  refine wp3 rfl (am_getf rfl rfl) ?_
  refine wp3 rfl (am_getf rfl rfl) ?_
  refine wp4 rfl rfl (sf_46 hJ4 ((g_condition s2))) (fun rv h1 hq => ?_)
  obtain ⟨s7, D8, hJ9, rfl, x10, rfl, hb_x10⟩ := hq
  refine wp2b rfl rfl (fun c11 => ?_) (fun c11 => ?_)
  · refine wp1 rfl rfl ?_
    refine wp3 rfl (am_getf rfl rfl) ?_
    refine wp0 rfl rfl ?_
    refine wp1 rfl rfl ?_
    refine wp3 rfl (am_getf rfl rfl) ?_
    refine wp3 rfl (am_getf rfl rfl) ?_
    refine wp4 rfl rfl (sf_32 hJ9 (0) ((g_size s7)) (by decide)) (fun rv h1 hq => ?_)
    obtain ⟨s13, D14, hJ15, rfl, x16, rfl⟩ := hq
    exact wpL rfl rfl (sb_85_55 hJ15 (x16))
  · refine wp1 rfl rfl ?_
    refine wp2 rfl rfl ?_
    exact wpL rfl rfl (sb_85_55 hJ9 (x5))
theorem sf_85 {s : cs} {mc : am_H} {D : List pgT} (hJ : J s mc D)   : tb_wp L xs 85 0 (lv_args 0 [.ref 18]) [] (HH s mc D) (SJ mc) := sb_85_0 hJ 
/- 86: FlagMachine$Moves.valueOfMove(I)J -/
set_option maxRecDepth 20000 in
theorem sb_86_0 {s : cs} {mc : am_H} {D : List pgT} (hJ : J s mc D) (l1 : Int32)  : tb_wp L xs 86 0 [(0, .ref 18), (1, .int l1)] [] (HH s mc D) (SJ mc) := by
  refine wp1 rfl rfl ?_
  refine wp2s [32, 40, 50, 64, 78] rfl rfl rfl rfl (am_fa1 ?_ (am_fa1 ?_ (am_fa1 ?_ (am_fa1 ?_ (am_fa1 ?_ (am_fa0))))))
  · refine wp1 rfl rfl ?_
    refine wp3 rfl (am_getf rfl rfl) ?_
    refine wp3 rfl (am_getf rfl rfl) ?_
    exact wp5 rfl rfl ⟨_, _, hJ, rfl, _, rfl⟩
  · refine wp1 rfl rfl ?_
    refine wp3 rfl (am_getf rfl rfl) ?_
    refine wp0 rfl rfl ?_
    refine wp0 rfl rfl ?_
    refine wp4 rfl rfl (sf_32 hJ (1) (1) (by decide)) (fun rv h1 hq => ?_)
    obtain ⟨s2, D3, hJ4, rfl, x5, rfl⟩ := hq
    exact wp5 rfl rfl ⟨_, _, hJ4, rfl, _, rfl⟩
  · refine wp1 rfl rfl ?_
    refine wp3 rfl (am_getf rfl rfl) ?_
    refine wp0 rfl rfl ?_
    refine wp0 rfl rfl ?_
    refine wp4 rfl rfl (sf_32 hJ (1) (1) (by decide)) (fun rv h1 hq => ?_)
    obtain ⟨s7, D8, hJ9, rfl, x10, rfl⟩ := hq
    refine wp0 rfl rfl ?_
    refine wp4 rfl rfl (sf_17 hJ9 (x10) (1)) (fun rv h1 hq => ?_)
    obtain ⟨s12, D13, hJ14, rfl, x15, rfl⟩ := hq
    exact wp5 rfl rfl ⟨_, _, hJ14, rfl, _, rfl⟩
  · refine wp1 rfl rfl ?_
    refine wp3 rfl (am_getf rfl rfl) ?_
    refine wp0 rfl rfl ?_
    refine wp0 rfl rfl ?_
    refine wp4 rfl rfl (sf_32 hJ (1) (4) (by decide)) (fun rv h1 hq => ?_)
    obtain ⟨s17, D18, hJ19, rfl, x20, rfl⟩ := hq
    refine wp0 rfl rfl ?_
    refine wp4 rfl rfl (sf_17 hJ19 (x20) (4)) (fun rv h1 hq => ?_)
    obtain ⟨s22, D23, hJ24, rfl, x25, rfl⟩ := hq
    exact wp5 rfl rfl ⟨_, _, hJ24, rfl, _, rfl⟩
  · refine wp1 rfl rfl ?_
    refine wp3 rfl (am_getf rfl rfl) ?_
    refine wp0 rfl rfl ?_
    refine wp1 rfl rfl ?_
    refine wp3 rfl (am_getf rfl rfl) ?_
    refine wp3 rfl (am_getf rfl rfl) ?_
    refine wp4 rfl rfl (sf_32 hJ (1) ((g_size s)) (by decide)) (fun rv h1 hq => ?_)
    obtain ⟨s27, D28, hJ29, rfl, x30, rfl⟩ := hq
    exact wp5 rfl rfl ⟨_, _, hJ29, rfl, _, rfl⟩
theorem sf_86 {s : cs} {mc : am_H} {D : List pgT} (hJ : J s mc D) (l1 : Int32)  : tb_wp L xs 86 0 (lv_args 0 [.ref 18, .int l1]) [] (HH s mc D) (SJ mc) := sb_86_0 hJ l1
/- 89: FlagMachine$Products.divide(Z)V -/
set_option maxRecDepth 20000 in
theorem sb_89_98 {s : cs} {mc : am_H} {D : List pgT} (hJ : J s mc D) (k0 : Int32) (hb_k0 : b01 k0) : tb_wp L xs 89 98 [(0, .ref 16)] [.int k0] (HH s mc D) (SV mc) := by
  refine wp1 rfl rfl ?_
  refine wpV (lv' := [(0, .ref 16), (5, .int k0)]) rfl ?_
  refine wp1 rfl rfl ?_
  refine wp2b rfl rfl (fun c1 => ?_) (fun c1 => ?_)
  · refine wp1 rfl rfl ?_
    refine wp3 rfl (am_getf rfl rfl) ?_
    refine wp0 rfl rfl ?_
    refine wp0 rfl rfl ?_
    refine wp4 rfl rfl (sf_41 hJ (5) (0)) (fun rv h1 hq => ?_)
    obtain ⟨s3, D4, hJ5, rfl, rfl⟩ := hq
    exact wp5 rfl rfl ⟨_, _, hJ5, rfl, rfl⟩
  · refine wp1 rfl rfl ?_
    refine wp1 rfl rfl ?_
    refine wp3 rfl (am_getf rfl rfl) ?_
    refine wp1 rfl rfl ?_
    refine wp3 rfl (am_getf rfl rfl) ?_
    refine wp4 rfl rfl (sf_97 hJ ((g_quot s)) ((g_rest s))) (fun rv h1 hq => ?_)
    obtain ⟨s8, D9, hJ10, rfl, rfl⟩ := hq
    exact wp5 rfl rfl ⟨_, _, hJ10, rfl, rfl⟩
set_option maxRecDepth 20000 in
theorem sb_89_76 {s : cs} {mc : am_H} {D : List pgT} (hJ : J s mc D) (l1 : Int32) (l2 : Int32) (l3 : Int64) (k1 : Int64) (hb_l1 : b01 l1) : tb_wp L xs 89 76 [(0, .ref 16), (1, .int l1), (2, .int l2), (3, .long l3)] [.long k1, .ref 16] (HH s mc D) (SV mc) := by
  refine wp3 rfl (am_putf rfl (Nat.le_of_ble_eq_true rfl) rfl rfl) ?_
  have hJ12 : J (s_upper s k1) mc D := hJ
  refine wpH (h' := HH (s_upper s k1) mc D) rfl ?_
  refine wp1 rfl rfl ?_
  refine wp2b rfl rfl (fun c13 => ?_) (fun c13 => ?_)
  · refine wp1 rfl rfl ?_
    refine wp1 rfl rfl ?_
    refine wp1 rfl rfl ?_
    refine wp4 rfl rfl (sf_91 hJ12 (l3) (l2)) (fun rv h1 hq => ?_)
    obtain ⟨s15, D16, hJ17, rfl, x18, rfl, hb_x18⟩ := hq
    exact wpL rfl rfl (sb_89_98 hJ17 (x18) hb_x18)
  · refine wp1 rfl rfl ?_
    refine wp1 rfl rfl ?_
    refine wp1 rfl rfl ?_
    refine wp4 rfl rfl (sf_90 hJ12 (l3) (l2)) (fun rv h1 hq => ?_)
    obtain ⟨s20, D21, hJ22, rfl, x23, rfl, hb_x23⟩ := hq
    refine wp2 rfl rfl ?_
    exact wpL rfl rfl (sb_89_98 hJ22 (x23) hb_x23)
set_option maxRecDepth 20000 in
theorem sb_89_0 {s : cs} {mc : am_H} {D : List pgT} (hJ : J s mc D) (l1 : Int32) (hb_l1 : b01 l1) : tb_wp L xs 89 0 [(0, .ref 16), (1, .int l1)] [] (HH s mc D) (SV mc) := by
  refine wp1 rfl rfl ?_
  refine wp3 rfl (am_getf rfl rfl) ?_
  refine wp3 rfl (am_getf rfl rfl) ?_
  refine wpTi (fun z24 ez24 => ?_)
  refine wp1 rfl rfl ?_
  refine wpV (lv' := [(0, .ref 16), (1, .int l1), (2, .int z24)]) rfl ?_
  refine wp1 rfl rfl ?_
  refine wp3 rfl (am_getf rfl rfl) ?_
  refine wp0 rfl rfl ?_
  refine wp1 rfl rfl ?_
  refine wp4 rfl rfl (sf_32 hJ (0) (z24) (by decide)) (fun rv h1 hq => ?_)
  obtain ⟨s26, D27, hJ28, rfl, x29, rfl⟩ := hq
  refine wp1 rfl rfl ?_
  refine wpV (lv' := [(0, .ref 16), (1, .int l1), (2, .int z24), (3, .long x29)]) rfl ?_
  refine wp1 rfl rfl ?_
  refine wp3 rfl (am_getf rfl rfl) ?_
  refine wp3 rfl (am_getf rfl rfl) ?_
  refine wp2b rfl rfl (fun c30 => ?_) (fun c30 => ?_)
  · refine wp1 rfl rfl ?_
    refine wp1 rfl rfl ?_
    refine wp3 rfl (am_getf rfl rfl) ?_
    refine wp0 rfl rfl ?_
    refine wp1 rfl rfl ?_
    refine wp4 rfl rfl (sf_35 hJ28 (0) (z24) (by decide)) (fun rv h1 hq => ?_)
    obtain ⟨s32, D33, hJ34, rfl, x35, rfl⟩ := hq
    refine wp3 rfl (am_putf rfl (Nat.le_of_ble_eq_true rfl) rfl rfl) ?_
    have hJ36 : J (s_lower s32 x35) mc D33 := hJ34
    refine wpH (h' := HH (s_lower s32 x35) mc D33) rfl ?_
    refine wp1 rfl rfl ?_
    refine wp1 rfl rfl ?_
    refine wp0 rfl rfl ?_
    refine wp2b rfl rfl (fun c37 => ?_) (fun c37 => ?_)
    · refine wp1 rfl rfl ?_
      refine wp3 rfl (am_getf rfl rfl) ?_
      refine wp3 rfl (am_getf rfl rfl) ?_
      refine wp0 rfl rfl ?_
      refine wp3 rfl (am_lald rfl (by decide)) ?_
      refine wp0 rfl rfl ?_
      refine wp0 rfl rfl ?_
      refine wp0 rfl rfl ?_
      refine wp0 rfl rfl ?_
      refine wp2 rfl rfl ?_
      exact wpL rfl rfl (sb_89_76 hJ36 (l1) (z24) (x29) ((((Int64.toUInt64 (g_regs (s_lower s32 x35) (Int32.toNatClampNeg 0)) >>> ((Int32.toInt64 8).toUInt64 &&& Int64.toUInt64 63)).toInt64) &&& 255)) hb_l1)
    · refine wp1 rfl rfl ?_
      refine wp3 rfl (am_getf rfl rfl) ?_
      refine wp0 rfl rfl ?_
      refine wp1 rfl rfl ?_
      refine wp4 rfl rfl (sf_35 hJ36 (2) (z24) (by decide)) (fun rv h1 hq => ?_)
      obtain ⟨s39, D40, hJ41, rfl, x42, rfl⟩ := hq
      exact wpL rfl rfl (sb_89_76 hJ41 (l1) (z24) (x29) (x42) hb_l1)
  · exact wp5 rfl rfl ⟨_, _, hJ28, rfl, rfl⟩
theorem sf_89 {s : cs} {mc : am_H} {D : List pgT} (hJ : J s mc D) (l1 : Int32) (hb_l1 : b01 l1) : tb_wp L xs 89 0 (lv_args 0 [.ref 16, .int l1]) [] (HH s mc D) (SV mc) := sb_89_0 hJ l1 hb_l1
/- 94: FlagMachine$Products.multiplyNarrow()V -/
set_option maxRecDepth 20000 in
theorem sb_94_118 {s : cs} {mc : am_H} {D : List pgT} (hJ : J s mc D) (k1 : Int32) (hb_k1 : b01 k1) : tb_wp L xs 94 118 [] [.int k1, .ref 9] (HH s mc D) (SV mc) := by
  refine wp4 rfl rfl (sf_50 hJ (k1) hb_k1) (fun rv h1 hq => ?_)
  obtain ⟨s2, D3, hJ4, rfl, rfl⟩ := hq
  exact wp5 rfl rfl ⟨_, _, hJ4, rfl, rfl⟩
set_option maxRecDepth 20000 in
theorem sb_94_50 {s : cs} {mc : am_H} {D : List pgT} (hJ : J s mc D) (l1 : Int32) (l3 : Int64) (k1 : Int32) (hi_k1 : am_in k1 3 = true) : tb_wp L xs 94 50 [(0, .ref 16), (1, .int l1), (3, .long l3)] [.int k1, .ref 7] (HH s mc D) (SV mc) := by
  refine wp1 rfl rfl ?_
  refine wp4 rfl rfl (sf_32 hJ (k1) (l1) hi_k1) (fun rv h1 hq => ?_)
  obtain ⟨s7, D8, hJ9, rfl, x10, rfl⟩ := hq
  refine wp1 rfl rfl ?_
  refine wpV (lv' := [(0, .ref 16), (1, .int l1), (3, .long l3), (5, .long x10)]) rfl ?_
  refine wp1 rfl rfl ?_
  refine wp3 rfl (am_getf rfl rfl) ?_
  refine wp3 rfl (am_getf rfl rfl) ?_
  refine wp2b rfl rfl (fun c11 => ?_) (fun c11 => ?_)
  · refine wp1 rfl rfl ?_
    refine wp1 rfl rfl ?_
    refine wp1 rfl rfl ?_
    refine wp1 rfl rfl ?_
    refine wp0 rfl rfl ?_
    refine wp4 rfl rfl (sf_93 hJ9 (x10) (l3) (l1) (1) b1) (fun rv h1 hq => ?_)
    obtain ⟨s13, D14, hJ15, rfl, rfl⟩ := hq
    refine wp1 rfl rfl ?_
    refine wp3 rfl (am_getf rfl rfl) ?_
    refine wp0 rfl rfl ?_
    refine wp1 rfl rfl ?_
    refine wp1 rfl rfl ?_
    refine wp3 rfl (am_getf rfl rfl) ?_
    refine wp4 rfl rfl (sf_42 hJ15 (0) (l1) ((g_lower s13)) (by decide)) (fun rv h1 hq => ?_)
    obtain ⟨s18, D19, hJ20, rfl, x21, rfl, hb_x21⟩ := hq
    refine wp0 rfl rfl ?_
    refine wp1 rfl rfl ?_
    refine wp3 rfl (am_getf rfl rfl) ?_
    refine wp3 rfl (am_getf rfl rfl) ?_
    refine wp1 rfl rfl ?_
    refine wp3 rfl (am_getf rfl rfl) ?_
    refine wp1 rfl rfl ?_
    refine wp3 rfl (am_getf rfl rfl) ?_
    refine wp1 rfl rfl ?_
    refine wp4 rfl rfl (sf_98 hJ20 ((g_lower s18)) (l1)) (fun rv h1 hq => ?_)
    obtain ⟨s23, D24, hJ25, rfl, x26, rfl⟩ := hq
    refine wp0 rfl rfl ?_
    refine wp2b rfl rfl (fun c27 => ?_) (fun c27 => ?_)
    · refine wp0 rfl rfl ?_
      exact wpL rfl rfl (sb_94_118 hJ25 (0) b0)
    · refine wp0 rfl rfl ?_
      refine wp2 rfl rfl ?_
      exact wpL rfl rfl (sb_94_118 hJ25 (1) b1)
  · exact wp5 rfl rfl ⟨_, _, hJ9, rfl, rfl⟩
set_option maxRecDepth 20000 in
theorem sb_94_26 {s : cs} {mc : am_H} {D : List pgT} (hJ : J s mc D) (l1 : Int32) (k0 : Int32) (hb_k0 : b01 k0) : tb_wp L xs 94 26 [(0, .ref 16), (1, .int l1)] [.int k0] (HH s mc D) (SV mc) := by
  refine wp1 rfl rfl ?_
  refine wpV (lv' := [(0, .ref 16), (1, .int l1), (2, .int k0)]) rfl ?_
  refine wp1 rfl rfl ?_
  refine wp3 rfl (am_getf rfl rfl) ?_
  refine wp0 rfl rfl ?_
  refine wp1 rfl rfl ?_
  refine wp4 rfl rfl (sf_32 hJ (1) (l1) (by decide)) (fun rv h1 hq => ?_)
  obtain ⟨s29, D30, hJ31, rfl, x32, rfl⟩ := hq
  refine wp1 rfl rfl ?_
  refine wpV (lv' := [(0, .ref 16), (1, .int l1), (2, .int k0), (3, .long x32)]) rfl ?_
  refine wp1 rfl rfl ?_
  refine wp3 rfl (am_getf rfl rfl) ?_
  refine wp1 rfl rfl ?_
  refine wp2b rfl rfl (fun c33 => ?_) (fun c33 => ?_)
  · refine wp0 rfl rfl ?_
    exact wpL rfl rfl (sb_94_50 hJ31 (l1) (x32) (0) (by decide))
  · refine wp0 rfl rfl ?_
    refine wp2 rfl rfl ?_
    exact wpL rfl rfl (sb_94_50 hJ31 (l1) (x32) (2) (by decide))
set_option maxRecDepth 20000 in
theorem sb_94_0 {s : cs} {mc : am_H} {D : List pgT} (hJ : J s mc D)   : tb_wp L xs 94 0 [(0, .ref 16)] [] (HH s mc D) (SV mc) := by
  refine wp1 rfl rfl ?_
  refine wp3 rfl (am_getf rfl rfl) ?_
  refine wp3 rfl (am_getf rfl rfl) ?_
  refine wpTi (fun z34 ez34 => ?_)
  refine wp1 rfl rfl ?_
  refine wpV (lv' := [(0, .ref 16), (1, .int z34)]) rfl ?_
  refine wp1 rfl rfl ?_
  refine wp3 rfl (am_getf rfl rfl) ?_
  refine wp3 rfl (am_getf rfl rfl) ?_
  refine wp0 rfl rfl ?_
  refine wp3 rfl (am_iald rfl (by decide)) ?_
  refine wp0 rfl rfl ?_
  refine wp2b rfl rfl (fun c35 => ?_) (fun c35 => ?_)
  · refine wp0 rfl rfl ?_
    refine wp2 rfl rfl ?_
    exact wpL rfl rfl (sb_94_26 hJ (z34) (1) b1)
  · refine wp0 rfl rfl ?_
    exact wpL rfl rfl (sb_94_26 hJ (z34) (0) b0)
theorem sf_94 {s : cs} {mc : am_H} {D : List pgT} (hJ : J s mc D)   : tb_wp L xs 94 0 (lv_args 0 [.ref 16]) [] (HH s mc D) (SV mc) := sb_94_0 hJ 
/- 95: FlagMachine$Products.multiplyWide(Z)V -/
set_option maxRecDepth 20000 in
theorem sb_95_93 {s : cs} {mc : am_H} {D : List pgT} (hJ : J s mc D) (k1 : Int32) (hb_k1 : b01 k1) : tb_wp L xs 95 93 [] [.int k1, .ref 9] (HH s mc D) (SV mc) := by
  refine wp4 rfl rfl (sf_50 hJ (k1) hb_k1) (fun rv h1 hq => ?_)
  obtain ⟨s2, D3, hJ4, rfl, rfl⟩ := hq
  exact wp5 rfl rfl ⟨_, _, hJ4, rfl, rfl⟩
set_option maxRecDepth 20000 in
theorem sb_95_84 {s : cs} {mc : am_H} {D : List pgT} (hJ : J s mc D) (k1 : Int64) (k2 : Int64)  : tb_wp L xs 95 84 [] [.long k2, .long k1, .ref 9] (HH s mc D) (SV mc) := by
  refine wp0 rfl rfl ?_
  refine wp2b rfl rfl (fun c6 => ?_) (fun c6 => ?_)
  · refine wp0 rfl rfl ?_
    exact wpL rfl rfl (sb_95_93 hJ (0) b0)
  · refine wp0 rfl rfl ?_
    refine wp2 rfl rfl ?_
    exact wpL rfl rfl (sb_95_93 hJ (1) b1)
set_option maxRecDepth 20000 in
theorem sb_95_0 {s : cs} {mc : am_H} {D : List pgT} (hJ : J s mc D) (l1 : Int32) (hb_l1 : b01 l1) : tb_wp L xs 95 0 [(0, .ref 16), (1, .int l1)] [] (HH s mc D) (SV mc) := by
  refine wp1 rfl rfl ?_
  refine wp3 rfl (am_getf rfl rfl) ?_
  refine wp3 rfl (am_getf rfl rfl) ?_
  refine wpTi (fun z7 ez7 => ?_)
  refine wp1 rfl rfl ?_
  refine wpV (lv' := [(0, .ref 16), (1, .int l1), (2, .int z7)]) rfl ?_
  refine wp1 rfl rfl ?_
  refine wp3 rfl (am_getf rfl rfl) ?_
  refine wp0 rfl rfl ?_
  refine wp1 rfl rfl ?_
  refine wp4 rfl rfl (sf_32 hJ (0) (z7) (by decide)) (fun rv h1 hq => ?_)
  obtain ⟨s9, D10, hJ11, rfl, x12, rfl⟩ := hq
  refine wp1 rfl rfl ?_
  refine wpV (lv' := [(0, .ref 16), (1, .int l1), (2, .int z7), (3, .long x12)]) rfl ?_
  refine wp1 rfl rfl ?_
  refine wp3 rfl (am_getf rfl rfl) ?_
  refine wp3 rfl (am_getf rfl rfl) ?_
  refine wp2b rfl rfl (fun c13 => ?_) (fun c13 => ?_)
  · refine wp1 rfl rfl ?_
    refine wp1 rfl rfl ?_
    refine wp3 rfl (am_getf rfl rfl) ?_
    refine wp0 rfl rfl ?_
    refine wp1 rfl rfl ?_
    refine wp4 rfl rfl (sf_35 hJ11 (0) (z7) (by decide)) (fun rv h1 hq => ?_)
    obtain ⟨s15, D16, hJ17, rfl, x18, rfl⟩ := hq
    refine wp1 rfl rfl ?_
    refine wp1 rfl rfl ?_
    refine wp1 rfl rfl ?_
    refine wp4 rfl rfl (sf_93 hJ17 (x18) (x12) (z7) (l1) hb_l1) (fun rv h1 hq => ?_)
    obtain ⟨s20, D21, hJ22, rfl, rfl⟩ := hq
    refine wp1 rfl rfl ?_
    refine wp1 rfl rfl ?_
    refine wp3 rfl (am_getf rfl rfl) ?_
    refine wp1 rfl rfl ?_
    refine wp3 rfl (am_getf rfl rfl) ?_
    refine wp4 rfl rfl (sf_97 hJ22 ((g_lower s20)) ((g_upper s20))) (fun rv h1 hq => ?_)
    obtain ⟨s25, D26, hJ27, rfl, rfl⟩ := hq
    refine wp1 rfl rfl ?_
    refine wp3 rfl (am_getf rfl rfl) ?_
    refine wp3 rfl (am_getf rfl rfl) ?_
    refine wp1 rfl rfl ?_
    refine wp3 rfl (am_getf rfl rfl) ?_
    refine wp1 rfl rfl ?_
    refine wp2b rfl rfl (fun c29 => ?_) (fun c29 => ?_)
    · refine wp0 rfl rfl ?_
      exact wpL rfl rfl (sb_95_84 hJ27 ((g_upper s25)) (0))
    · refine wp1 rfl rfl ?_
      refine wp3 rfl (am_getf rfl rfl) ?_
      refine wp1 rfl rfl ?_
      refine wp4 rfl rfl (sf_98 hJ27 ((g_lower s25)) (z7)) (fun rv h1 hq => ?_)
      obtain ⟨s31, D32, hJ33, rfl, x34, rfl⟩ := hq
      refine wp2 rfl rfl ?_
      exact wpL rfl rfl (sb_95_84 hJ33 ((g_upper s25)) (x34))
  · exact wp5 rfl rfl ⟨_, _, hJ11, rfl, rfl⟩
theorem sf_95 {s : cs} {mc : am_H} {D : List pgT} (hJ : J s mc D) (l1 : Int32) (hb_l1 : b01 l1) : tb_wp L xs 95 0 (lv_args 0 [.ref 16, .int l1]) [] (HH s mc D) (SV mc) := sb_95_0 hJ l1 hb_l1
/- 96: FlagMachine$Products.perform(I)V -/
set_option maxRecDepth 20000 in
theorem sb_96_188 {s : cs} {mc : am_H} {D : List pgT} (hJ : J s mc D)   : tb_wp L xs 96 188 [] [] (HH s mc D) (SV mc) := by
  exact wp5 rfl rfl ⟨_, _, hJ, rfl, rfl⟩
set_option maxRecDepth 20000 in
theorem sb_96_146 {s : cs} {mc : am_H} {D : List pgT} (hJ : J s mc D) (k2 : Int32) (k3 : Int64)  : tb_wp L xs 96 146 [] [.long k3, .int k2, .int 2, .ref 7] (HH s mc D) (SV mc) := by
  refine wp4 rfl rfl (sf_37 hJ (2) (k2) (k3) (by decide)) (fun rv h1 hq => ?_)
  obtain ⟨s2, D3, hJ4, rfl, rfl⟩ := hq
  refine wp2 rfl rfl ?_
  exact wpL rfl rfl (sb_96_188 hJ4 )
set_option maxRecDepth 20000 in
theorem sb_96_90 {s : cs} {mc : am_H} {D : List pgT} (hJ : J s mc D) (k1 : Int32) (hb_k1 : b01 k1) : tb_wp L xs 96 90 [] [.int k1, .ref 16] (HH s mc D) (SV mc) := by
  refine wp4 rfl rfl (sf_89 hJ (k1) hb_k1) (fun rv h1 hq => ?_)
  obtain ⟨s7, D8, hJ9, rfl, rfl⟩ := hq
  refine wp2 rfl rfl ?_
  exact wpL rfl rfl (sb_96_188 hJ9 )
set_option maxRecDepth 20000 in
theorem sb_96_72 {s : cs} {mc : am_H} {D : List pgT} (hJ : J s mc D) (k1 : Int32) (hb_k1 : b01 k1) : tb_wp L xs 96 72 [] [.int k1, .ref 16] (HH s mc D) (SV mc) := by
  refine wp4 rfl rfl (sf_95 hJ (k1) hb_k1) (fun rv h1 hq => ?_)
  obtain ⟨s12, D13, hJ14, rfl, rfl⟩ := hq
  refine wp2 rfl rfl ?_
  exact wpL rfl rfl (sb_96_188 hJ14 )
set_option maxRecDepth 20000 in
theorem sb_96_0 {s : cs} {mc : am_H} {D : List pgT} (hJ : J s mc D) (l1 : Int32)  : tb_wp L xs 96 0 [(0, .ref 16), (1, .int l1)] [] (HH s mc D) (SV mc) := by
  refine wp1 rfl rfl ?_
  refine wp2s [60, 78, 96, 103, 152] rfl rfl rfl rfl (am_fa1 ?_ (am_fa1 ?_ (am_fa1 ?_ (am_fa1 ?_ (am_fa1 ?_ (am_fa0))))))
  · refine wp1 rfl rfl ?_
    refine wp1 rfl rfl ?_
    refine wp0 rfl rfl ?_
    refine wp2b rfl rfl (fun c16 => ?_) (fun c16 => ?_)
    · refine wp0 rfl rfl ?_
      refine wp2 rfl rfl ?_
      exact wpL rfl rfl (sb_96_72 hJ (1) b1)
    · refine wp0 rfl rfl ?_
      exact wpL rfl rfl (sb_96_72 hJ (0) b0)
  · refine wp1 rfl rfl ?_
    refine wp1 rfl rfl ?_
    refine wp0 rfl rfl ?_
    refine wp2b rfl rfl (fun c17 => ?_) (fun c17 => ?_)
    · refine wp0 rfl rfl ?_
      refine wp2 rfl rfl ?_
      exact wpL rfl rfl (sb_96_90 hJ (1) b1)
    · refine wp0 rfl rfl ?_
      exact wpL rfl rfl (sb_96_90 hJ (0) b0)
  · refine wp1 rfl rfl ?_
    refine wp4 rfl rfl (sf_94 hJ ) (fun rv h1 hq => ?_)
    obtain ⟨s19, D20, hJ21, rfl, rfl⟩ := hq
    refine wp2 rfl rfl ?_
    exact wpL rfl rfl (sb_96_188 hJ21 )
  · refine wp1 rfl rfl ?_
    refine wp3 rfl (am_getf rfl rfl) ?_
    refine wp0 rfl rfl ?_
    refine wp1 rfl rfl ?_
    refine wp3 rfl (am_getf rfl rfl) ?_
    refine wp3 rfl (am_getf rfl rfl) ?_
    refine wp1 rfl rfl ?_
    refine wp3 rfl (am_getf rfl rfl) ?_
    refine wp3 rfl (am_getf rfl rfl) ?_
    refine wp0 rfl rfl ?_
    refine wp3 rfl (am_lald rfl (by decide)) ?_
    refine wp1 rfl rfl ?_
    refine wp3 rfl (am_getf rfl rfl) ?_
    refine wp3 rfl (am_getf rfl rfl) ?_
    refine wp4 rfl rfl (sf_17 hJ ((g_regs s (Int32.toNatClampNeg 0))) ((g_size s))) (fun rv h1 hq => ?_)
    obtain ⟨s24, D25, hJ26, rfl, x27, rfl⟩ := hq
    refine wp0 rfl rfl ?_
    refine wp0 rfl rfl ?_
    refine wp2b rfl rfl (fun c28 => ?_) (fun c28 => ?_)
    · refine wp0 rfl rfl ?_
      exact wpL rfl rfl (sb_96_146 hJ26 ((g_size s)) (0))
    · refine wp0 rfl rfl ?_
      refine wp2 rfl rfl ?_
      exact wpL rfl rfl (sb_96_146 hJ26 ((g_size s)) ((-1)))
  · refine wp1 rfl rfl ?_
    refine wp3 rfl (am_getf rfl rfl) ?_
    refine wp0 rfl rfl ?_
    refine wp1 rfl rfl ?_
    refine wp3 rfl (am_getf rfl rfl) ?_
    refine wp3 rfl (am_getf rfl rfl) ?_
    refine wp1 rfl rfl ?_
    refine wp3 rfl (am_getf rfl rfl) ?_
    refine wp3 rfl (am_getf rfl rfl) ?_
    refine wp0 rfl rfl ?_
    refine wp3 rfl (am_lald rfl (by decide)) ?_
    refine wp1 rfl rfl ?_
    refine wp3 rfl (am_getf rfl rfl) ?_
    refine wp3 rfl (am_getf rfl rfl) ?_
    refine wp0 rfl rfl ?_
    refine wp0 rfl rfl ?_
    refine wp4 rfl rfl (sf_17 hJ ((g_regs s (Int32.toNatClampNeg 0))) (((g_size s) / 2))) (fun rv h1 hq => ?_)
    obtain ⟨s30, D31, hJ32, rfl, x33, rfl⟩ := hq
    refine wp4 rfl rfl (sf_37 hJ32 (0) ((g_size s)) (x33) (by decide)) (fun rv h1 hq => ?_)
    obtain ⟨s35, D36, hJ37, rfl, rfl⟩ := hq
    exact wpL rfl rfl (sb_96_188 hJ37 )
theorem sf_96 {s : cs} {mc : am_H} {D : List pgT} (hJ : J s mc D) (l1 : Int32)  : tb_wp L xs 96 0 (lv_args 0 [.ref 16, .int l1]) [] (HH s mc D) (SV mc) := sb_96_0 hJ l1
/- 121: FlagMachine$Sums.compareAndExchange()V -/
set_option maxRecDepth 20000 in
theorem sb_121_83 {s : cs} {mc : am_H} {D : List pgT} (hJ : J s mc D) (l1 : Int32) (l2 : Int64) (l4 : Int64)  : tb_wp L xs 121 83 [(0, .ref 15), (1, .int l1), (2, .long l2), (4, .long l4)] [] (HH s mc D) (SV mc) := by
  refine wp1 rfl rfl ?_
  refine wp3 rfl (am_getf rfl rfl) ?_
  refine wp1 rfl rfl ?_
  refine wp1 rfl rfl ?_
  refine wp1 rfl rfl ?_
  refine wp1 rfl rfl ?_
  refine wp0 rfl rfl ?_
  refine wp1 rfl rfl ?_
  refine wp4 rfl rfl (sf_7 hJ (l1)) (fun rv h1 hq => ?_)
  obtain ⟨s2, D3, hJ4, rfl, x5, rfl⟩ := hq
  refine wp0 rfl rfl ?_
  refine wp1 rfl rfl ?_
  refine wp4 rfl rfl (sf_49 hJ4 (l2) (l4) (((l2 - l4) &&& x5)) (l1)) (fun rv h1 hq => ?_)
  obtain ⟨s7, D8, hJ9, rfl, rfl⟩ := hq
  exact wp5 rfl rfl ⟨_, _, hJ9, rfl, rfl⟩
set_option maxRecDepth 20000 in
theorem sb_121_0 {s : cs} {mc : am_H} {D : List pgT} (hJ : J s mc D)   : tb_wp L xs 121 0 [(0, .ref 15)] [] (HH s mc D) (SV mc) := by
  refine wp1 rfl rfl ?_
  refine wp3 rfl (am_getf rfl rfl) ?_
  refine wp3 rfl (am_getf rfl rfl) ?_
  refine wpTi (fun z11 ez11 => ?_)
  refine wp1 rfl rfl ?_
  refine wpV (lv' := [(0, .ref 15), (1, .int z11)]) rfl ?_
  refine wp1 rfl rfl ?_
  refine wp3 rfl (am_getf rfl rfl) ?_
  refine wp0 rfl rfl ?_
  refine wp1 rfl rfl ?_
  refine wp4 rfl rfl (sf_35 hJ (0) (z11) (by decide)) (fun rv h1 hq => ?_)
  obtain ⟨s13, D14, hJ15, rfl, x16, rfl⟩ := hq
  refine wp1 rfl rfl ?_
  refine wpV (lv' := [(0, .ref 15), (1, .int z11), (2, .long x16)]) rfl ?_
  refine wp1 rfl rfl ?_
  refine wp3 rfl (am_getf rfl rfl) ?_
  refine wp0 rfl rfl ?_
  refine wp1 rfl rfl ?_
  refine wp4 rfl rfl (sf_32 hJ15 (0) (z11) (by decide)) (fun rv h1 hq => ?_)
  obtain ⟨s18, D19, hJ20, rfl, x21, rfl⟩ := hq
  refine wp1 rfl rfl ?_
  refine wpV (lv' := [(0, .ref 15), (1, .int z11), (2, .long x16), (4, .long x21)]) rfl ?_
  refine wp1 rfl rfl ?_
  refine wp3 rfl (am_getf rfl rfl) ?_
  refine wp3 rfl (am_getf rfl rfl) ?_
  refine wp2b rfl rfl (fun c22 => ?_) (fun c22 => ?_)
  · refine wp1 rfl rfl ?_
    refine wp1 rfl rfl ?_
    refine wp0 rfl rfl ?_
    refine wp2b rfl rfl (fun c23 => ?_) (fun c23 => ?_)
    · refine wp1 rfl rfl ?_
      refine wp3 rfl (am_getf rfl rfl) ?_
      refine wp0 rfl rfl ?_
      refine wp1 rfl rfl ?_
      refine wp1 rfl rfl ?_
      refine wp3 rfl (am_getf rfl rfl) ?_
      refine wp0 rfl rfl ?_
      refine wp1 rfl rfl ?_
      refine wp4 rfl rfl (sf_32 hJ20 (1) (z11) (by decide)) (fun rv h1 hq => ?_)
      obtain ⟨s25, D26, hJ27, rfl, x28, rfl⟩ := hq
      refine wp4 rfl rfl (sf_42 hJ27 (0) (z11) (x28) (by decide)) (fun rv h1 hq => ?_)
      obtain ⟨s30, D31, hJ32, rfl, x33, rfl, hb_x33⟩ := hq
      refine wp2b rfl rfl (fun c34 => ?_) (fun c34 => ?_)
      · exact wp5 rfl rfl ⟨_, _, hJ32, rfl, rfl⟩
      · exact wpL rfl rfl (sb_121_83 hJ32 (z11) (x16) (x21))
    · refine wp1 rfl rfl ?_
      refine wp3 rfl (am_getf rfl rfl) ?_
      refine wp0 rfl rfl ?_
      refine wp1 rfl rfl ?_
      refine wp1 rfl rfl ?_
      refine wp4 rfl rfl (sf_37 hJ20 (0) (z11) (x21) (by decide)) (fun rv h1 hq => ?_)
      obtain ⟨s36, D37, hJ38, rfl, rfl⟩ := hq
      refine wp2 rfl rfl ?_
      exact wpL rfl rfl (sb_121_83 hJ38 (z11) (x16) (x21))
  · exact wp5 rfl rfl ⟨_, _, hJ20, rfl, rfl⟩
theorem sf_121 {s : cs} {mc : am_H} {D : List pgT} (hJ : J s mc D)   : tb_wp L xs 121 0 (lv_args 0 [.ref 15]) [] (HH s mc D) (SV mc) := sb_121_0 hJ 
/- 122: FlagMachine$Sums.perform(I)V -/
set_option maxRecDepth 20000 in
theorem sb_122_121 {s : cs} {mc : am_H} {D : List pgT} (hJ : J s mc D) (l1 : Int32) (l3 : Int64) (l5 : Int64) (l7 : Int64)  : tb_wp L xs 122 121 [(0, .ref 15), (1, .int l1), (3, .long l3), (5, .long l5), (7, .long l7)] [] (HH s mc D) (SV mc) := by
  refine wp1 rfl rfl ?_
  refine wp1 rfl rfl ?_
  refine wp1 rfl rfl ?_
  refine wp1 rfl rfl ?_
  refine wp1 rfl rfl ?_
  refine wp4 rfl rfl (sf_124 hJ (l1) (l3) (l5) (l7)) (fun rv h1 hq => ?_)
  obtain ⟨s2, D3, hJ4, rfl, rfl⟩ := hq
  exact wp5 rfl rfl ⟨_, _, hJ4, rfl, rfl⟩
set_option maxRecDepth 20000 in
theorem sb_122_94 {s : cs} {mc : am_H} {D : List pgT} (hJ : J s mc D) (l1 : Int32) (l2 : Int32) (l3 : Int64) (l5 : Int64) (l7 : Int64)  : tb_wp L xs 122 94 [(0, .ref 15), (1, .int l1), (2, .int l2), (3, .long l3), (5, .long l5), (7, .long l7)] [] (HH s mc D) (SV mc) := by
  refine wp1 rfl rfl ?_
  refine wp0 rfl rfl ?_
  refine wp2b rfl rfl (fun c6 => ?_) (fun c6 => ?_)
  · refine wp1 rfl rfl ?_
    refine wp3 rfl (am_getf rfl rfl) ?_
    refine wp4 rfl rfl (sf_62 hJ ) (fun rv h1 hq => ?_)
    obtain ⟨s8, D9, hJ10, rfl, x11, rfl, hb_x11⟩ := hq
    refine wp2b rfl rfl (fun c12 => ?_) (fun c12 => ?_)
    · exact wpL rfl rfl (sb_122_121 hJ10 (l1) (l3) (l5) (l7))
    · refine wp1 rfl rfl ?_
      refine wp3 rfl (am_getf rfl rfl) ?_
      refine wp0 rfl rfl ?_
      refine wp1 rfl rfl ?_
      refine wp1 rfl rfl ?_
      refine wp4 rfl rfl (sf_42 hJ10 (1) (l2) (l3) (by decide)) (fun rv h1 hq => ?_)
      obtain ⟨s14, D15, hJ16, rfl, x17, rfl, hb_x17⟩ := hq
      refine wp0 rfl rfl ?_
      exact wpL rfl rfl (sb_122_121 hJ16 (l1) (l3) (l5) (l7))
  · exact wpL rfl rfl (sb_122_121 hJ (l1) (l3) (l5) (l7))
set_option maxRecDepth 20000 in
theorem sb_122_72 {s : cs} {mc : am_H} {D : List pgT} (hJ : J s mc D) (l1 : Int32) (l2 : Int32) (l3 : Int64) (l5 : Int64) (l7 : Int64) (k0 : Int32) (hb_k0 : b01 k0) : tb_wp L xs 122 72 [(0, .ref 15), (1, .int l1), (2, .int l2), (3, .long l3), (5, .long l5), (7, .long l7)] [.int k0] (HH s mc D) (SV mc) := by
  refine wp1 rfl rfl ?_
  refine wpV (lv' := [(0, .ref 15), (1, .int l1), (2, .int l2), (3, .long l3), (5, .long l5), (7, .long l7), (9, .int k0)]) rfl ?_
  refine wp1 rfl rfl ?_
  refine wp2b rfl rfl (fun c18 => ?_) (fun c18 => ?_)
  · exact wpL rfl rfl (sb_122_94 hJ (l1) (l2) (l3) (l5) (l7))
  · refine wp1 rfl rfl ?_
    refine wp3 rfl (am_getf rfl rfl) ?_
    refine wp0 rfl rfl ?_
    refine wp1 rfl rfl ?_
    refine wp1 rfl rfl ?_
    refine wp4 rfl rfl (sf_42 hJ (0) (l2) (l7) (by decide)) (fun rv h1 hq => ?_)
    obtain ⟨s20, D21, hJ22, rfl, x23, rfl, hb_x23⟩ := hq
    refine wp2b rfl rfl (fun c24 => ?_) (fun c24 => ?_)
    · exact wp5 rfl rfl ⟨_, _, hJ22, rfl, rfl⟩
    · exact wpL rfl rfl (sb_122_94 hJ22 (l1) (l2) (l3) (l5) (l7))
set_option maxRecDepth 20000 in
theorem sb_122_71 {s : cs} {mc : am_H} {D : List pgT} (hJ : J s mc D) (l1 : Int32) (l2 : Int32) (l3 : Int64) (l5 : Int64) (l7 : Int64)  : tb_wp L xs 122 71 [(0, .ref 15), (1, .int l1), (2, .int l2), (3, .long l3), (5, .long l5), (7, .long l7)] [] (HH s mc D) (SV mc) := by
  refine wp0 rfl rfl ?_
  exact wpL rfl rfl (sb_122_72 hJ (l1) (l2) (l3) (l5) (l7) (0) b0)
set_option maxRecDepth 20000 in
theorem sb_122_0 {s : cs} {mc : am_H} {D : List pgT} (hJ : J s mc D) (l1 : Int32)  : tb_wp L xs 122 0 [(0, .ref 15), (1, .int l1)] [] (HH s mc D) (SV mc) := by
  refine wp1 rfl rfl ?_
  refine wp3 rfl (am_getf rfl rfl) ?_
  refine wp3 rfl (am_getf rfl rfl) ?_
  refine wpTi (fun z25 ez25 => ?_)
  refine wp1 rfl rfl ?_
  refine wpV (lv' := [(0, .ref 15), (1, .int l1), (2, .int z25)]) rfl ?_
  refine wp1 rfl rfl ?_
  refine wp3 rfl (am_getf rfl rfl) ?_
  refine wp0 rfl rfl ?_
  refine wp1 rfl rfl ?_
  refine wp4 rfl rfl (sf_32 hJ (0) (z25) (by decide)) (fun rv h1 hq => ?_)
  obtain ⟨s27, D28, hJ29, rfl, x30, rfl⟩ := hq
  refine wp1 rfl rfl ?_
  refine wpV (lv' := [(0, .ref 15), (1, .int l1), (2, .int z25), (3, .long x30)]) rfl ?_
  refine wp1 rfl rfl ?_
  refine wp3 rfl (am_getf rfl rfl) ?_
  refine wp0 rfl rfl ?_
  refine wp1 rfl rfl ?_
  refine wp4 rfl rfl (sf_32 hJ29 (1) (z25) (by decide)) (fun rv h1 hq => ?_)
  obtain ⟨s32, D33, hJ34, rfl, x35, rfl⟩ := hq
  refine wp1 rfl rfl ?_
  refine wpV (lv' := [(0, .ref 15), (1, .int l1), (2, .int z25), (3, .long x30), (5, .long x35)]) rfl ?_
  refine wp1 rfl rfl ?_
  refine wp3 rfl (am_getf rfl rfl) ?_
  refine wp3 rfl (am_getf rfl rfl) ?_
  refine wp2b rfl rfl (fun c36 => ?_) (fun c36 => ?_)
  · refine wp1 rfl rfl ?_
    refine wp1 rfl rfl ?_
    refine wp1 rfl rfl ?_
    refine wp1 rfl rfl ?_
    refine wp4 rfl rfl (sf_123 hJ34 (l1) (x30) (x35)) (fun rv h1 hq => ?_)
    obtain ⟨s38, D39, hJ40, rfl, x41, rfl⟩ := hq
    refine wp1 rfl rfl ?_
    refine wp4 rfl rfl (sf_7 hJ40 (z25)) (fun rv h1 hq => ?_)
    obtain ⟨s43, D44, hJ45, rfl, x46, rfl⟩ := hq
    refine wp0 rfl rfl ?_
    refine wpTl (fun z47 ez47 => ?_)
    refine wp1 rfl rfl ?_
    refine wpV (lv' := [(0, .ref 15), (1, .int l1), (2, .int z25), (3, .long x30), (5, .long x35), (7, .long z47)]) rfl ?_
    refine wp1 rfl rfl ?_
    refine wp0 rfl rfl ?_
    refine wp2b rfl rfl (fun c48 => ?_) (fun c48 => ?_)
    · exact wpL rfl rfl (sb_122_71 hJ45 (l1) (z25) (x30) (x35) (z47))
    · refine wp1 rfl rfl ?_
      refine wp0 rfl rfl ?_
      refine wp2b rfl rfl (fun c49 => ?_) (fun c49 => ?_)
      · exact wpL rfl rfl (sb_122_71 hJ45 (l1) (z25) (x30) (x35) (z47))
      · refine wp0 rfl rfl ?_
        refine wp2 rfl rfl ?_
        exact wpL rfl rfl (sb_122_72 hJ45 (l1) (z25) (x30) (x35) (z47) (1) b1)
  · exact wp5 rfl rfl ⟨_, _, hJ34, rfl, rfl⟩
theorem sf_122 {s : cs} {mc : am_H} {D : List pgT} (hJ : J s mc D) (l1 : Int32)  : tb_wp L xs 122 0 (lv_args 0 [.ref 15, .int l1]) [] (HH s mc D) (SV mc) := sb_122_0 hJ l1
/- 26: FlagMachine$Bits.search(Z)V -/
set_option maxRecDepth 20000 in
theorem sb_26_80 {s : cs} {mc : am_H} {D : List pgT} (hJ : J s mc D)   : tb_wp L xs 26 80 [] [] (HH s mc D) (SV mc) := by
  exact wp5 rfl rfl ⟨_, _, hJ, rfl, rfl⟩
set_option maxRecDepth 20000 in
theorem sb_26_76 {s : cs} {mc : am_H} {D : List pgT} (hJ : J s mc D) (k2 : Int32) (k3 : Int64)  : tb_wp L xs 26 76 [] [.long k3, .int k2, .int 0, .ref 7] (HH s mc D) (SV mc) := by
  refine wp4 rfl rfl (sf_42 hJ (0) (k2) (k3) (by decide)) (fun rv h1 hq => ?_)
  obtain ⟨s2, D3, hJ4, rfl, x5, rfl, hb_x5⟩ := hq
  refine wp0 rfl rfl ?_
  exact wpL rfl rfl (sb_26_80 hJ4 )
set_option maxRecDepth 20000 in
theorem sb_26_44 {s : cs} {mc : am_H} {D : List pgT} (hJ : J s mc D) (l1 : Int32) (l2 : Int32) (l3 : Int64) (k1 : Int32) (hb_l1 : b01 l1) (hb_k1 : b01 k1) : tb_wp L xs 26 44 [(0, .ref 17), (1, .int l1), (2, .int l2), (3, .long l3)] [.int k1, .ref 9] (HH s mc D) (SV mc) := by
  refine wp3 rfl (am_putf rfl (Nat.le_of_ble_eq_true rfl) (b01_nar hb_k1) (b01_fit hb_k1)) ?_
  have hJ6 := J_zero hJ hb_k1
  refine wpH (h' := HH (s_zero s k1) mc D) rfl ?_
  refine wp1 rfl rfl ?_
  refine wp0 rfl rfl ?_
  refine wp0 rfl rfl ?_
  refine wp2b rfl rfl (fun c7 => ?_) (fun c7 => ?_)
  · exact wpL rfl rfl (sb_26_80 hJ6 )
  · refine wp1 rfl rfl ?_
    refine wp3 rfl (am_getf rfl rfl) ?_
    refine wp0 rfl rfl ?_
    refine wp1 rfl rfl ?_
    refine wp1 rfl rfl ?_
    refine wp2b rfl rfl (fun c8 => ?_) (fun c8 => ?_)
    · refine wp1 rfl rfl ?_
      refine wp4 rfl rfl (sf_22 hJ6 (l3)) (fun rv h1 hq => ?_)
      obtain ⟨s10, D11, hJ12, rfl, x13, rfl⟩ := hq
      refine wp0 rfl rfl ?_
      exact wpL rfl rfl (sb_26_76 hJ12 (l2) ((Int32.toInt64 x13)))
    · refine wp1 rfl rfl ?_
      refine wp4 rfl rfl (sf_23 hJ6 (l3)) (fun rv h1 hq => ?_)
      obtain ⟨s15, D16, hJ17, rfl, x18, rfl⟩ := hq
      refine wp0 rfl rfl ?_
      refine wp2 rfl rfl ?_
      exact wpL rfl rfl (sb_26_76 hJ17 (l2) ((Int32.toInt64 x18)))
set_option maxRecDepth 20000 in
theorem sb_26_0 {s : cs} {mc : am_H} {D : List pgT} (hJ : J s mc D) (l1 : Int32) (hb_l1 : b01 l1) : tb_wp L xs 26 0 [(0, .ref 17), (1, .int l1)] [] (HH s mc D) (SV mc) := by
  refine wp1 rfl rfl ?_
  refine wp3 rfl (am_getf rfl rfl) ?_
  refine wp3 rfl (am_getf rfl rfl) ?_
  refine wpTi (fun z19 ez19 => ?_)
  refine wp1 rfl rfl ?_
  refine wpV (lv' := [(0, .ref 17), (1, .int l1), (2, .int z19)]) rfl ?_
  refine wp1 rfl rfl ?_
  refine wp3 rfl (am_getf rfl rfl) ?_
  refine wp0 rfl rfl ?_
  refine wp1 rfl rfl ?_
  refine wp4 rfl rfl (sf_32 hJ (1) (z19) (by decide)) (fun rv h1 hq => ?_)
  obtain ⟨s21, D22, hJ23, rfl, x24, rfl⟩ := hq
  refine wp1 rfl rfl ?_
  refine wpV (lv' := [(0, .ref 17), (1, .int l1), (2, .int z19), (3, .long x24)]) rfl ?_
  refine wp1 rfl rfl ?_
  refine wp3 rfl (am_getf rfl rfl) ?_
  refine wp3 rfl (am_getf rfl rfl) ?_
  refine wp2b rfl rfl (fun c25 => ?_) (fun c25 => ?_)
  · refine wp1 rfl rfl ?_
    refine wp3 rfl (am_getf rfl rfl) ?_
    refine wp1 rfl rfl ?_
    refine wp0 rfl rfl ?_
    refine wp0 rfl rfl ?_
    refine wp2b rfl rfl (fun c26 => ?_) (fun c26 => ?_)
    · refine wp0 rfl rfl ?_
      refine wp2 rfl rfl ?_
      exact wpL rfl rfl (sb_26_44 hJ23 (l1) (z19) (x24) (1) hb_l1 b1)
    · refine wp0 rfl rfl ?_
      exact wpL rfl rfl (sb_26_44 hJ23 (l1) (z19) (x24) (0) hb_l1 b0)
  · exact wp5 rfl rfl ⟨_, _, hJ23, rfl, rfl⟩
theorem sf_26 {s : cs} {mc : am_H} {D : List pgT} (hJ : J s mc D) (l1 : Int32) (hb_l1 : b01 l1) : tb_wp L xs 26 0 (lv_args 0 [.ref 17, .int l1]) [] (HH s mc D) (SV mc) := sb_26_0 hJ l1 hb_l1
/- 27: FlagMachine$Bits.shift(I)V -/
set_option maxRecDepth 20000 in
theorem sb_27_194 {s : cs} {mc : am_H} {D : List pgT} (hJ : J s mc D)   : tb_wp L xs 27 194 [] [] (HH s mc D) (SV mc) := by
  exact wp5 rfl rfl ⟨_, _, hJ, rfl, rfl⟩
set_option maxRecDepth 20000 in
theorem sb_27_178 {s : cs} {mc : am_H} {D : List pgT} (hJ : J s mc D) (l1 : Int32) (l2 : Int32) (l6 : Int64)  : tb_wp L xs 27 178 [(0, .ref 17), (1, .int l1), (2, .int l2), (6, .long l6)] [] (HH s mc D) (SV mc) := by
  refine wp1 rfl rfl ?_
  refine wp0 rfl rfl ?_
  refine wp2b rfl rfl (fun c1 => ?_) (fun c1 => ?_)
  · exact wpL rfl rfl (sb_27_194 hJ )
  · refine wp1 rfl rfl ?_
    refine wp3 rfl (am_getf rfl rfl) ?_
    refine wp1 rfl rfl ?_
    refine wp1 rfl rfl ?_
    refine wp4 rfl rfl (sf_51 hJ (l6) (l2)) (fun rv h1 hq => ?_)
    obtain ⟨s3, D4, hJ5, rfl, rfl⟩ := hq
    exact wpL rfl rfl (sb_27_194 hJ5 )
set_option maxRecDepth 20000 in
theorem sb_27_121 {s : cs} {mc : am_H} {D : List pgT} (hJ : J s mc D) (l1 : Int32) (l2 : Int32) (l3 : Int64) (l5 : Int32) (l6 : Int64) (k0 : Int32) (hb_k0 : b01 k0) : tb_wp L xs 27 121 [(0, .ref 17), (1, .int l1), (2, .int l2), (3, .long l3), (5, .int l5), (6, .long l6)] [.int k0] (HH s mc D) (SV mc) := by
  refine wp1 rfl rfl ?_
  refine wpV (lv' := [(0, .ref 17), (1, .int l1), (2, .int l2), (3, .long l3), (5, .int l5), (6, .long l6), (8, .int k0)]) rfl ?_
  refine wp1 rfl rfl ?_
  refine wp1 rfl rfl ?_
  refine wp1 rfl rfl ?_
  refine wp4 rfl rfl (sf_28 hJ (l1) (l6) (l2)) (fun rv h1 hq => ?_)
  obtain ⟨s8, D9, hJ10, rfl, x11, rfl⟩ := hq
  refine wp1 rfl rfl ?_
  refine wpV (lv' := [(0, .ref 17), (1, .int l1), (2, .int l2), (3, .long l3), (5, .int l5), (6, .long x11), (8, .int k0)]) rfl ?_
  refine wp1 rfl rfl ?_
  refine wp3 rfl (am_getf rfl rfl) ?_
  refine wp0 rfl rfl ?_
  refine wp1 rfl rfl ?_
  refine wp1 rfl rfl ?_
  refine wp4 rfl rfl (sf_42 hJ10 (0) (l2) (x11) (by decide)) (fun rv h1 hq => ?_)
  obtain ⟨s13, D14, hJ15, rfl, x16, rfl, hb_x16⟩ := hq
  refine wp2b rfl rfl (fun c17 => ?_) (fun c17 => ?_)
  · exact wp5 rfl rfl ⟨_, _, hJ15, rfl, rfl⟩
  · refine wp1 rfl rfl ?_
    refine wp3 rfl (am_getf rfl rfl) ?_
    refine wp1 rfl rfl ?_
    refine wp3 rfl (am_putf rfl (Nat.le_of_ble_eq_true rfl) (b01_nar hb_k0) (b01_fit hb_k0)) ?_
    have hJ18 := J_carry hJ15 hb_k0
    refine wpH (h' := HH (s_carry s13 k0) mc D14) rfl ?_
    refine wp1 rfl rfl ?_
    refine wp0 rfl rfl ?_
    refine wp2b rfl rfl (fun c19 => ?_) (fun c19 => ?_)
    · refine wp1 rfl rfl ?_
      refine wp3 rfl (am_getf rfl rfl) ?_
      refine wp1 rfl rfl ?_
      refine wp1 rfl rfl ?_
      refine wp1 rfl rfl ?_
      refine wp1 rfl rfl ?_
      refine wp1 rfl rfl ?_
      refine wp4 rfl rfl (sf_24 hJ18 (l1) (l3) (x11) (l2)) (fun rv h1 hq => ?_)
      obtain ⟨s21, D22, hJ23, rfl, x24, rfl, hb_x24⟩ := hq
      refine wp3 rfl (am_putf rfl (Nat.le_of_ble_eq_true rfl) (b01_nar hb_x24) (b01_fit hb_x24)) ?_
      have hJ25 := J_over hJ23 hb_x24
      refine wpH (h' := HH (s_over s21 x24) mc D22) rfl ?_
      exact wpL rfl rfl (sb_27_178 hJ25 (l1) (l2) (x11))
    · exact wpL rfl rfl (sb_27_178 hJ18 (l1) (l2) (x11))
set_option maxRecDepth 20000 in
theorem sb_27_110 {s : cs} {mc : am_H} {D : List pgT} (hJ : J s mc D) (l1 : Int32) (l2 : Int32) (l3 : Int64) (l5 : Int32) (l6 : Int64) (k0 : Int64) (k1 : Int64)  : tb_wp L xs 27 110 [(0, .ref 17), (1, .int l1), (2, .int l2), (3, .long l3), (5, .int l5), (6, .long l6)] [.long k1, .long k0] (HH s mc D) (SV mc) := by
  refine wp0 rfl rfl ?_
  refine wp0 rfl rfl ?_
  refine wp0 rfl rfl ?_
  refine wp2b rfl rfl (fun c26 => ?_) (fun c26 => ?_)
  · refine wp0 rfl rfl ?_
    exact wpL rfl rfl (sb_27_121 hJ (l1) (l2) (l3) (l5) (l6) (0) b0)
  · refine wp0 rfl rfl ?_
    refine wp2 rfl rfl ?_
    exact wpL rfl rfl (sb_27_121 hJ (l1) (l2) (l3) (l5) (l6) (1) b1)
set_option maxRecDepth 20000 in
theorem sb_27_102 {s : cs} {mc : am_H} {D : List pgT} (hJ : J s mc D) (l1 : Int32) (l2 : Int32) (l3 : Int64) (l5 : Int32) (l6 : Int64) (k0 : Int64)  : tb_wp L xs 27 102 [(0, .ref 17), (1, .int l1), (2, .int l2), (3, .long l3), (5, .int l5), (6, .long l6)] [.long k0] (HH s mc D) (SV mc) := by
  refine wp1 rfl rfl ?_
  refine wp4 rfl rfl (sf_19 hJ (l2)) (fun rv h1 hq => ?_)
  obtain ⟨s28, D29, hJ30, rfl, x31, rfl⟩ := hq
  refine wp2 rfl rfl ?_
  exact wpL rfl rfl (sb_27_110 hJ30 (l1) (l2) (l3) (l5) (l6) (k0) (x31))
set_option maxRecDepth 20000 in
theorem sb_27_66 (n : Nat) : ∀ {s : cs} {mc : am_H} {D : List pgT} (hJ : J s mc D) (l1 : Int32) (l2 : Int32) (l3 : Int64) (l5 : Int32) (l6 : Int64) (l8 : Int32) (hn_l8 : 0 ≤ Int32.toInt l8) (hm : ((l5 : Int32).toInt - (l8 : Int32).toInt).toNat < n), tb_wp L xs 27 66 [(0, .ref 17), (1, .int l1), (2, .int l2), (3, .long l3), (5, .int l5), (6, .long l6), (8, .int l8)] [] (HH s mc D) (SV mc) := by
  induction n with
  | zero => intro s mc D hJ l1 l2 l3 l5 l6 l8 hn_l8 hm; exact absurd hm (Nat.not_lt_zero _)
  | succ n ih =>
    intro s mc D hJ l1 l2 l3 l5 l6 l8 hn_l8 hm
    refine wp1 rfl rfl ?_
    refine wp1 rfl rfl ?_
    refine wp2b rfl rfl (fun c32 => ?_) (fun c32 => ?_)
    · refine wp1 rfl rfl ?_
      refine wp1 rfl rfl ?_
      refine wp0 rfl rfl ?_
      refine wp2b rfl rfl (fun c33 => ?_) (fun c33 => ?_)
      · exact wpL rfl rfl (sb_27_102 hJ (l1) (l2) (l3) (l5) (l6) (l6))
      · refine wp1 rfl rfl ?_
        refine wp0 rfl rfl ?_
        refine wp2b rfl rfl (fun c34 => ?_) (fun c34 => ?_)
        · exact wpL rfl rfl (sb_27_102 hJ (l1) (l2) (l3) (l5) (l6) (l6))
        · refine wp0 rfl rfl ?_
          exact wpL rfl rfl (sb_27_110 hJ (l1) (l2) (l3) (l5) (l6) (l6) (1))
    · refine wp1 rfl rfl ?_
      refine wp1 rfl rfl ?_
      refine wp1 rfl rfl ?_
      refine wp4 rfl rfl (sf_28 hJ (l1) (l6) (l2)) (fun rv h1 hq => ?_)
      obtain ⟨s36, D37, hJ38, rfl, x39, rfl⟩ := hq
      refine wp1 rfl rfl ?_
      refine wpV (lv' := [(0, .ref 17), (1, .int l1), (2, .int l2), (3, .long l3), (5, .int l5), (6, .long x39), (8, .int l8)]) rfl ?_
      refine wp1 rfl rfl ?_
      refine wpV (lv' := [(0, .ref 17), (1, .int l1), (2, .int l2), (3, .long l3), (5, .int l5), (6, .long x39), (8, .int (l8 + 1))]) rfl ?_
      refine wp2 rfl rfl ?_
      exact wpL rfl rfl (ih hJ38 (l1) (l2) (l3) (l5) (x39) ((l8 + 1)) (i32_upp c32 hn_l8) (i32_up c32 hm))
set_option maxRecDepth 20000 in
theorem sb_27_59 {s : cs} {mc : am_H} {D : List pgT} (hJ : J s mc D)   : tb_wp L xs 27 59 [] [] (HH s mc D) (SV mc) := by
  exact wp5 rfl rfl ⟨_, _, hJ, rfl, rfl⟩
set_option maxRecDepth 20000 in
theorem sb_27_41 {s : cs} {mc : am_H} {D : List pgT} (hJ : J s mc D) (l1 : Int32) (l2 : Int32) (l3 : Int64) (k0 : Int32) (k1 : Int32) (hn_k1 : 0 ≤ Int32.toInt k1) : tb_wp L xs 27 41 [(0, .ref 17), (1, .int l1), (2, .int l2), (3, .long l3)] [.int k1, .int k0] (HH s mc D) (SV mc) := by
  refine wp0 rfl rfl ?_
  refine wpTi (fun z40 ez40 => ?_)
  refine wp1 rfl rfl ?_
  refine wpV (lv' := [(0, .ref 17), (1, .int l1), (2, .int l2), (3, .long l3), (5, .int z40)]) rfl ?_
  refine wp1 rfl rfl ?_
  refine wp3 rfl (am_getf rfl rfl) ?_
  refine wp3 rfl (am_getf rfl rfl) ?_
  refine wp2b rfl rfl (fun c41 => ?_) (fun c41 => ?_)
  · refine wp1 rfl rfl ?_
    refine wp2b rfl rfl (fun c42 => ?_) (fun c42 => ?_)
    · exact wpL rfl rfl (sb_27_59 hJ )
    · refine wp1 rfl rfl ?_
      refine wp1 rfl rfl ?_
      refine wpV (lv' := [(0, .ref 17), (1, .int l1), (2, .int l2), (3, .long l3), (5, .int z40), (6, .long l3)]) rfl ?_
      refine wp0 rfl rfl ?_
      refine wp1 rfl rfl ?_
      refine wpV (lv' := [(0, .ref 17), (1, .int l1), (2, .int l2), (3, .long l3), (5, .int z40), (6, .long l3), (8, .int 1)]) rfl ?_
      exact wpL rfl rfl (sb_27_66 _ hJ (l1) (l2) (l3) (z40) (l3) (1) (by decide) (Nat.lt_succ_self _))
  · exact wpL rfl rfl (sb_27_59 hJ )
set_option maxRecDepth 20000 in
theorem sb_27_0 {s : cs} {mc : am_H} {D : List pgT} (hJ : J s mc D) (l1 : Int32)  : tb_wp L xs 27 0 [(0, .ref 17), (1, .int l1)] [] (HH s mc D) (SV mc) := by
  refine wp1 rfl rfl ?_
  refine wp3 rfl (am_getf rfl rfl) ?_
  refine wp3 rfl (am_getf rfl rfl) ?_
  refine wpTi (fun z43 ez43 => ?_)
  refine wp1 rfl rfl ?_
  refine wpV (lv' := [(0, .ref 17), (1, .int l1), (2, .int z43)]) rfl ?_
  refine wp1 rfl rfl ?_
  refine wp3 rfl (am_getf rfl rfl) ?_
  refine wp0 rfl rfl ?_
  refine wp1 rfl rfl ?_
  refine wp4 rfl rfl (sf_32 hJ (0) (z43) (by decide)) (fun rv h1 hq => ?_)
  obtain ⟨s45, D46, hJ47, rfl, x48, rfl⟩ := hq
  refine wp1 rfl rfl ?_
  refine wpV (lv' := [(0, .ref 17), (1, .int l1), (2, .int z43), (3, .long x48)]) rfl ?_
  refine wp1 rfl rfl ?_
  refine wp3 rfl (am_getf rfl rfl) ?_
  refine wp0 rfl rfl ?_
  refine wp0 rfl rfl ?_
  refine wp4 rfl rfl (sf_32 hJ47 (1) (1) (by decide)) (fun rv h1 hq => ?_)
  obtain ⟨s50, D51, hJ52, rfl, x53, rfl⟩ := hq
  refine wp0 rfl rfl ?_
  refine wp1 rfl rfl ?_
  refine wp0 rfl rfl ?_
  refine wp2b rfl rfl (fun c54 => ?_) (fun c54 => ?_)
  · refine wp0 rfl rfl ?_
    refine wp2 rfl rfl ?_
    exact wpL rfl rfl (sb_27_41 hJ52 (l1) (z43) (x48) ((Int64.toInt32 x53)) (63) (by decide))
  · refine wp0 rfl rfl ?_
    exact wpL rfl rfl (sb_27_41 hJ52 (l1) (z43) (x48) ((Int64.toInt32 x53)) (31) (by decide))
theorem sf_27 {s : cs} {mc : am_H} {D : List pgT} (hJ : J s mc D) (l1 : Int32)  : tb_wp L xs 27 0 (lv_args 0 [.ref 17, .int l1]) [] (HH s mc D) (SV mc) := sb_27_0 hJ l1
/- 29: FlagMachine$Bits.testBit()V -/
set_option maxRecDepth 20000 in
theorem sb_29_70 {s : cs} {mc : am_H} {D : List pgT} (hJ : J s mc D)   : tb_wp L xs 29 70 [] [] (HH s mc D) (SV mc) := by
  exact wp5 rfl rfl ⟨_, _, hJ, rfl, rfl⟩
set_option maxRecDepth 20000 in
theorem sb_29_67 {s : cs} {mc : am_H} {D : List pgT} (hJ : J s mc D) (k1 : Int32) (hb_k1 : b01 k1) : tb_wp L xs 29 67 [] [.int k1, .ref 9] (HH s mc D) (SV mc) := by
  refine wp3 rfl (am_putf rfl (Nat.le_of_ble_eq_true rfl) (b01_nar hb_k1) (b01_fit hb_k1)) ?_
  have hJ1 := J_carry hJ hb_k1
  refine wpH (h' := HH (s_carry s k1) mc D) rfl ?_
  exact wpL rfl rfl (sb_29_70 hJ1 )
set_option maxRecDepth 20000 in
theorem sb_29_0 {s : cs} {mc : am_H} {D : List pgT} (hJ : J s mc D)   : tb_wp L xs 29 0 [(0, .ref 17)] [] (HH s mc D) (SV mc) := by
  refine wp1 rfl rfl ?_
  refine wp3 rfl (am_getf rfl rfl) ?_
  refine wp3 rfl (am_getf rfl rfl) ?_
  refine wpTi (fun z2 ez2 => ?_)
  refine wp1 rfl rfl ?_
  refine wpV (lv' := [(0, .ref 17), (1, .int z2)]) rfl ?_
  refine wp1 rfl rfl ?_
  refine wp3 rfl (am_getf rfl rfl) ?_
  refine wp0 rfl rfl ?_
  refine wp1 rfl rfl ?_
  refine wp4 rfl rfl (sf_32 hJ (0) (z2) (by decide)) (fun rv h1 hq => ?_)
  obtain ⟨s4, D5, hJ6, rfl, x7, rfl⟩ := hq
  refine wp1 rfl rfl ?_
  refine wpV (lv' := [(0, .ref 17), (1, .int z2), (2, .long x7)]) rfl ?_
  refine wp1 rfl rfl ?_
  refine wp3 rfl (am_getf rfl rfl) ?_
  refine wp0 rfl rfl ?_
  refine wp0 rfl rfl ?_
  refine wp4 rfl rfl (sf_32 hJ6 (1) (1) (by decide)) (fun rv h1 hq => ?_)
  obtain ⟨s9, D10, hJ11, rfl, x12, rfl⟩ := hq
  refine wp0 rfl rfl ?_
  refine wp0 rfl rfl ?_
  refine wp1 rfl rfl ?_
  refine wp0 rfl rfl ?_
  refine wp0 rfl rfl ?_
  refine wp0 rfl rfl ?_
  refine wp0 rfl rfl ?_
  refine wpTi (fun z13 ez13 => ?_)
  refine wp1 rfl rfl ?_
  refine wpV (lv' := [(0, .ref 17), (1, .int z2), (2, .long x7), (4, .int z13)]) rfl ?_
  refine wp1 rfl rfl ?_
  refine wp3 rfl (am_getf rfl rfl) ?_
  refine wp3 rfl (am_getf rfl rfl) ?_
  refine wp2b rfl rfl (fun c14 => ?_) (fun c14 => ?_)
  · refine wp1 rfl rfl ?_
    refine wp3 rfl (am_getf rfl rfl) ?_
    refine wp1 rfl rfl ?_
    refine wp1 rfl rfl ?_
    refine wp0 rfl rfl ?_
    refine wp0 rfl rfl ?_
    refine wp0 rfl rfl ?_
    refine wp0 rfl rfl ?_
    refine wp0 rfl rfl ?_
    refine wp2b rfl rfl (fun c15 => ?_) (fun c15 => ?_)
    · refine wp0 rfl rfl ?_
      exact wpL rfl rfl (sb_29_67 hJ11 (0) b0)
    · refine wp0 rfl rfl ?_
      refine wp2 rfl rfl ?_
      exact wpL rfl rfl (sb_29_67 hJ11 (1) b1)
  · exact wpL rfl rfl (sb_29_70 hJ11 )
theorem sf_29 {s : cs} {mc : am_H} {D : List pgT} (hJ : J s mc D)   : tb_wp L xs 29 0 (lv_args 0 [.ref 17]) [] (HH s mc D) (SV mc) := sb_29_0 hJ 
/- 30: FlagMachine$Bits.turnBytes()V -/
set_option maxRecDepth 20000 in
theorem sb_30_24 (n : Nat) : ∀ {s : cs} {mc : am_H} {D : List pgT} (hJ : J s mc D) (l1 : Int32) (l2 : Int64) (l4 : Int64) (l6 : Int32) (hn_l6 : 0 ≤ Int32.toInt l6) (hm : ((l1 : Int32).toInt - (l6 : Int32).toInt).toNat < n), tb_wp L xs 30 24 [(0, .ref 17), (1, .int l1), (2, .long l2), (4, .long l4), (6, .int l6)] [] (HH s mc D) (SV mc) := by
  induction n with
  | zero => intro s mc D hJ l1 l2 l4 l6 hn_l6 hm; exact absurd hm (Nat.not_lt_zero _)
  | succ n ih =>
    intro s mc D hJ l1 l2 l4 l6 hn_l6 hm
    refine wp1 rfl rfl ?_
    refine wp1 rfl rfl ?_
    refine wp2b rfl rfl (fun c1 => ?_) (fun c1 => ?_)
    · refine wp1 rfl rfl ?_
      refine wp3 rfl (am_getf rfl rfl) ?_
      refine wp0 rfl rfl ?_
      refine wp1 rfl rfl ?_
      refine wp1 rfl rfl ?_
      refine wp4 rfl rfl (sf_42 hJ (0) (l1) (l4) (by decide)) (fun rv h1 hq => ?_)
      obtain ⟨s3, D4, hJ5, rfl, x6, rfl, hb_x6⟩ := hq
      refine wp0 rfl rfl ?_
      exact wp5 rfl rfl ⟨_, _, hJ5, rfl, rfl⟩
    · refine wp1 rfl rfl ?_
      refine wp0 rfl rfl ?_
      refine wp0 rfl rfl ?_
      refine wp1 rfl rfl ?_
      refine wp0 rfl rfl ?_
      refine wp1 rfl rfl ?_
      refine wp0 rfl rfl ?_
      refine wp0 rfl rfl ?_
      refine wp0 rfl rfl ?_
      refine wp0 rfl rfl ?_
      refine wp0 rfl rfl ?_
      refine wpTl (fun z7 ez7 => ?_)
      refine wp1 rfl rfl ?_
      refine wpV (lv' := [(0, .ref 17), (1, .int l1), (2, .long l2), (4, .long z7), (6, .int l6)]) rfl ?_
      refine wp1 rfl rfl ?_
      refine wpV (lv' := [(0, .ref 17), (1, .int l1), (2, .long l2), (4, .long z7), (6, .int (l6 + 1))]) rfl ?_
      refine wp2 rfl rfl ?_
      exact wpL rfl rfl (ih hJ (l1) (l2) (z7) ((l6 + 1)) (i32_upp c1 hn_l6) (i32_up c1 hm))
set_option maxRecDepth 20000 in
theorem sb_30_0 {s : cs} {mc : am_H} {D : List pgT} (hJ : J s mc D)   : tb_wp L xs 30 0 [(0, .ref 17)] [] (HH s mc D) (SV mc) := by
  refine wp1 rfl rfl ?_
  refine wp3 rfl (am_getf rfl rfl) ?_
  refine wp3 rfl (am_getf rfl rfl) ?_
  refine wpTi (fun z8 ez8 => ?_)
  refine wp1 rfl rfl ?_
  refine wpV (lv' := [(0, .ref 17), (1, .int z8)]) rfl ?_
  refine wp1 rfl rfl ?_
  refine wp3 rfl (am_getf rfl rfl) ?_
  refine wp0 rfl rfl ?_
  refine wp1 rfl rfl ?_
  refine wp4 rfl rfl (sf_32 hJ (0) (z8) (by decide)) (fun rv h1 hq => ?_)
  obtain ⟨s10, D11, hJ12, rfl, x13, rfl⟩ := hq
  refine wp1 rfl rfl ?_
  refine wpV (lv' := [(0, .ref 17), (1, .int z8), (2, .long x13)]) rfl ?_
  refine wp0 rfl rfl ?_
  refine wp1 rfl rfl ?_
  refine wpV (lv' := [(0, .ref 17), (1, .int z8), (2, .long x13), (4, .long 0)]) rfl ?_
  refine wp0 rfl rfl ?_
  refine wp1 rfl rfl ?_
  refine wpV (lv' := [(0, .ref 17), (1, .int z8), (2, .long x13), (4, .long 0), (6, .int 0)]) rfl ?_
  exact wpL rfl rfl (sb_30_24 _ hJ12 (z8) (x13) (0) (0) (by decide) (Nat.lt_succ_self _))
theorem sf_30 {s : cs} {mc : am_H} {D : List pgT} (hJ : J s mc D)   : tb_wp L xs 30 0 (lv_args 0 [.ref 17]) [] (HH s mc D) (SV mc) := sb_30_0 hJ 
/- 81: FlagMachine$Moves.perform(I)V -/
set_option maxRecDepth 20000 in
theorem sb_81_373 {s : cs} {mc : am_H} {D : List pgT} (hJ : J s mc D)   : tb_wp L xs 81 373 [] [] (HH s mc D) (SV mc) := by
  exact wp5 rfl rfl ⟨_, _, hJ, rfl, rfl⟩
set_option maxRecDepth 20000 in
theorem sb_81_358 {s : cs} {mc : am_H} {D : List pgT} (hJ : J s mc D) (k1 : Int32) (k2 : Int32) (hb_k1 : b01 k1) (hb_k2 : b01 k2) : tb_wp L xs 81 358 [] [.int k2, .int k1, .ref 18] (HH s mc D) (SV mc) := by
  refine wp4 rfl rfl (sf_80 hJ (k1) (k2) hb_k1 hb_k2) (fun rv h1 hq => ?_)
  obtain ⟨s2, D3, hJ4, rfl, rfl⟩ := hq
  refine wp2 rfl rfl ?_
  exact wpL rfl rfl (sb_81_373 hJ4 )
set_option maxRecDepth 20000 in
theorem sb_81_347 {s : cs} {mc : am_H} {D : List pgT} (hJ : J s mc D) (l1 : Int32) (k1 : Int32) (hb_k1 : b01 k1) : tb_wp L xs 81 347 [(1, .int l1)] [.int k1, .ref 18] (HH s mc D) (SV mc) := by
  refine wp1 rfl rfl ?_
  refine wp0 rfl rfl ?_
  refine wp2b rfl rfl (fun c6 => ?_) (fun c6 => ?_)
  · refine wp0 rfl rfl ?_
    exact wpL rfl rfl (sb_81_358 hJ (k1) (0) hb_k1 b0)
  · refine wp0 rfl rfl ?_
    refine wp2 rfl rfl ?_
    exact wpL rfl rfl (sb_81_358 hJ (k1) (1) hb_k1 b1)
set_option maxRecDepth 20000 in
theorem sb_81_342 {s : cs} {mc : am_H} {D : List pgT} (hJ : J s mc D) (l1 : Int32)  : tb_wp L xs 81 342 [(1, .int l1)] [.ref 18] (HH s mc D) (SV mc) := by
  refine wp0 rfl rfl ?_
  refine wp2 rfl rfl ?_
  exact wpL rfl rfl (sb_81_347 hJ (l1) (1) b1)
set_option maxRecDepth 20000 in
theorem sb_81_304 {s : cs} {mc : am_H} {D : List pgT} (hJ : J s mc D) (k3 : Int64)  : tb_wp L xs 81 304 [] [.long k3, .int 1, .int 0, .ref 7] (HH s mc D) (SV mc) := by
  refine wp4 rfl rfl (sf_42 hJ (0) (1) (k3) (by decide)) (fun rv h1 hq => ?_)
  obtain ⟨s8, D9, hJ10, rfl, x11, rfl, hb_x11⟩ := hq
  refine wp0 rfl rfl ?_
  refine wp2 rfl rfl ?_
  exact wpL rfl rfl (sb_81_373 hJ10 )
set_option maxRecDepth 20000 in
theorem sb_81_0 {s : cs} {mc : am_H} {D : List pgT} (hJ : J s mc D) (l1 : Int32)  : tb_wp L xs 81 0 [(0, .ref 18), (1, .int l1)] [] (HH s mc D) (SV mc) := by
  refine wp1 rfl rfl ?_
  refine wp2s [192, 199, 206, 213, 224, 235, 242, 273, 311, 322, 329, 364] rfl rfl rfl rfl (am_fa1 ?_ (am_fa1 ?_ (am_fa1 ?_ (am_fa1 ?_ (am_fa1 ?_ (am_fa1 ?_ (am_fa1 ?_ (am_fa1 ?_ (am_fa1 ?_ (am_fa1 ?_ (am_fa1 ?_ (am_fa1 ?_ (am_fa0)))))))))))))
  · refine wp1 rfl rfl ?_
    refine wp4 rfl rfl (sf_76 hJ ) (fun rv h1 hq => ?_)
    obtain ⟨s13, D14, hJ15, rfl, rfl⟩ := hq
    refine wp2 rfl rfl ?_
    exact wpL rfl rfl (sb_81_373 hJ15 )
  · refine wp1 rfl rfl ?_
    refine wp4 rfl rfl (sf_83 hJ ) (fun rv h1 hq => ?_)
    obtain ⟨s18, D19, hJ20, rfl, rfl⟩ := hq
    refine wp2 rfl rfl ?_
    exact wpL rfl rfl (sb_81_373 hJ20 )
  · refine wp1 rfl rfl ?_
    refine wp4 rfl rfl (sf_82 hJ ) (fun rv h1 hq => ?_)
    obtain ⟨s23, D24, hJ25, rfl, rfl⟩ := hq
    refine wp2 rfl rfl ?_
    exact wpL rfl rfl (sb_81_373 hJ25 )
  · refine wp1 rfl rfl ?_
    refine wp1 rfl rfl ?_
    refine wp4 rfl rfl (sf_84 hJ ) (fun rv h1 hq => ?_)
    obtain ⟨s28, D29, hJ30, rfl, x31, rfl⟩ := hq
    refine wp4 rfl rfl (sf_77 hJ30 (x31)) (fun rv h1 hq => ?_)
    obtain ⟨s33, D34, hJ35, rfl, rfl⟩ := hq
    refine wp2 rfl rfl ?_
    exact wpL rfl rfl (sb_81_373 hJ35 )
  · refine wp1 rfl rfl ?_
    refine wp1 rfl rfl ?_
    refine wp4 rfl rfl (sf_84 hJ ) (fun rv h1 hq => ?_)
    obtain ⟨s38, D39, hJ40, rfl, x41, rfl⟩ := hq
    refine wp4 rfl rfl (sf_74 hJ40 (x41)) (fun rv h1 hq => ?_)
    obtain ⟨s43, D44, hJ45, rfl, rfl⟩ := hq
    refine wp2 rfl rfl ?_
    exact wpL rfl rfl (sb_81_373 hJ45 )
  · refine wp1 rfl rfl ?_
    refine wp4 rfl rfl (sf_75 hJ ) (fun rv h1 hq => ?_)
    obtain ⟨s48, D49, hJ50, rfl, rfl⟩ := hq
    refine wp2 rfl rfl ?_
    exact wpL rfl rfl (sb_81_373 hJ50 )
  · refine wp1 rfl rfl ?_
    refine wp3 rfl (am_getf rfl rfl) ?_
    refine wp3 rfl (am_getf rfl rfl) ?_
    refine wp1 rfl rfl ?_
    refine wp3 rfl (am_getf rfl rfl) ?_
    refine wp3 rfl (am_getf rfl rfl) ?_
    refine wp4 rfl rfl (sf_46 hJ ((g_condition s))) (fun rv h1 hq => ?_)
    obtain ⟨s53, D54, hJ55, rfl, x56, rfl, hb_x56⟩ := hq
    refine wp2b rfl rfl (fun c57 => ?_) (fun c57 => ?_)
    · exact wpL rfl rfl (sb_81_373 hJ55 )
    · refine wp1 rfl rfl ?_
      refine wp1 rfl rfl ?_
      refine wp4 rfl rfl (sf_84 hJ55 ) (fun rv h1 hq => ?_)
      obtain ⟨s59, D60, hJ61, rfl, x62, rfl⟩ := hq
      refine wp4 rfl rfl (sf_77 hJ61 (x62)) (fun rv h1 hq => ?_)
      obtain ⟨s64, D65, hJ66, rfl, rfl⟩ := hq
      refine wp2 rfl rfl ?_
      exact wpL rfl rfl (sb_81_373 hJ66 )
  · refine wp1 rfl rfl ?_
    refine wp3 rfl (am_getf rfl rfl) ?_
    refine wp0 rfl rfl ?_
    refine wp0 rfl rfl ?_
    refine wp1 rfl rfl ?_
    refine wp3 rfl (am_getf rfl rfl) ?_
    refine wp3 rfl (am_getf rfl rfl) ?_
    refine wp1 rfl rfl ?_
    refine wp3 rfl (am_getf rfl rfl) ?_
    refine wp3 rfl (am_getf rfl rfl) ?_
    refine wp4 rfl rfl (sf_46 hJ ((g_condition s))) (fun rv h1 hq => ?_)
    obtain ⟨s69, D70, hJ71, rfl, x72, rfl, hb_x72⟩ := hq
    refine wp2b rfl rfl (fun c73 => ?_) (fun c73 => ?_)
    · refine wp0 rfl rfl ?_
      exact wpL rfl rfl (sb_81_304 hJ71 (0))
    · refine wp0 rfl rfl ?_
      refine wp2 rfl rfl ?_
      exact wpL rfl rfl (sb_81_304 hJ71 (1))
  · refine wp1 rfl rfl ?_
    refine wp1 rfl rfl ?_
    refine wp4 rfl rfl (sf_85 hJ ) (fun rv h1 hq => ?_)
    obtain ⟨s75, D76, hJ77, rfl, x78, rfl⟩ := hq
    refine wp4 rfl rfl (sf_79 hJ77 (x78)) (fun rv h1 hq => ?_)
    obtain ⟨s80, D81, hJ82, rfl, rfl⟩ := hq
    refine wp2 rfl rfl ?_
    exact wpL rfl rfl (sb_81_373 hJ82 )
  · refine wp1 rfl rfl ?_
    refine wp4 rfl rfl (sf_78 hJ ) (fun rv h1 hq => ?_)
    obtain ⟨s85, D86, hJ87, rfl, rfl⟩ := hq
    refine wp2 rfl rfl ?_
    exact wpL rfl rfl (sb_81_373 hJ87 )
  · refine wp1 rfl rfl ?_
    refine wp1 rfl rfl ?_
    refine wp0 rfl rfl ?_
    refine wp2b rfl rfl (fun c89 => ?_) (fun c89 => ?_)
    · exact wpL rfl rfl (sb_81_342 hJ (l1))
    · refine wp1 rfl rfl ?_
      refine wp0 rfl rfl ?_
      refine wp2b rfl rfl (fun c90 => ?_) (fun c90 => ?_)
      · exact wpL rfl rfl (sb_81_342 hJ (l1))
      · refine wp0 rfl rfl ?_
        exact wpL rfl rfl (sb_81_347 hJ (l1) (0) b0)
  · refine wp1 rfl rfl ?_
    refine wp1 rfl rfl ?_
    refine wp1 rfl rfl ?_
    refine wp4 rfl rfl (sf_86 hJ (l1)) (fun rv h1 hq => ?_)
    obtain ⟨s92, D93, hJ94, rfl, x95, rfl⟩ := hq
    refine wp4 rfl rfl (sf_79 hJ94 (x95)) (fun rv h1 hq => ?_)
    obtain ⟨s97, D98, hJ99, rfl, rfl⟩ := hq
    exact wpL rfl rfl (sb_81_373 hJ99 )
theorem sf_81 {s : cs} {mc : am_H} {D : List pgT} (hJ : J s mc D) (l1 : Int32)  : tb_wp L xs 81 0 (lv_args 0 [.ref 18, .int l1]) [] (HH s mc D) (SV mc) := sb_81_0 hJ l1
/- 25: FlagMachine$Bits.perform(I)V -/
set_option maxRecDepth 20000 in
theorem sb_25_69 {s : cs} {mc : am_H} {D : List pgT} (hJ : J s mc D)   : tb_wp L xs 25 69 [] [] (HH s mc D) (SV mc) := by
  exact wp5 rfl rfl ⟨_, _, hJ, rfl, rfl⟩
set_option maxRecDepth 20000 in
theorem sb_25_44 {s : cs} {mc : am_H} {D : List pgT} (hJ : J s mc D) (k1 : Int32) (hb_k1 : b01 k1) : tb_wp L xs 25 44 [] [.int k1, .ref 17] (HH s mc D) (SV mc) := by
  refine wp4 rfl rfl (sf_26 hJ (k1) hb_k1) (fun rv h1 hq => ?_)
  obtain ⟨s2, D3, hJ4, rfl, rfl⟩ := hq
  refine wp2 rfl rfl ?_
  exact wpL rfl rfl (sb_25_69 hJ4 )
set_option maxRecDepth 20000 in
theorem sb_25_0 {s : cs} {mc : am_H} {D : List pgT} (hJ : J s mc D) (l1 : Int32)  : tb_wp L xs 25 0 [(0, .ref 17), (1, .int l1)] [] (HH s mc D) (SV mc) := by
  refine wp1 rfl rfl ?_
  refine wp2s [32, 50, 57, 64] rfl rfl rfl rfl (am_fa1 ?_ (am_fa1 ?_ (am_fa1 ?_ (am_fa1 ?_ (am_fa0)))))
  · refine wp1 rfl rfl ?_
    refine wp1 rfl rfl ?_
    refine wp0 rfl rfl ?_
    refine wp2b rfl rfl (fun c6 => ?_) (fun c6 => ?_)
    · refine wp0 rfl rfl ?_
      refine wp2 rfl rfl ?_
      exact wpL rfl rfl (sb_25_44 hJ (1) b1)
    · refine wp0 rfl rfl ?_
      exact wpL rfl rfl (sb_25_44 hJ (0) b0)
  · refine wp1 rfl rfl ?_
    refine wp4 rfl rfl (sf_30 hJ ) (fun rv h1 hq => ?_)
    obtain ⟨s8, D9, hJ10, rfl, rfl⟩ := hq
    refine wp2 rfl rfl ?_
    exact wpL rfl rfl (sb_25_69 hJ10 )
  · refine wp1 rfl rfl ?_
    refine wp4 rfl rfl (sf_29 hJ ) (fun rv h1 hq => ?_)
    obtain ⟨s13, D14, hJ15, rfl, rfl⟩ := hq
    refine wp2 rfl rfl ?_
    exact wpL rfl rfl (sb_25_69 hJ15 )
  · refine wp1 rfl rfl ?_
    refine wp1 rfl rfl ?_
    refine wp4 rfl rfl (sf_27 hJ (l1)) (fun rv h1 hq => ?_)
    obtain ⟨s18, D19, hJ20, rfl, rfl⟩ := hq
    exact wpL rfl rfl (sb_25_69 hJ20 )
theorem sf_25 {s : cs} {mc : am_H} {D : List pgT} (hJ : J s mc D) (l1 : Int32)  : tb_wp L xs 25 0 (lv_args 0 [.ref 17, .int l1]) [] (HH s mc D) (SV mc) := sb_25_0 hJ l1
/- 18: FlagMachine.step(I)I -/
set_option maxRecDepth 20000 in
theorem sb_18_373 {s : cs} {mc : am_H} {D : List pgT} (hJ : J s mc D)   : tb_wp L xs 18 373 [(0, .ref 1)] [] (HH s mc D) (SI mc) := by
  refine wp1 rfl rfl ?_
  refine wp1 rfl rfl ?_
  refine wp3 rfl (am_getf rfl rfl) ?_
  refine wp3 rfl (am_getf rfl rfl) ?_
  refine wp4 rfl rfl (sf_5 hJ ((g_stop s))) (fun rv h1 hq => ?_)
  obtain ⟨s2, D3, hJ4, rfl, x5, rfl⟩ := hq
  exact wp5i rfl rfl ⟨_, _, hJ4, rfl, _, rfl⟩
set_option maxRecDepth 20000 in
theorem sb_18_28 {s : cs} {mc : am_H} {D : List pgT} (hJ : J s mc D)   : tb_wp L xs 18 28 [] [] (HH s mc D) (SI mc) := by
  refine wp0 rfl rfl ?_
  exact wp5i rfl rfl ⟨_, _, hJ, rfl, _, rfl⟩
set_option maxRecDepth 20000 in
theorem sb_18_0 {s : cs} {mc : am_H} {D : List pgT} (hJ : J s mc D) (l1 : Int32)  : tb_wp L xs 18 0 [(0, .ref 1), (1, .int l1)] [] (HH s mc D) (SI mc) := by
  refine wp1 rfl rfl ?_
  refine wp3 rfl (am_getf rfl rfl) ?_
  refine wp2b rfl rfl (fun c6 => ?_) (fun c6 => ?_)
  · refine wp1 rfl rfl ?_
    refine wp0 rfl rfl ?_
    refine wp2b rfl rfl (fun c7 => ?_) (fun c7 => ?_)
    · exact wpL rfl rfl (sb_18_28 hJ )
    · refine wp1 rfl rfl ?_
      refine wp0 rfl rfl ?_
      refine wp2b rfl rfl (fun c8 => ?_) (fun c8 => ?_)
      · exact wpL rfl rfl (sb_18_28 hJ )
      · refine wp1 rfl rfl ?_
        refine wp3 rfl (am_getf rfl rfl) ?_
        refine wp4 rfl rfl (sf_57 hJ ) (fun rv h1 hq => ?_)
        obtain ⟨s10, D11, hJ12, rfl, x13, rfl, hb_x13⟩ := hq
        refine wp2b rfl rfl (fun c14 => ?_) (fun c14 => ?_)
        · exact wpL rfl rfl (sb_18_28 hJ12 )
        · refine wp1 rfl rfl ?_
          refine wp3 rfl (am_getf rfl rfl) ?_
          refine wp1 rfl rfl ?_
          refine wp4 rfl rfl (sf_36 hJ12 (l1)) (fun rv h1 hq => ?_)
          obtain ⟨s16, D17, hJ18, rfl, rfl⟩ := hq
          refine wp1 rfl rfl ?_
          refine wp3 rfl (am_getf rfl rfl) ?_
          refine wp3 rfl (am_getf rfl rfl) ?_
          refine wp2s [260, 277, 287, 304, 321, 324, 337, 349, 359] rfl rfl rfl rfl (am_fa1 ?_ (am_fa1 ?_ (am_fa1 ?_ (am_fa1 ?_ (am_fa1 ?_ (am_fa1 ?_ (am_fa1 ?_ (am_fa1 ?_ (am_fa1 ?_ (am_fa0))))))))))
          · refine wp1 rfl rfl ?_
            refine wp3 rfl (am_getf rfl rfl) ?_
            refine wp1 rfl rfl ?_
            refine wp3 rfl (am_getf rfl rfl) ?_
            refine wp3 rfl (am_getf rfl rfl) ?_
            refine wp4 rfl rfl (sf_122 hJ18 ((g_op s16))) (fun rv h1 hq => ?_)
            obtain ⟨s21, D22, hJ23, rfl, rfl⟩ := hq
            refine wp2 rfl rfl ?_
            exact wpL rfl rfl (sb_18_373 hJ23 )
          · refine wp1 rfl rfl ?_
            refine wp3 rfl (am_getf rfl rfl) ?_
            refine wp4 rfl rfl (sf_121 hJ18 ) (fun rv h1 hq => ?_)
            obtain ⟨s26, D27, hJ28, rfl, rfl⟩ := hq
            refine wp2 rfl rfl ?_
            exact wpL rfl rfl (sb_18_373 hJ28 )
          · refine wp1 rfl rfl ?_
            refine wp3 rfl (am_getf rfl rfl) ?_
            refine wp1 rfl rfl ?_
            refine wp3 rfl (am_getf rfl rfl) ?_
            refine wp3 rfl (am_getf rfl rfl) ?_
            refine wp4 rfl rfl (sf_96 hJ18 ((g_op s16))) (fun rv h1 hq => ?_)
            obtain ⟨s31, D32, hJ33, rfl, rfl⟩ := hq
            refine wp2 rfl rfl ?_
            exact wpL rfl rfl (sb_18_373 hJ33 )
          · refine wp1 rfl rfl ?_
            refine wp3 rfl (am_getf rfl rfl) ?_
            refine wp1 rfl rfl ?_
            refine wp3 rfl (am_getf rfl rfl) ?_
            refine wp3 rfl (am_getf rfl rfl) ?_
            refine wp4 rfl rfl (sf_25 hJ18 ((g_op s16))) (fun rv h1 hq => ?_)
            obtain ⟨s36, D37, hJ38, rfl, rfl⟩ := hq
            refine wp2 rfl rfl ?_
            exact wpL rfl rfl (sb_18_373 hJ38 )
          · refine wp2 rfl rfl ?_
            exact wpL rfl rfl (sb_18_373 hJ18 )
          · refine wp1 rfl rfl ?_
            refine wp3 rfl (am_getf rfl rfl) ?_
            refine wp0 rfl rfl ?_
            refine wp0 rfl rfl ?_
            refine wp4 rfl rfl (sf_41 hJ18 (6) (0)) (fun rv h1 hq => ?_)
            obtain ⟨s41, D42, hJ43, rfl, rfl⟩ := hq
            refine wp2 rfl rfl ?_
            exact wpL rfl rfl (sb_18_373 hJ43 )
          · refine wp1 rfl rfl ?_
            refine wp3 rfl (am_getf rfl rfl) ?_
            refine wp0 rfl rfl ?_
            refine wp0 rfl rfl ?_
            refine wp4 rfl rfl (sf_41 hJ18 (2) (0)) (fun rv h1 hq => ?_)
            obtain ⟨s46, D47, hJ48, rfl, rfl⟩ := hq
            refine wp2 rfl rfl ?_
            exact wpL rfl rfl (sb_18_373 hJ48 )
          · refine wp1 rfl rfl ?_
            refine wp3 rfl (am_getf rfl rfl) ?_
            refine wp4 rfl rfl (sf_103 hJ18 ) (fun rv h1 hq => ?_)
            obtain ⟨s51, D52, hJ53, rfl, rfl⟩ := hq
            refine wp2 rfl rfl ?_
            exact wpL rfl rfl (sb_18_373 hJ53 )
          · refine wp1 rfl rfl ?_
            refine wp3 rfl (am_getf rfl rfl) ?_
            refine wp1 rfl rfl ?_
            refine wp3 rfl (am_getf rfl rfl) ?_
            refine wp3 rfl (am_getf rfl rfl) ?_
            refine wp4 rfl rfl (sf_81 hJ18 ((g_op s16))) (fun rv h1 hq => ?_)
            obtain ⟨s56, D57, hJ58, rfl, rfl⟩ := hq
            exact wpL rfl rfl (sb_18_373 hJ58 )
  · exact wpL rfl rfl (sb_18_28 hJ )
theorem sf_18 {s : cs} {mc : am_H} {D : List pgT} (hJ : J s mc D) (l1 : Int32)  : tb_wp L xs 18 0 (lv_args 0 [.ref 1, .int l1]) [] (HH s mc D) (SI mc) := sb_18_0 hJ l1
end SG

/-! input of the class, exactly, with what waits bounded -/
section CINPUT
variable {L : Nat} {xs : Nat → Int32}
set_option maxRecDepth 20000 in
theorem sq_100_29 {C : Int} (hC : C ≤ 65536) (n : Nat) : ∀ {B : Int} {s : cs} {mc : am_H} {D : List pgT} (hJ : J (0, B) s mc D) (l1 : Int64) (l4 : Int32) (h4 : l4.toInt < 8) (h5 : -1 ≤ l4.toInt) (h6 : B + (l4.toInt + 1) ≤ C) (hm : ((l4 : Int32).toInt + 1).toNat < n), tb_wp L xs 100 29 [(0, .ref 19), (1, .long l1), (4, .int l4)] [] (HH s mc D) (SX (0, C) mc 1) := by
  induction n with
  | zero => intro B s mc D hJ l1 l4 h4 h5 h6 hm; exact absurd hm (Nat.not_lt_zero _)
  | succ n ih =>
    intro B s mc D hJ l1 l4 h4 h5 h6 hm
    refine wp1 rfl rfl ?_
    refine wp2b rfl rfl (fun c1 => ?_) (fun c1 => ?_)
    · refine wp0 rfl rfl ?_
      exact wp5z rfl rfl b1 ⟨_, _, J_weak hJ (Int.le_refl _) (show B ≤ C by omega), rfl, rfl⟩
    · refine wp1 rfl rfl ?_
      refine wp3 rfl (am_getf rfl rfl) ?_
      refine wp1 rfl rfl ?_
      refine wp3 rfl (am_getf rfl rfl) ?_
      refine wp1 rfl rfl ?_
      refine wp3 rfl (am_getf rfl rfl) ?_
      refine wp0 rfl rfl ?_
      refine wp0 rfl rfl ?_
      refine wp0 rfl rfl ?_
      refine wp1 rfl rfl ?_
      refine wp0 rfl rfl ?_
      refine wp1 rfl rfl ?_
      refine wp0 rfl rfl ?_
      refine wp0 rfl rfl ?_
      refine wp0 rfl rfl ?_
      refine wp0 rfl rfl ?_
      refine wp0 rfl rfl ?_
      refine wp4 rfl rfl (sf_116_2 hJ ((((g_first s) + (g_waiting s)) - ((g_first s) + (g_waiting s)) / 65536 * 65536)) (((Int64.toInt32 ((Int64.toUInt64 l1 >>> ((Int32.toInt64 (8 * l4)).toUInt64 &&& Int64.toUInt64 63)).toInt64)) &&& 255))) (fun rv h1 hq => ?_)
      obtain ⟨s3, D4, hJ5, rfl, rfl⟩ := hq
      refine wp1 rfl rfl ?_
      refine wp0 rfl rfl ?_
      refine wp3 rfl (am_getf rfl rfl) ?_
      refine wp0 rfl rfl ?_
      refine wp0 rfl rfl ?_
      refine wp3 rfl (am_putf rfl (Nat.le_of_ble_eq_true rfl) rfl rfl) ?_
      have g0 : ¬ l4.toInt < 0 := fun z => c1 (Int32.lt_iff_toInt_lt.mpr z)
      have hb1 : 0 ≤ (g_waiting s3).toInt := (J_bd hJ5).1
      have hb2 : (g_waiting s3).toInt ≤ B := (J_bd hJ5).2
      have e1 : ((g_waiting s3) + 1).toInt = (g_waiting s3).toInt + 1 := i32_addI (b := 1) (by show -2147483648 ≤ (g_waiting s3).toInt + 1; omega) (by show (g_waiting s3).toInt + 1 < 2147483648; omega)
      have e2 : (l4 + (-1)).toInt = l4.toInt - 1 := i32_addI (b := -1) (by show -2147483648 ≤ l4.toInt + -1; omega) (by show l4.toInt + -1 < 2147483648; omega)
      have hJ7 : J (0, B + 1) (s_waiting s3 ((g_waiting s3) + 1)) mc D4 := J_wait hJ5 ⟨show 0 ≤ ((g_waiting s3) + 1).toInt by omega, show ((g_waiting s3) + 1).toInt ≤ B + 1 by omega⟩
      refine wpH (h' := HH (s_waiting s3 ((g_waiting s3) + 1)) mc D4) rfl ?_
      refine wp1 rfl rfl ?_
      refine wpV (lv' := [(0, .ref 19), (1, .long l1), (4, .int (l4 + (-1)))]) rfl ?_
      refine wp2 rfl rfl ?_
      exact wpL rfl rfl (ih hJ7 (l1) ((l4 + (-1))) (by omega) (by omega) (by omega) (i32_down c1 hm))
theorem inF_b (n : Int32) : b01 (inF n) := by
  unfold inF
  split
  · exact b0
  · split
    · exact b0
    · exact b1
set_option maxRecDepth 20000 in
theorem x1_append {B : Int} {s : cs} {mc : am_H} {D : List pgT} (hJ : J (0, B) s mc D) (hB : B + 8 ≤ 65536) (a : Int64) (n : Int32) : tb_wp L xs 100 0 (lv_args 0 [.ref 19, .long a, .int n]) [] (HH s mc D) (SX (0, B + 8) mc (inF n)) := by
  refine wp1 rfl rfl ?_
  refine wp0 rfl rfl ?_
  refine wp2b rfl rfl (fun c1 => ?_) (fun c1 => ?_)
  · refine wp0 rfl rfl ?_
    exact wp5z rfl rfl b0 ⟨_, _, J_weak hJ (Int.le_refl _) (show B ≤ B + 8 by omega), rfl, by simp only [inF, if_pos c1]⟩
  · refine wp1 rfl rfl ?_
    refine wp0 rfl rfl ?_
    refine wp2b rfl rfl (fun c2 => ?_) (fun c2 => ?_)
    · refine wp0 rfl rfl ?_
      exact wp5z rfl rfl b0 ⟨_, _, J_weak hJ (Int.le_refl _) (show B ≤ B + 8 by omega), rfl, by simp only [inF, if_neg c1, if_pos c2]⟩
    · have g1 : ¬ n.toInt < 1 := fun z => c1 (Int32.lt_iff_toInt_lt.mpr z)
      have g2 : ¬ 8 < n.toInt := fun z => c2 (Int32.lt_iff_toInt_lt.mpr z)
      refine wp1 rfl rfl ?_
      refine wp3 rfl (am_getf rfl rfl) ?_
      refine wp1 rfl rfl ?_
      refine wp0 rfl rfl ?_
      refine wp0 rfl rfl ?_
      have hb1 : 0 ≤ (g_waiting s).toInt := (J_bd hJ).1
      have hb2 : (g_waiting s).toInt ≤ B := (J_bd hJ).2
      have g3 : g_waiting s + n ≤ 65536 := by
        have e0 : (g_waiting s + n).toInt = (g_waiting s).toInt + n.toInt := i32_addI (by omega) (by omega)
        have e6 : (65536 : Int32).toInt = 65536 := rfl
        rw [Int32.le_iff_toInt_le]
        omega
      have e9 : (n - 1).toInt = n.toInt - 1 := i32_subI (b := 1) (by show -2147483648 ≤ n.toInt - 1; omega) (by show n.toInt - 1 < 2147483648; omega)
      refine wp2b rfl rfl (fun c3 => ?_) (fun c3 => absurd g3 c3)
      refine wp1 rfl rfl ?_
      refine wp0 rfl rfl ?_
      refine wp0 rfl rfl ?_
      refine wp1 rfl rfl ?_
      refine wpV (lv' := [(0, .ref 19), (1, .long a), (3, .int n), (4, .int (n - 1))]) rfl ?_
      rw [show inF n = 1 from by simp only [inF, if_neg c1, if_neg c2]]
      exact wpL rfl rfl (sq_100_29 (by omega) _ hJ a (n - 1) (by omega) (by omega) (by omega) (Nat.lt_succ_self _))
set_option maxRecDepth 20000 in
theorem x1_input {B : Int} {s : cs} {mc : am_H} {D : List pgT} (hJ : J (0, B) s mc D) (hB : B + 8 ≤ 65536) (a : Int64) (n : Int32) : tb_wp L xs 6 0 (lv_args 0 [.ref 1, .long a, .int n]) [] (HH s mc D) (SX (0, B + 8) mc (inF n)) := by
  refine wp1 rfl rfl ?_
  refine wp3 rfl (am_getf rfl rfl) ?_
  refine wp1 rfl rfl ?_
  refine wp1 rfl rfl ?_
  refine wp4 rfl rfl (x1_append hJ hB a n) (fun rv h1 hq => ?_)
  obtain ⟨s1, D1, hJ1, rfl, rfl⟩ := hq
  exact wp5z rfl rfl (inF_b n) ⟨_, _, hJ1, rfl, rfl⟩
end CINPUT

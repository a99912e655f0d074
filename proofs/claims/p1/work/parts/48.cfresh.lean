/-! the class on a new object: the answers of each call, exactly -/
def SXl (mc : am_H) (x : Int64) (v : Option Value) (h : am_H) : Prop := ∃ (s : cs) (D : List pgT), J s mc D ∧ h = HH s mc D ∧ v = some (.long x)
def rgC (k : Int32) : Int64 := if k < 0 then rgT k else if 15 < k then rgT k else R0 k.toNatClampNeg
theorem rgC_eq (k : Int32) : rgC k = rgF k := by
  have e : (15 : Int32) < k ↔ (16 : Int32) ≤ k := by
    rw [Int32.lt_iff_toInt_lt, Int32.le_iff_toInt_le]
    have e1 : (15 : Int32).toInt = 15 := rfl
    have e2 : (16 : Int32).toInt = 16 := rfl
    omega
  simp only [rgC, rgF, e]
theorem r15 {k : Int32} (c1 : ¬ k < 0) (c2 : ¬ (15 : Int32) < k) : am_in k 16 = true := by
  have g1 : ¬ k.toInt < 0 := fun z => c1 (Int32.lt_iff_toInt_lt.mpr z)
  have g2 : ¬ (15 : Int32).toInt < k.toInt := fun z => c2 (Int32.lt_iff_toInt_lt.mpr z)
  have e1 : (15 : Int32).toInt = 15 := rfl
  exact am_in_of (by omega) (by omega)
theorem regs_new : ∀ n, n < 16 → g_regs s_new n = R0 n
  | 0, _ => rfl
  | 1, _ => rfl
  | 2, _ => rfl
  | 3, _ => rfl
  | 4, _ => rfl
  | 5, _ => rfl
  | 6, _ => rfl
  | 7, _ => rfl
  | 8, _ => rfl
  | 9, _ => rfl
  | 10, _ => rfl
  | 11, _ => rfl
  | 12, _ => rfl
  | 13, _ => rfl
  | 14, _ => rfl
  | 15, _ => rfl
  | n + 16, h => absurd h (by omega)
theorem pf_sub {p : Int32} (h1 : 327936 ≤ p.toInt) (h2 : p.toInt < 393472) : (393472 - p).toInt = 393472 - p.toInt := i32_subI (a := 393472) (by show -2147483648 ≤ 393472 - p.toInt; omega) (by show 393472 - p.toInt < 2147483648; omega)
section XCLS
variable {L : Nat} {xs : Nat → Int32}
set_option maxRecDepth 20000 in
theorem x1_value (m : ms) : tb_wp L xs 20 0 (lv_args 0 [.ref 1]) [] (HH s_new (MC m) []) (SXl (MC m) 0) := by
  refine wp1 rfl rfl ?_
  refine wp3 rfl (am_getf rfl rfl) ?_
  refine wp3 rfl (am_getf rfl rfl) ?_
  refine wpS (st' := [.long 0]) rfl ?_
  exact wp5 rfl rfl ⟨s_new, [], (J_new m), rfl, rfl⟩
/- FlagMachine$Instruction.sizeFits -/
set_option maxRecDepth 20000 in
theorem xe_c9 (m : ms) (l1 : Int32) : tb_ev L xs 63 [.ref 2] (HH s_new (MC m) []) (some (.int 1)) (HH s_new (MC m) []) := by
  refine am_wp_ev ?_
  refine wp1 rfl rfl ?_
  refine wp3 rfl (am_getf rfl rfl) ?_
  refine wpS (st' := [.int 39]) rfl ?_
  refine wp2 (pc' := 206) rfl rfl ?_
  refine wp1 rfl rfl ?_
  refine wp3 rfl (am_getf rfl rfl) ?_
  refine wpS (st' := [.int 0]) rfl ?_
  refine wp2 (pc' := 213) rfl rfl ?_
  refine wp0 rfl rfl ?_
  refine wp2 rfl rfl ?_
  exact wp5z rfl rfl b1 ⟨rfl, rfl⟩
/- FlagMachine$Instruction.conditionFits -/
set_option maxRecDepth 20000 in
theorem xe_c10 (m : ms) (l1 : Int32) : tb_ev L xs 54 [.ref 2] (HH s_new (MC m) []) (some (.int 1)) (HH s_new (MC m) []) := by
  refine am_wp_ev ?_
  refine wp1 rfl rfl ?_
  refine wp3 rfl (am_getf rfl rfl) ?_
  refine wpS (st' := [.int 39]) rfl ?_
  refine wp0 rfl rfl ?_
  refine wp2 (pc' := 9) rfl rfl ?_
  refine wp1 rfl rfl ?_
  refine wp3 rfl (am_getf rfl rfl) ?_
  refine wpS (st' := [.int 39]) rfl ?_
  refine wp0 rfl rfl ?_
  refine wp2 (pc' := 22) rfl rfl ?_
  refine wp0 rfl rfl ?_
  refine wp1 rfl rfl ?_
  refine wpV (lv' := [(0, .ref 2), (1, .int 0)]) rfl ?_
  refine wp1 rfl rfl ?_
  refine wp3 rfl (am_getf rfl rfl) ?_
  refine wpS (st' := [.int 0]) rfl ?_
  refine wp2 (pc' := 31) rfl rfl ?_
  refine wp1 rfl rfl ?_
  refine wp3 rfl (am_getf rfl rfl) ?_
  refine wpS (st' := [.int 0]) rfl ?_
  refine wp1 rfl rfl ?_
  refine wp2 (pc' := 44) rfl rfl ?_
  refine wp0 rfl rfl ?_
  refine wp2 (pc' := 48) rfl rfl ?_
  refine wp0 rfl rfl ?_
  refine wp2 rfl rfl ?_
  exact wp5z rfl rfl b1 ⟨rfl, rfl⟩
/- FlagMachine$Instruction.thirdFits -/
set_option maxRecDepth 20000 in
theorem xe_c11 (m : ms) (l1 : Int32) : tb_ev L xs 64 [.ref 2] (HH s_new (MC m) []) (some (.int 1)) (HH s_new (MC m) []) := by
  refine am_wp_ev ?_
  refine wp1 rfl rfl ?_
  refine wp3 rfl (am_getf rfl rfl) ?_
  refine wp0 rfl rfl ?_
  refine wp3 rfl (am_iald rfl (by decide)) ?_
  refine wpS (st' := [.int 0]) rfl ?_
  refine wp2 (pc' := 28) rfl rfl ?_
  refine wp0 rfl rfl ?_
  refine wp2 rfl rfl ?_
  exact wp5z rfl rfl b1 ⟨rfl, rfl⟩
/- FlagMachine$Instruction.onlyOperandFits -/
set_option maxRecDepth 20000 in
theorem xe_c12 (m : ms) (l1 : Int32) : tb_ev L xs 60 [.ref 2, .int 0] (HH s_new (MC m) []) (some (.int 1)) (HH s_new (MC m) []) := by
  refine am_wp_ev ?_
  refine wp1 rfl rfl ?_
  refine wp3 rfl (am_getf rfl rfl) ?_
  refine wpS (st' := [.int 39]) rfl ?_
  refine wp2 (pc' := 200) rfl rfl ?_
  refine wp1 rfl rfl ?_
  refine wp2 (pc' := 204) rfl rfl ?_
  refine wp0 rfl rfl ?_
  refine wp2 rfl rfl ?_
  exact wp5z rfl rfl b1 ⟨rfl, rfl⟩
/- FlagMachine$Instruction.operandsFit -/
set_option maxRecDepth 20000 in
theorem xe_c13 (m : ms) (l1 : Int32) : tb_ev L xs 61 [.ref 2] (HH s_new (MC m) []) (some (.int 1)) (HH s_new (MC m) []) := by
  refine am_wp_ev ?_
  refine wp1 rfl rfl ?_
  refine wp3 rfl (am_getf rfl rfl) ?_
  refine wp0 rfl rfl ?_
  refine wp3 rfl (am_iald rfl (by decide)) ?_
  refine wpS (st' := [.int 0]) rfl ?_
  refine wp1 rfl rfl ?_
  refine wpV (lv' := [(0, .ref 2), (1, .int 0)]) rfl ?_
  refine wp1 rfl rfl ?_
  refine wp3 rfl (am_getf rfl rfl) ?_
  refine wp0 rfl rfl ?_
  refine wp3 rfl (am_iald rfl (by decide)) ?_
  refine wpS (st' := [.int 0]) rfl ?_
  refine wp1 rfl rfl ?_
  refine wpV (lv' := [(0, .ref 2), (1, .int 0), (2, .int 0)]) rfl ?_
  refine wp1 rfl rfl ?_
  refine wp3 rfl (am_getf rfl rfl) ?_
  refine wpS (st' := [.int 39]) rfl ?_
  refine wp2 (pc' := 373) rfl rfl ?_
  refine wp1 rfl rfl ?_
  refine wp2 (pc' := 377) rfl rfl ?_
  refine wp1 rfl rfl ?_
  refine wp1 rfl rfl ?_
  refine am_ev_at rfl rfl (xe_c12 m l1) ?_
  refine wp2 (pc' := 385) rfl rfl ?_
  refine wp0 rfl rfl ?_
  refine wp2 rfl rfl ?_
  exact wp5z rfl rfl b1 ⟨rfl, rfl⟩
/- FlagMachine$Instruction.has -/
set_option maxRecDepth 20000 in
theorem xe_c14 (m : ms) (l1 : Int32) : tb_ev L xs 55 [.ref 2, .int 2] (HH s_new (MC m) []) (some (.int 0)) (HH s_new (MC m) []) := by
  refine am_wp_ev ?_
  refine wp1 rfl rfl ?_
  refine wp3 rfl (am_getf rfl rfl) ?_
  refine wp0 rfl rfl ?_
  refine wp3 rfl (am_iald rfl (by decide)) ?_
  refine wpS (st' := [.int 0]) rfl ?_
  refine wp1 rfl rfl ?_
  refine wp2 (pc' := 10) rfl rfl ?_
  refine wp1 rfl rfl ?_
  refine wp3 rfl (am_getf rfl rfl) ?_
  refine wp0 rfl rfl ?_
  refine wp3 rfl (am_iald rfl (by decide)) ?_
  refine wpS (st' := [.int 0]) rfl ?_
  refine wp1 rfl rfl ?_
  refine wp2 (pc' := 20) rfl rfl ?_
  refine wp1 rfl rfl ?_
  refine wp3 rfl (am_getf rfl rfl) ?_
  refine wp0 rfl rfl ?_
  refine wp3 rfl (am_iald rfl (by decide)) ?_
  refine wpS (st' := [.int 0]) rfl ?_
  refine wp1 rfl rfl ?_
  refine wp2 (pc' := 34) rfl rfl ?_
  refine wp0 rfl rfl ?_
  exact wp5z rfl rfl b0 ⟨rfl, rfl⟩
/- FlagMachine$Instruction.has -/
set_option maxRecDepth 20000 in
theorem xe_c15 (m : ms) (l1 : Int32) : tb_ev L xs 55 [.ref 2, .int 3] (HH s_new (MC m) []) (some (.int 0)) (HH s_new (MC m) []) := by
  refine am_wp_ev ?_
  refine wp1 rfl rfl ?_
  refine wp3 rfl (am_getf rfl rfl) ?_
  refine wp0 rfl rfl ?_
  refine wp3 rfl (am_iald rfl (by decide)) ?_
  refine wpS (st' := [.int 0]) rfl ?_
  refine wp1 rfl rfl ?_
  refine wp2 (pc' := 10) rfl rfl ?_
  refine wp1 rfl rfl ?_
  refine wp3 rfl (am_getf rfl rfl) ?_
  refine wp0 rfl rfl ?_
  refine wp3 rfl (am_iald rfl (by decide)) ?_
  refine wpS (st' := [.int 0]) rfl ?_
  refine wp1 rfl rfl ?_
  refine wp2 (pc' := 20) rfl rfl ?_
  refine wp1 rfl rfl ?_
  refine wp3 rfl (am_getf rfl rfl) ?_
  refine wp0 rfl rfl ?_
  refine wp3 rfl (am_iald rfl (by decide)) ?_
  refine wpS (st' := [.int 0]) rfl ?_
  refine wp1 rfl rfl ?_
  refine wp2 (pc' := 34) rfl rfl ?_
  refine wp0 rfl rfl ?_
  exact wp5z rfl rfl b0 ⟨rfl, rfl⟩
/- FlagMachine$Instruction.isSound -/
set_option maxRecDepth 20000 in
theorem xe_c16 (m : ms) (l1 : Int32) : tb_ev L xs 57 [.ref 2] (HH s_new (MC m) []) (some (.int 1)) (HH s_new (MC m) []) := by
  refine am_wp_ev ?_
  refine wp1 rfl rfl ?_
  refine wp3 rfl (am_getf rfl rfl) ?_
  refine wpS (st' := [.int 39]) rfl ?_
  refine wp2 (pc' := 7) rfl rfl ?_
  refine wp1 rfl rfl ?_
  refine wp3 rfl (am_getf rfl rfl) ?_
  refine wpS (st' := [.int 39]) rfl ?_
  refine wp0 rfl rfl ?_
  refine wp2 (pc' := 16) rfl rfl ?_
  refine wp1 rfl rfl ?_
  refine am_ev_at rfl rfl (xe_c9 m l1) ?_
  refine wp2 (pc' := 23) rfl rfl ?_
  refine wp1 rfl rfl ?_
  refine am_ev_at rfl rfl (xe_c10 m l1) ?_
  refine wp2 (pc' := 30) rfl rfl ?_
  refine wp1 rfl rfl ?_
  refine am_ev_at rfl rfl (xe_c11 m l1) ?_
  refine wp2 (pc' := 37) rfl rfl ?_
  refine wp1 rfl rfl ?_
  refine am_ev_at rfl rfl (xe_c13 m l1) ?_
  refine wp2 (pc' := 44) rfl rfl ?_
  refine wp1 rfl rfl ?_
  refine wp0 rfl rfl ?_
  refine am_ev_at rfl rfl (xe_c14 m l1) ?_
  refine wp2 (pc' := 59) rfl rfl ?_
  refine wp1 rfl rfl ?_
  refine wp0 rfl rfl ?_
  refine am_ev_at rfl rfl (xe_c15 m l1) ?_
  refine wp2 (pc' := 74) rfl rfl ?_
  refine wp0 rfl rfl ?_
  refine wp2 rfl rfl ?_
  exact wp5z rfl rfl b1 ⟨rfl, rfl⟩
/- FlagMachine$Instruction.has -/
set_option maxRecDepth 20000 in
theorem xe_c17 (m : ms) (l1 : Int32) : tb_ev L xs 55 [.ref 2, .int 2] (HH (s_next (s_stopv (s_stop s_new 0) 0) (4194304 + (Int32.toInt64 l1))) (MC m) []) (some (.int 0)) (HH (s_next (s_stopv (s_stop s_new 0) 0) (4194304 + (Int32.toInt64 l1))) (MC m) []) := by
  refine am_wp_ev ?_
  refine wp1 rfl rfl ?_
  refine wp3 rfl (am_getf rfl rfl) ?_
  refine wp0 rfl rfl ?_
  refine wp3 rfl (am_iald rfl (by decide)) ?_
  refine wpS (st' := [.int 0]) rfl ?_
  refine wp1 rfl rfl ?_
  refine wp2 (pc' := 10) rfl rfl ?_
  refine wp1 rfl rfl ?_
  refine wp3 rfl (am_getf rfl rfl) ?_
  refine wp0 rfl rfl ?_
  refine wp3 rfl (am_iald rfl (by decide)) ?_
  refine wpS (st' := [.int 0]) rfl ?_
  refine wp1 rfl rfl ?_
  refine wp2 (pc' := 20) rfl rfl ?_
  refine wp1 rfl rfl ?_
  refine wp3 rfl (am_getf rfl rfl) ?_
  refine wp0 rfl rfl ?_
  refine wp3 rfl (am_iald rfl (by decide)) ?_
  refine wpS (st' := [.int 0]) rfl ?_
  refine wp1 rfl rfl ?_
  refine wp2 (pc' := 34) rfl rfl ?_
  refine wp0 rfl rfl ?_
  exact wp5z rfl rfl b0 ⟨rfl, rfl⟩
/- FlagMachine$Core.prepare -/
set_option maxRecDepth 20000 in
theorem xe_c18 (m : ms) (l1 : Int32) : tb_ev L xs 36 [.ref 7, .int l1] (HH s_new (MC m) []) (none) (HH (s_address (s_next (s_stopv (s_stop s_new 0) 0) (4194304 + (Int32.toInt64 l1))) 0) (MC m) []) := by
  refine am_wp_ev ?_
  refine wp1 rfl rfl ?_
  refine wp0 rfl rfl ?_
  refine wp3 rfl (am_putf rfl (Nat.le_of_ble_eq_true rfl) rfl rfl) ?_
  refine wpH (h' := HH (s_stop s_new 0) (MC m) []) rfl ?_
  refine wp1 rfl rfl ?_
  refine wp0 rfl rfl ?_
  refine wp3 rfl (am_putf rfl (Nat.le_of_ble_eq_true rfl) rfl rfl) ?_
  refine wpH (h' := HH (s_stopv (s_stop s_new 0) 0) (MC m) []) rfl ?_
  refine wp1 rfl rfl ?_
  refine wp1 rfl rfl ?_
  refine wp3 rfl (am_getf rfl rfl) ?_
  refine wpS (st' := [.long 4194304, .ref 7]) rfl ?_
  refine wp1 rfl rfl ?_
  refine wp0 rfl rfl ?_
  refine wp0 rfl rfl ?_
  refine wp3 rfl (am_putf rfl (Nat.le_of_ble_eq_true rfl) rfl rfl) ?_
  refine wpH (h' := HH (s_next (s_stopv (s_stop s_new 0) 0) (4194304 + (Int32.toInt64 l1))) (MC m) []) rfl ?_
  refine wp1 rfl rfl ?_
  refine wp1 rfl rfl ?_
  refine wp3 rfl (am_getf rfl rfl) ?_
  refine wp0 rfl rfl ?_
  refine am_ev_at rfl rfl (xe_c17 m l1) ?_
  refine wp2 (pc' := 40) rfl rfl ?_
  refine wp0 rfl rfl ?_
  refine wp3 rfl (am_putf rfl (Nat.le_of_ble_eq_true rfl) rfl rfl) ?_
  refine wpH (h' := HH (s_address (s_next (s_stopv (s_stop s_new 0) 0) (4194304 + (Int32.toInt64 l1))) 0) (MC m) []) rfl ?_
  exact wp5 rfl rfl ⟨rfl, rfl⟩
/- FlagMachine.finish -/
set_option maxRecDepth 20000 in
theorem xe_c19 (m : ms) (l1 : Int32) : tb_ev L xs 5 [.ref 1, .int 0] (HH (s_address (s_next (s_stopv (s_stop s_new 0) 0) (4194304 + (Int32.toInt64 l1))) 0) (MC m) []) (some (.int 0)) (HH (s_ended (s_steps (s_ip (s_address (s_next (s_stopv (s_stop s_new 0) 0) (4194304 + (Int32.toInt64 l1))) 0) (4194304 + (Int32.toInt64 l1))) 1) 0) (MC m) []) := by
  refine am_wp_ev ?_
  refine wp1 rfl rfl ?_
  refine wp2 (pc' := 15) rfl rfl ?_
  refine wp1 rfl rfl ?_
  refine wp3 rfl (am_getf rfl rfl) ?_
  refine wp1 rfl rfl ?_
  refine wp3 rfl (am_getf rfl rfl) ?_
  refine wp3 rfl (am_getf rfl rfl) ?_
  refine wpS (st' := [.long (4194304 + (Int32.toInt64 l1)), .ref 7]) rfl ?_
  refine wp3 rfl (am_putf rfl (Nat.le_of_ble_eq_true rfl) rfl rfl) ?_
  refine wpH (h' := HH (s_ip (s_address (s_next (s_stopv (s_stop s_new 0) 0) (4194304 + (Int32.toInt64 l1))) 0) (4194304 + (Int32.toInt64 l1))) (MC m) []) rfl ?_
  refine wp1 rfl rfl ?_
  refine wp0 rfl rfl ?_
  refine wp3 rfl (am_getf rfl rfl) ?_
  refine wpS (st' := [.long 0, .ref 1]) rfl ?_
  refine wp0 rfl rfl ?_
  refine wp0 rfl rfl ?_
  refine wpS (st' := [.long 1, .ref 1]) rfl ?_
  refine wp3 rfl (am_putf rfl (Nat.le_of_ble_eq_true rfl) rfl rfl) ?_
  refine wpH (h' := HH (s_steps (s_ip (s_address (s_next (s_stopv (s_stop s_new 0) 0) (4194304 + (Int32.toInt64 l1))) 0) (4194304 + (Int32.toInt64 l1))) 1) (MC m) []) rfl ?_
  refine wp1 rfl rfl ?_
  refine wp1 rfl rfl ?_
  refine wp0 rfl rfl ?_
  refine wp2 (pc' := 49) rfl rfl ?_
  refine wp0 rfl rfl ?_
  refine wp3 rfl (am_putf rfl (Nat.le_of_ble_eq_true rfl) (b01_nar b0) (b01_fit b0)) ?_
  refine wpH (h' := HH (s_ended (s_steps (s_ip (s_address (s_next (s_stopv (s_stop s_new 0) 0) (4194304 + (Int32.toInt64 l1))) 0) (4194304 + (Int32.toInt64 l1))) 1) 0) (MC m) []) rfl ?_
  refine wp1 rfl rfl ?_
  exact wp5i rfl rfl ⟨rfl, rfl⟩
set_option maxRecDepth 20000 in
theorem x1_step (m : ms) (l1 : Int32) : tb_wp L xs 18 0 (lv_args 0 [.ref 1, .int l1]) [] (HH s_new (MC m) []) (SX (MC m) (stF l1)) := by
  refine wp1 rfl rfl ?_
  refine wp3 rfl (am_getf rfl rfl) ?_
  refine wpS (st' := [.int 0]) rfl ?_
  refine wp2 (pc' := 7) rfl rfl ?_
  refine wp1 rfl rfl ?_
  refine wp0 rfl rfl ?_
  refine wp2b rfl rfl (fun c1 => ?_) (fun c1 => ?_)
  · refine wp0 rfl rfl ?_
    exact wp5i rfl rfl ⟨s_new, [], (J_new m), rfl, by simp only [stF, if_pos c1]⟩
  · refine wp1 rfl rfl ?_
    refine wp0 rfl rfl ?_
    refine wp2b rfl rfl (fun c2 => ?_) (fun c2 => ?_)
    · refine wp0 rfl rfl ?_
      exact wp5i rfl rfl ⟨s_new, [], (J_new m), rfl, by simp only [stF, if_neg c1, if_pos c2]⟩
    · refine wp1 rfl rfl ?_
      refine wp3 rfl (am_getf rfl rfl) ?_
      refine am_ev_at rfl rfl (xe_c16 m l1) ?_
      refine wp2 (pc' := 30) rfl rfl ?_
      refine wp1 rfl rfl ?_
      refine wp3 rfl (am_getf rfl rfl) ?_
      refine wp1 rfl rfl ?_
      refine am_ev_at rfl rfl (xe_c18 m l1) ?_
      refine wp1 rfl rfl ?_
      refine wp3 rfl (am_getf rfl rfl) ?_
      refine wp3 rfl (am_getf rfl rfl) ?_
      refine wpS (st' := [.int 39]) rfl ?_
      refine wp2 (pc' := 321) rfl rfl ?_
      refine wp2 rfl rfl ?_
      refine wp1 rfl rfl ?_
      refine wp1 rfl rfl ?_
      refine wp3 rfl (am_getf rfl rfl) ?_
      refine wp3 rfl (am_getf rfl rfl) ?_
      refine wpS (st' := [.int 0, .ref 1]) rfl ?_
      refine am_ev_at rfl rfl (xe_c19 m l1) ?_
      exact wp5i rfl rfl ⟨(s_ended (s_steps (s_ip (s_address (s_next (s_stopv (s_stop s_new 0) 0) (4194304 + (Int32.toInt64 l1))) 0) (4194304 + (Int32.toInt64 l1))) 1) 0), [], (J_ended (J_new m) b0), rfl, by simp only [stF, if_neg c1, if_neg c2]⟩
set_option maxRecDepth 20000 in
theorem x1_outputAt (m : ms) (l1 : Int32) : tb_wp L xs 102 0 (lv_args 0 [.ref 19, .int l1]) [] (HH s_new (MC m) []) (SX (MC m) (ouF l1)) := by
  refine wp1 rfl rfl ?_
  refine wp0 rfl rfl ?_
  refine wp2b rfl rfl (fun c1 => ?_) (fun c1 => ?_)
  · refine wp1 rfl rfl ?_
    refine wp3 rfl (am_getf rfl rfl) ?_
    refine wpS (st' := [.int 0]) rfl ?_
    exact wp5i rfl rfl ⟨s_new, [], (J_new m), rfl, by simp only [ouF, if_pos c1]⟩
  · refine wp1 rfl rfl ?_
    refine wp2b rfl rfl (fun c2 => ?_) (fun c2 => ?_)
    · refine wp0 rfl rfl ?_
      exact wp5i rfl rfl ⟨s_new, [], (J_new m), rfl, by simp only [ouF, if_neg c1, if_pos c2]⟩
    · refine wp1 rfl rfl ?_
      refine wp1 rfl rfl ?_
      refine wp3 rfl (am_getf rfl rfl) ?_
      refine wpS (st' := [.int 0, .int l1]) rfl ?_
      refine wp2b rfl rfl (fun c3 => ?_) (fun c3 => absurd (i32_nlt c2) c3)
      refine wp0 rfl rfl ?_
      exact wp5i rfl rfl ⟨s_new, [], (J_new m), rfl, by simp only [ouF, if_neg c1, if_neg c2, if_pos c3]⟩
set_option maxRecDepth 20000 in
theorem x1_reg16 (m : ms) : tb_wp L xs 15 21 [(0, .ref 1), (1, .int 16)] [.int 16] (HH s_new (MC m) []) (SXl (MC m) (rgT 16)) := by
  refine wp2 (pc' := 52) rfl rfl ?_
  refine wp1 rfl rfl ?_
  refine wp3 rfl (am_getf rfl rfl) ?_
  refine wp3 rfl (am_getf rfl rfl) ?_
  refine wpS (st' := [.long 4194304]) rfl ?_
  exact wp5 rfl rfl ⟨s_new, [], (J_new m), rfl, rfl⟩
/- FlagMachine$Flags.asWord -/
set_option maxRecDepth 20000 in
theorem xe_c20 (m : ms) : tb_ev L xs 44 [.ref 9] (HH s_new (MC m) []) (some (.long 2)) (HH s_new (MC m) []) := by
  refine am_wp_ev ?_
  refine wp0 rfl rfl ?_
  refine wp1 rfl rfl ?_
  refine wp3 rfl (am_getf rfl rfl) ?_
  refine wpS (st' := [.int 0, .int 2]) rfl ?_
  refine wp2 (pc' := 12) rfl rfl ?_
  refine wp0 rfl rfl ?_
  refine wp0 rfl rfl ?_
  refine wpS (st' := [.int 2]) rfl ?_
  refine wp1 rfl rfl ?_
  refine wp3 rfl (am_getf rfl rfl) ?_
  refine wpS (st' := [.int 0, .int 2]) rfl ?_
  refine wp2 (pc' := 25) rfl rfl ?_
  refine wp0 rfl rfl ?_
  refine wp0 rfl rfl ?_
  refine wpS (st' := [.int 2]) rfl ?_
  refine wp1 rfl rfl ?_
  refine wp3 rfl (am_getf rfl rfl) ?_
  refine wpS (st' := [.int 0, .int 2]) rfl ?_
  refine wp2 (pc' := 39) rfl rfl ?_
  refine wp0 rfl rfl ?_
  refine wp0 rfl rfl ?_
  refine wpS (st' := [.int 2]) rfl ?_
  refine wp1 rfl rfl ?_
  refine wp3 rfl (am_getf rfl rfl) ?_
  refine wpS (st' := [.int 0, .int 2]) rfl ?_
  refine wp2 (pc' := 54) rfl rfl ?_
  refine wp0 rfl rfl ?_
  refine wp0 rfl rfl ?_
  refine wpS (st' := [.int 2]) rfl ?_
  refine wp1 rfl rfl ?_
  refine wp3 rfl (am_getf rfl rfl) ?_
  refine wpS (st' := [.int 0, .int 2]) rfl ?_
  refine wp2 (pc' := 69) rfl rfl ?_
  refine wp0 rfl rfl ?_
  refine wp0 rfl rfl ?_
  refine wpS (st' := [.int 2]) rfl ?_
  refine wp0 rfl rfl ?_
  refine wpS (st' := [.long 2]) rfl ?_
  exact wp5 rfl rfl ⟨rfl, rfl⟩
set_option maxRecDepth 20000 in
theorem x1_reg17 (m : ms) : tb_wp L xs 15 21 [(0, .ref 1), (1, .int 17)] [.int 17] (HH s_new (MC m) []) (SXl (MC m) (rgT 17)) := by
  refine wp2 (pc' := 60) rfl rfl ?_
  refine wp1 rfl rfl ?_
  refine wp3 rfl (am_getf rfl rfl) ?_
  refine wp3 rfl (am_getf rfl rfl) ?_
  refine am_ev_at rfl rfl (xe_c20 m) ?_
  exact wp5 rfl rfl ⟨s_new, [], (J_new m), rfl, rfl⟩
/- FlagMachine$Memory.breakAddress -/
set_option maxRecDepth 20000 in
theorem xe_c21 (m : ms) : tb_ev L xs 66 [.ref 10] (HH s_new (MC m) []) (some (.long 4194304)) (HH s_new (MC m) []) := by
  refine am_wp_ev ?_
  refine wp0 rfl rfl ?_
  refine wp1 rfl rfl ?_
  refine wp3 rfl (am_getf rfl rfl) ?_
  refine wp0 rfl rfl ?_
  refine wp3 rfl (am_iald rfl (by decide)) ?_
  refine wpS (st' := [.int 0, .long 4194304]) rfl ?_
  refine wp0 rfl rfl ?_
  refine wpS (st' := [.long 0, .long 4194304]) rfl ?_
  refine wp0 rfl rfl ?_
  refine wpS (st' := [.long 4194304]) rfl ?_
  exact wp5 rfl rfl ⟨rfl, rfl⟩
set_option maxRecDepth 20000 in
theorem x1_reg18 (m : ms) : tb_wp L xs 15 21 [(0, .ref 1), (1, .int 18)] [.int 18] (HH s_new (MC m) []) (SXl (MC m) (rgT 18)) := by
  refine wp2 (pc' := 71) rfl rfl ?_
  refine wp1 rfl rfl ?_
  refine wp3 rfl (am_getf rfl rfl) ?_
  refine wp3 rfl (am_getf rfl rfl) ?_
  refine am_ev_at rfl rfl (xe_c21 m) ?_
  exact wp5 rfl rfl ⟨s_new, [], (J_new m), rfl, rfl⟩
set_option maxRecDepth 20000 in
theorem x1_reg19 (m : ms) : tb_wp L xs 15 21 [(0, .ref 1), (1, .int 19)] [.int 19] (HH s_new (MC m) []) (SXl (MC m) (rgT 19)) := by
  refine wp2 (pc' := 82) rfl rfl ?_
  refine wp1 rfl rfl ?_
  refine wp3 rfl (am_getf rfl rfl) ?_
  refine wpS (st' := [.long 0]) rfl ?_
  exact wp5 rfl rfl ⟨s_new, [], (J_new m), rfl, rfl⟩
set_option maxRecDepth 20000 in
theorem x1_reg21 (m : ms) (l1 : Int32) : tb_wp L xs 15 21 [(0, .ref 1), (1, .int l1)] [.int l1] (HH s_new (MC m) []) (SXl (MC m) (rgT l1)) := by
  by_cases h16 : l1 = 16
  · subst h16; exact x1_reg16 m
  by_cases h17 : l1 = 17
  · subst h17; exact x1_reg17 m
  by_cases h18 : l1 = 18
  · subst h18; exact x1_reg18 m
  by_cases h19 : l1 = 19
  · subst h19; exact x1_reg19 m
  refine wp2 (pc' := 87) (st' := []) rfl (by simp only [am_jump, am_sw, if_neg h16, if_neg h17, if_neg h18, if_neg h19]) ?_
  refine wp0 rfl rfl ?_
  exact wp5 rfl rfl ⟨_, _, J_new m, rfl, by simp only [rgT, if_neg h16, if_neg h17, if_neg h18]⟩
set_option maxRecDepth 20000 in
theorem x1_register (m : ms) (l1 : Int32) : tb_wp L xs 15 0 (lv_args 0 [.ref 1, .int l1]) [] (HH s_new (MC m) []) (SXl (MC m) (rgC l1)) := by
  refine wp1 rfl rfl ?_
  refine wp2b rfl rfl (fun c1 => ?_) (fun c1 => ?_)
  · refine wp1 rfl rfl ?_
    rw [show rgC l1 = rgT l1 from by simp only [rgC, if_pos c1]]
    exact x1_reg21 m l1
  · refine wp1 rfl rfl ?_
    refine wp0 rfl rfl ?_
    refine wp2b rfl rfl (fun c2 => ?_) (fun c2 => ?_)
    · refine wp1 rfl rfl ?_
      rw [show rgC l1 = rgT l1 from by simp only [rgC, if_neg c1, if_pos c2]]
      exact x1_reg21 m l1
    · refine wp1 rfl rfl ?_
      refine wp3 rfl (am_getf rfl rfl) ?_
      refine wp3 rfl (am_getf rfl rfl) ?_
      refine wp1 rfl rfl ?_
      refine wp3 rfl (am_lald rfl (r15 c1 c2)) ?_
      exact wp5 rfl rfl ⟨s_new, [], (J_new m), rfl, by simp only [rgC, if_neg c1, if_neg c2, regs_new _ (am_in_lt (r15 c1 c2))]⟩
set_option maxRecDepth 20000 in
theorem pf_in0 (m : ms) {a : Int64} {p : Int32} (hp : tb_ev L xs 72 [.long a] (HH s_new (MC m) []) (some (.int p)) (HH s_new (MC m) [])) (h1 : 327936 ≤ p.toInt) (h2 : p.toInt < 393472) : tb_ev L xs 71 [.ref 10, .long a, .int 1, .int 0] (HH s_new (MC m) []) (some (.int (p))) (HH s_new (MC m) []) := by
  refine am_wp_ev ?_
  refine wp1 rfl rfl ?_
  refine am_ev_at rfl rfl hp ?_
  refine wp1 rfl rfl ?_
  refine wpV (lv' := [(0, .ref 10), (1, .long a), (3, .int 1), (4, .int 0), (5, .int p)]) rfl ?_
  refine wp1 rfl rfl ?_
  refine wp1 rfl rfl ?_
  refine wpV (lv' := [(0, .ref 10), (1, .long a), (3, .int 1), (4, .int 0), (5, .int p), (6, .int p)]) rfl ?_
  refine wp1 rfl rfl ?_
  refine wp0 rfl rfl ?_
  refine wp2 (pc' := 20) rfl rfl ?_
  refine wp0 rfl rfl ?_
  refine wp1 rfl rfl ?_
  refine wpV (lv' := [(0, .ref 10), (3, .int 1), (5, .int p), (6, .int p), (7, .int 0)]) rfl ?_
  refine wp1 rfl rfl ?_
  refine wp0 rfl rfl ?_
  refine wp2 (pc' := 29) rfl rfl ?_
  refine wp1 rfl rfl ?_
  refine wp1 rfl rfl ?_
  refine wp3 rfl (am_getf rfl rfl) ?_
  refine wp1 rfl rfl ?_
  refine wp3 rfl (am_iald rfl (by decide)) ?_
  refine wpS (st' := [.int 0, .int p]) rfl ?_
  refine wp2b rfl rfl (fun c1 => absurd c1 (fun z => by have z2 := Int32.lt_iff_toInt_lt.mp z; have e1 : (0 : Int32).toInt = 0 := rfl; omega)) (fun c1 => ?_)
  refine wp1 rfl rfl ?_
  refine wp1 rfl rfl ?_
  refine wp3 rfl (am_getf rfl rfl) ?_
  refine wp1 rfl rfl ?_
  refine wp3 rfl (am_iald rfl (by decide)) ?_
  refine wpS (st' := [.int 0, .int p]) rfl ?_
  refine wp2b rfl rfl (fun c2 => ?_) (fun c2 => absurd (Int32.le_iff_toInt_le.mpr (by have e1 : (0 : Int32).toInt = 0 := rfl; omega)) c2)
  refine wp1 rfl rfl ?_
  refine wpV (lv' := [(0, .ref 10), (3, .int 1), (5, .int p), (6, .int p), (7, .int 1)]) rfl ?_
  refine wp2 rfl rfl ?_
  refine wp1 rfl rfl ?_
  refine wp0 rfl rfl ?_
  refine wp2 (pc' := 29) rfl rfl ?_
  refine wp1 rfl rfl ?_
  refine wp1 rfl rfl ?_
  refine wp3 rfl (am_getf rfl rfl) ?_
  refine wp1 rfl rfl ?_
  refine wp3 rfl (am_iald rfl (by decide)) ?_
  refine wpS (st' := [.int 0, .int p]) rfl ?_
  refine wp2b rfl rfl (fun c3 => absurd c3 (fun z => by have z2 := Int32.lt_iff_toInt_lt.mp z; have e1 : (0 : Int32).toInt = 0 := rfl; omega)) (fun c3 => ?_)
  refine wp1 rfl rfl ?_
  refine wp1 rfl rfl ?_
  refine wp3 rfl (am_getf rfl rfl) ?_
  refine wp1 rfl rfl ?_
  refine wp3 rfl (am_iald rfl (by decide)) ?_
  refine wpS (st' := [.int 0, .int p]) rfl ?_
  refine wp2b rfl rfl (fun c4 => ?_) (fun c4 => absurd (Int32.le_iff_toInt_le.mpr (by have e1 : (0 : Int32).toInt = 0 := rfl; omega)) c4)
  refine wp1 rfl rfl ?_
  refine wpV (lv' := [(0, .ref 10), (3, .int 1), (5, .int p), (6, .int p), (7, .int 2)]) rfl ?_
  refine wp2 rfl rfl ?_
  refine wp1 rfl rfl ?_
  refine wp0 rfl rfl ?_
  refine wp2 (pc' := 29) rfl rfl ?_
  refine wp1 rfl rfl ?_
  refine wp1 rfl rfl ?_
  refine wp3 rfl (am_getf rfl rfl) ?_
  refine wp1 rfl rfl ?_
  refine wp3 rfl (am_iald rfl (by decide)) ?_
  refine wpS (st' := [.int 0, .int p]) rfl ?_
  refine wp2b rfl rfl (fun c5 => absurd c5 (fun z => by have z2 := Int32.lt_iff_toInt_lt.mp z; have e1 : (0 : Int32).toInt = 0 := rfl; omega)) (fun c5 => ?_)
  refine wp1 rfl rfl ?_
  refine wp1 rfl rfl ?_
  refine wp3 rfl (am_getf rfl rfl) ?_
  refine wp1 rfl rfl ?_
  refine wp3 rfl (am_iald rfl (by decide)) ?_
  refine wpS (st' := [.int 0, .int p]) rfl ?_
  refine wp2b rfl rfl (fun c6 => ?_) (fun c6 => absurd (Int32.le_iff_toInt_le.mpr (by have e1 : (0 : Int32).toInt = 0 := rfl; omega)) c6)
  refine wp1 rfl rfl ?_
  refine wpV (lv' := [(0, .ref 10), (3, .int 1), (5, .int p), (6, .int p), (7, .int 3)]) rfl ?_
  refine wp2 rfl rfl ?_
  refine wp1 rfl rfl ?_
  refine wp0 rfl rfl ?_
  refine wp2 (pc' := 29) rfl rfl ?_
  refine wp1 rfl rfl ?_
  refine wp1 rfl rfl ?_
  refine wp3 rfl (am_getf rfl rfl) ?_
  refine wp1 rfl rfl ?_
  refine wp3 rfl (am_iald rfl (by decide)) ?_
  refine wpS (st' := [.int 0, .int p]) rfl ?_
  refine wp2b rfl rfl (fun c7 => absurd c7 (fun z => by have z2 := Int32.lt_iff_toInt_lt.mp z; have e1 : (0 : Int32).toInt = 0 := rfl; omega)) (fun c7 => ?_)
  refine wp1 rfl rfl ?_
  refine wp1 rfl rfl ?_
  refine wp3 rfl (am_getf rfl rfl) ?_
  refine wp1 rfl rfl ?_
  refine wp3 rfl (am_iald rfl (by decide)) ?_
  refine wpS (st' := [.int 0, .int p]) rfl ?_
  refine wp2b rfl rfl (fun c8 => ?_) (fun c8 => absurd (Int32.le_iff_toInt_le.mpr (by have e1 : (0 : Int32).toInt = 0 := rfl; omega)) c8)
  refine wp1 rfl rfl ?_
  refine wpV (lv' := [(0, .ref 10), (3, .int 1), (5, .int p), (6, .int p), (7, .int 4)]) rfl ?_
  refine wp2 rfl rfl ?_
  refine wp1 rfl rfl ?_
  refine wp0 rfl rfl ?_
  refine wp2 (pc' := 29) rfl rfl ?_
  refine wp1 rfl rfl ?_
  refine wp1 rfl rfl ?_
  refine wp3 rfl (am_getf rfl rfl) ?_
  refine wp1 rfl rfl ?_
  refine wp3 rfl (am_iald rfl (by decide)) ?_
  refine wpS (st' := [.int 327936, .int p]) rfl ?_
  refine wp2b rfl rfl (fun c9 => absurd c9 (fun z => by have z2 := Int32.lt_iff_toInt_lt.mp z; have e1 : (327936 : Int32).toInt = 327936 := rfl; omega)) (fun c9 => ?_)
  refine wp1 rfl rfl ?_
  refine wp1 rfl rfl ?_
  refine wp3 rfl (am_getf rfl rfl) ?_
  refine wp1 rfl rfl ?_
  refine wp3 rfl (am_iald rfl (by decide)) ?_
  refine wpS (st' := [.int 393472, .int p]) rfl ?_
  refine wp2b rfl rfl (fun c10 => absurd c10 (fun z => by have z2 := Int32.le_iff_toInt_le.mp z; have e1 : (393472 : Int32).toInt = 393472 := rfl; omega)) (fun c10 => ?_)
  refine wp1 rfl rfl ?_
  refine wp3 rfl (am_getf rfl rfl) ?_
  refine wp1 rfl rfl ?_
  refine wp3 rfl (am_iald rfl (by decide)) ?_
  refine wpS (st' := [.int 393472]) rfl ?_
  refine wp1 rfl rfl ?_
  refine wpV (lv' := [(0, .ref 10), (3, .int 1), (5, .int p), (6, .int 393472), (7, .int 4)]) rfl ?_
  refine wp1 rfl rfl ?_
  refine wpV (lv' := [(0, .ref 10), (3, .int 1), (5, .int p), (6, .int 393472), (7, .int 5)]) rfl ?_
  refine wp2 rfl rfl ?_
  refine wp1 rfl rfl ?_
  refine wp0 rfl rfl ?_
  refine wp2 (pc' := 68) rfl rfl ?_
  refine wp1 rfl rfl ?_
  refine wp1 rfl rfl ?_
  refine wp0 rfl rfl ?_
  refine wp1 rfl rfl ?_
  refine wp2b rfl rfl (fun c11 => ?_) (fun c11 => absurd (Int32.le_iff_toInt_le.mpr (by have e1 : (1 : Int32).toInt = 1 := rfl; have e9 := pf_sub h1 h2; omega)) c11)
  refine wp1 rfl rfl ?_
  exact wp5i rfl rfl ⟨rfl, rfl⟩
set_option maxRecDepth 20000 in
theorem pf_in1 (m : ms) {a : Int64} {p : Int32} (hp : tb_ev L xs 72 [.long a] (HH s_new (MC m) []) (some (.int p)) (HH s_new (MC m) [])) (h1 : 327936 ≤ p.toInt) (h2 : p.toInt < 393472) : tb_ev L xs 71 [.ref 10, .long a, .int 1, .int 1] (HH s_new (MC m) []) (some (.int (p))) (HH s_new (MC m) []) := by
  refine am_wp_ev ?_
  refine wp1 rfl rfl ?_
  refine am_ev_at rfl rfl hp ?_
  refine wp1 rfl rfl ?_
  refine wpV (lv' := [(0, .ref 10), (1, .long a), (3, .int 1), (4, .int 1), (5, .int p)]) rfl ?_
  refine wp1 rfl rfl ?_
  refine wp1 rfl rfl ?_
  refine wpV (lv' := [(0, .ref 10), (1, .long a), (3, .int 1), (4, .int 1), (5, .int p), (6, .int p)]) rfl ?_
  refine wp1 rfl rfl ?_
  refine wp0 rfl rfl ?_
  refine wp2 (pc' := 16) rfl rfl ?_
  refine wp0 rfl rfl ?_
  refine wp2 rfl rfl ?_
  refine wp1 rfl rfl ?_
  refine wpV (lv' := [(0, .ref 10), (3, .int 1), (5, .int p), (6, .int p), (7, .int 2)]) rfl ?_
  refine wp1 rfl rfl ?_
  refine wp0 rfl rfl ?_
  refine wp2 (pc' := 29) rfl rfl ?_
  refine wp1 rfl rfl ?_
  refine wp1 rfl rfl ?_
  refine wp3 rfl (am_getf rfl rfl) ?_
  refine wp1 rfl rfl ?_
  refine wp3 rfl (am_iald rfl (by decide)) ?_
  refine wpS (st' := [.int 0, .int p]) rfl ?_
  refine wp2b rfl rfl (fun c1 => absurd c1 (fun z => by have z2 := Int32.lt_iff_toInt_lt.mp z; have e1 : (0 : Int32).toInt = 0 := rfl; omega)) (fun c1 => ?_)
  refine wp1 rfl rfl ?_
  refine wp1 rfl rfl ?_
  refine wp3 rfl (am_getf rfl rfl) ?_
  refine wp1 rfl rfl ?_
  refine wp3 rfl (am_iald rfl (by decide)) ?_
  refine wpS (st' := [.int 0, .int p]) rfl ?_
  refine wp2b rfl rfl (fun c2 => ?_) (fun c2 => absurd (Int32.le_iff_toInt_le.mpr (by have e1 : (0 : Int32).toInt = 0 := rfl; omega)) c2)
  refine wp1 rfl rfl ?_
  refine wpV (lv' := [(0, .ref 10), (3, .int 1), (5, .int p), (6, .int p), (7, .int 3)]) rfl ?_
  refine wp2 rfl rfl ?_
  refine wp1 rfl rfl ?_
  refine wp0 rfl rfl ?_
  refine wp2 (pc' := 29) rfl rfl ?_
  refine wp1 rfl rfl ?_
  refine wp1 rfl rfl ?_
  refine wp3 rfl (am_getf rfl rfl) ?_
  refine wp1 rfl rfl ?_
  refine wp3 rfl (am_iald rfl (by decide)) ?_
  refine wpS (st' := [.int 0, .int p]) rfl ?_
  refine wp2b rfl rfl (fun c3 => absurd c3 (fun z => by have z2 := Int32.lt_iff_toInt_lt.mp z; have e1 : (0 : Int32).toInt = 0 := rfl; omega)) (fun c3 => ?_)
  refine wp1 rfl rfl ?_
  refine wp1 rfl rfl ?_
  refine wp3 rfl (am_getf rfl rfl) ?_
  refine wp1 rfl rfl ?_
  refine wp3 rfl (am_iald rfl (by decide)) ?_
  refine wpS (st' := [.int 0, .int p]) rfl ?_
  refine wp2b rfl rfl (fun c4 => ?_) (fun c4 => absurd (Int32.le_iff_toInt_le.mpr (by have e1 : (0 : Int32).toInt = 0 := rfl; omega)) c4)
  refine wp1 rfl rfl ?_
  refine wpV (lv' := [(0, .ref 10), (3, .int 1), (5, .int p), (6, .int p), (7, .int 4)]) rfl ?_
  refine wp2 rfl rfl ?_
  refine wp1 rfl rfl ?_
  refine wp0 rfl rfl ?_
  refine wp2 (pc' := 29) rfl rfl ?_
  refine wp1 rfl rfl ?_
  refine wp1 rfl rfl ?_
  refine wp3 rfl (am_getf rfl rfl) ?_
  refine wp1 rfl rfl ?_
  refine wp3 rfl (am_iald rfl (by decide)) ?_
  refine wpS (st' := [.int 327936, .int p]) rfl ?_
  refine wp2b rfl rfl (fun c5 => absurd c5 (fun z => by have z2 := Int32.lt_iff_toInt_lt.mp z; have e1 : (327936 : Int32).toInt = 327936 := rfl; omega)) (fun c5 => ?_)
  refine wp1 rfl rfl ?_
  refine wp1 rfl rfl ?_
  refine wp3 rfl (am_getf rfl rfl) ?_
  refine wp1 rfl rfl ?_
  refine wp3 rfl (am_iald rfl (by decide)) ?_
  refine wpS (st' := [.int 393472, .int p]) rfl ?_
  refine wp2b rfl rfl (fun c6 => absurd c6 (fun z => by have z2 := Int32.le_iff_toInt_le.mp z; have e1 : (393472 : Int32).toInt = 393472 := rfl; omega)) (fun c6 => ?_)
  refine wp1 rfl rfl ?_
  refine wp3 rfl (am_getf rfl rfl) ?_
  refine wp1 rfl rfl ?_
  refine wp3 rfl (am_iald rfl (by decide)) ?_
  refine wpS (st' := [.int 393472]) rfl ?_
  refine wp1 rfl rfl ?_
  refine wpV (lv' := [(0, .ref 10), (3, .int 1), (5, .int p), (6, .int 393472), (7, .int 4)]) rfl ?_
  refine wp1 rfl rfl ?_
  refine wpV (lv' := [(0, .ref 10), (3, .int 1), (5, .int p), (6, .int 393472), (7, .int 5)]) rfl ?_
  refine wp2 rfl rfl ?_
  refine wp1 rfl rfl ?_
  refine wp0 rfl rfl ?_
  refine wp2 (pc' := 68) rfl rfl ?_
  refine wp1 rfl rfl ?_
  refine wp1 rfl rfl ?_
  refine wp0 rfl rfl ?_
  refine wp1 rfl rfl ?_
  refine wp2b rfl rfl (fun c7 => ?_) (fun c7 => absurd (Int32.le_iff_toInt_le.mpr (by have e1 : (1 : Int32).toInt = 1 := rfl; have e9 := pf_sub h1 h2; omega)) c7)
  refine wp1 rfl rfl ?_
  exact wp5i rfl rfl ⟨rfl, rfl⟩
set_option maxRecDepth 20000 in
theorem pf_neg0 (m : ms) {a : Int64} {p : Int32} (hp : tb_ev L xs 72 [.long a] (HH s_new (MC m) []) (some (.int p)) (HH s_new (MC m) [])) (h1 : (-2147483648 : Int) ≤ p.toInt) (h2 : p.toInt < 0) : tb_ev L xs 71 [.ref 10, .long a, .int 1, .int 0] (HH s_new (MC m) []) (some (.int (-1))) (HH s_new (MC m) []) := by
  refine am_wp_ev ?_
  refine wp1 rfl rfl ?_
  refine am_ev_at rfl rfl hp ?_
  refine wp1 rfl rfl ?_
  refine wpV (lv' := [(0, .ref 10), (1, .long a), (3, .int 1), (4, .int 0), (5, .int p)]) rfl ?_
  refine wp1 rfl rfl ?_
  refine wp1 rfl rfl ?_
  refine wpV (lv' := [(0, .ref 10), (1, .long a), (3, .int 1), (4, .int 0), (5, .int p), (6, .int p)]) rfl ?_
  refine wp1 rfl rfl ?_
  refine wp0 rfl rfl ?_
  refine wp2 (pc' := 20) rfl rfl ?_
  refine wp0 rfl rfl ?_
  refine wp1 rfl rfl ?_
  refine wpV (lv' := [(0, .ref 10), (3, .int 1), (5, .int p), (6, .int p), (7, .int 0)]) rfl ?_
  refine wp1 rfl rfl ?_
  refine wp0 rfl rfl ?_
  refine wp2 (pc' := 29) rfl rfl ?_
  refine wp1 rfl rfl ?_
  refine wp1 rfl rfl ?_
  refine wp3 rfl (am_getf rfl rfl) ?_
  refine wp1 rfl rfl ?_
  refine wp3 rfl (am_iald rfl (by decide)) ?_
  refine wpS (st' := [.int 0, .int p]) rfl ?_
  refine wp2b rfl rfl (fun c1 => ?_) (fun c1 => absurd (Int32.lt_iff_toInt_lt.mpr (by have e1 : (0 : Int32).toInt = 0 := rfl; omega)) c1)
  refine wp1 rfl rfl ?_
  refine wpV (lv' := [(0, .ref 10), (3, .int 1), (5, .int p), (6, .int p), (7, .int 1)]) rfl ?_
  refine wp2 rfl rfl ?_
  refine wp1 rfl rfl ?_
  refine wp0 rfl rfl ?_
  refine wp2 (pc' := 29) rfl rfl ?_
  refine wp1 rfl rfl ?_
  refine wp1 rfl rfl ?_
  refine wp3 rfl (am_getf rfl rfl) ?_
  refine wp1 rfl rfl ?_
  refine wp3 rfl (am_iald rfl (by decide)) ?_
  refine wpS (st' := [.int 0, .int p]) rfl ?_
  refine wp2b rfl rfl (fun c2 => ?_) (fun c2 => absurd (Int32.lt_iff_toInt_lt.mpr (by have e1 : (0 : Int32).toInt = 0 := rfl; omega)) c2)
  refine wp1 rfl rfl ?_
  refine wpV (lv' := [(0, .ref 10), (3, .int 1), (5, .int p), (6, .int p), (7, .int 2)]) rfl ?_
  refine wp2 rfl rfl ?_
  refine wp1 rfl rfl ?_
  refine wp0 rfl rfl ?_
  refine wp2 (pc' := 29) rfl rfl ?_
  refine wp1 rfl rfl ?_
  refine wp1 rfl rfl ?_
  refine wp3 rfl (am_getf rfl rfl) ?_
  refine wp1 rfl rfl ?_
  refine wp3 rfl (am_iald rfl (by decide)) ?_
  refine wpS (st' := [.int 0, .int p]) rfl ?_
  refine wp2b rfl rfl (fun c3 => ?_) (fun c3 => absurd (Int32.lt_iff_toInt_lt.mpr (by have e1 : (0 : Int32).toInt = 0 := rfl; omega)) c3)
  refine wp1 rfl rfl ?_
  refine wpV (lv' := [(0, .ref 10), (3, .int 1), (5, .int p), (6, .int p), (7, .int 3)]) rfl ?_
  refine wp2 rfl rfl ?_
  refine wp1 rfl rfl ?_
  refine wp0 rfl rfl ?_
  refine wp2 (pc' := 29) rfl rfl ?_
  refine wp1 rfl rfl ?_
  refine wp1 rfl rfl ?_
  refine wp3 rfl (am_getf rfl rfl) ?_
  refine wp1 rfl rfl ?_
  refine wp3 rfl (am_iald rfl (by decide)) ?_
  refine wpS (st' := [.int 0, .int p]) rfl ?_
  refine wp2b rfl rfl (fun c4 => ?_) (fun c4 => absurd (Int32.lt_iff_toInt_lt.mpr (by have e1 : (0 : Int32).toInt = 0 := rfl; omega)) c4)
  refine wp1 rfl rfl ?_
  refine wpV (lv' := [(0, .ref 10), (3, .int 1), (5, .int p), (6, .int p), (7, .int 4)]) rfl ?_
  refine wp2 rfl rfl ?_
  refine wp1 rfl rfl ?_
  refine wp0 rfl rfl ?_
  refine wp2 (pc' := 29) rfl rfl ?_
  refine wp1 rfl rfl ?_
  refine wp1 rfl rfl ?_
  refine wp3 rfl (am_getf rfl rfl) ?_
  refine wp1 rfl rfl ?_
  refine wp3 rfl (am_iald rfl (by decide)) ?_
  refine wpS (st' := [.int 327936, .int p]) rfl ?_
  refine wp2b rfl rfl (fun c5 => ?_) (fun c5 => absurd (Int32.lt_iff_toInt_lt.mpr (by have e1 : (327936 : Int32).toInt = 327936 := rfl; omega)) c5)
  refine wp1 rfl rfl ?_
  refine wpV (lv' := [(0, .ref 10), (3, .int 1), (5, .int p), (6, .int p), (7, .int 5)]) rfl ?_
  refine wp2 rfl rfl ?_
  refine wp1 rfl rfl ?_
  refine wp0 rfl rfl ?_
  refine wp2 (pc' := 68) rfl rfl ?_
  refine wp1 rfl rfl ?_
  refine wp1 rfl rfl ?_
  refine wp0 rfl rfl ?_
  refine wp1 rfl rfl ?_
  refine wp2b rfl rfl (fun c6 => absurd c6 (fun z => by have z2 := Int32.le_iff_toInt_le.mp z; have e1 : (1 : Int32).toInt = 1 := rfl; have e9 : (p - p).toInt = 0 := (by rw [Int32.sub_self]; rfl); omega)) (fun c6 => ?_)
  refine wp0 rfl rfl ?_
  refine wp2 rfl rfl ?_
  exact wp5i rfl rfl ⟨rfl, rfl⟩
set_option maxRecDepth 20000 in
theorem pf_neg1 (m : ms) {a : Int64} {p : Int32} (hp : tb_ev L xs 72 [.long a] (HH s_new (MC m) []) (some (.int p)) (HH s_new (MC m) [])) (h1 : (-2147483648 : Int) ≤ p.toInt) (h2 : p.toInt < 0) : tb_ev L xs 71 [.ref 10, .long a, .int 1, .int 1] (HH s_new (MC m) []) (some (.int (-1))) (HH s_new (MC m) []) := by
  refine am_wp_ev ?_
  refine wp1 rfl rfl ?_
  refine am_ev_at rfl rfl hp ?_
  refine wp1 rfl rfl ?_
  refine wpV (lv' := [(0, .ref 10), (1, .long a), (3, .int 1), (4, .int 1), (5, .int p)]) rfl ?_
  refine wp1 rfl rfl ?_
  refine wp1 rfl rfl ?_
  refine wpV (lv' := [(0, .ref 10), (1, .long a), (3, .int 1), (4, .int 1), (5, .int p), (6, .int p)]) rfl ?_
  refine wp1 rfl rfl ?_
  refine wp0 rfl rfl ?_
  refine wp2 (pc' := 16) rfl rfl ?_
  refine wp0 rfl rfl ?_
  refine wp2 rfl rfl ?_
  refine wp1 rfl rfl ?_
  refine wpV (lv' := [(0, .ref 10), (3, .int 1), (5, .int p), (6, .int p), (7, .int 2)]) rfl ?_
  refine wp1 rfl rfl ?_
  refine wp0 rfl rfl ?_
  refine wp2 (pc' := 29) rfl rfl ?_
  refine wp1 rfl rfl ?_
  refine wp1 rfl rfl ?_
  refine wp3 rfl (am_getf rfl rfl) ?_
  refine wp1 rfl rfl ?_
  refine wp3 rfl (am_iald rfl (by decide)) ?_
  refine wpS (st' := [.int 0, .int p]) rfl ?_
  refine wp2b rfl rfl (fun c1 => ?_) (fun c1 => absurd (Int32.lt_iff_toInt_lt.mpr (by have e1 : (0 : Int32).toInt = 0 := rfl; omega)) c1)
  refine wp1 rfl rfl ?_
  refine wpV (lv' := [(0, .ref 10), (3, .int 1), (5, .int p), (6, .int p), (7, .int 3)]) rfl ?_
  refine wp2 rfl rfl ?_
  refine wp1 rfl rfl ?_
  refine wp0 rfl rfl ?_
  refine wp2 (pc' := 29) rfl rfl ?_
  refine wp1 rfl rfl ?_
  refine wp1 rfl rfl ?_
  refine wp3 rfl (am_getf rfl rfl) ?_
  refine wp1 rfl rfl ?_
  refine wp3 rfl (am_iald rfl (by decide)) ?_
  refine wpS (st' := [.int 0, .int p]) rfl ?_
  refine wp2b rfl rfl (fun c2 => ?_) (fun c2 => absurd (Int32.lt_iff_toInt_lt.mpr (by have e1 : (0 : Int32).toInt = 0 := rfl; omega)) c2)
  refine wp1 rfl rfl ?_
  refine wpV (lv' := [(0, .ref 10), (3, .int 1), (5, .int p), (6, .int p), (7, .int 4)]) rfl ?_
  refine wp2 rfl rfl ?_
  refine wp1 rfl rfl ?_
  refine wp0 rfl rfl ?_
  refine wp2 (pc' := 29) rfl rfl ?_
  refine wp1 rfl rfl ?_
  refine wp1 rfl rfl ?_
  refine wp3 rfl (am_getf rfl rfl) ?_
  refine wp1 rfl rfl ?_
  refine wp3 rfl (am_iald rfl (by decide)) ?_
  refine wpS (st' := [.int 327936, .int p]) rfl ?_
  refine wp2b rfl rfl (fun c3 => ?_) (fun c3 => absurd (Int32.lt_iff_toInt_lt.mpr (by have e1 : (327936 : Int32).toInt = 327936 := rfl; omega)) c3)
  refine wp1 rfl rfl ?_
  refine wpV (lv' := [(0, .ref 10), (3, .int 1), (5, .int p), (6, .int p), (7, .int 5)]) rfl ?_
  refine wp2 rfl rfl ?_
  refine wp1 rfl rfl ?_
  refine wp0 rfl rfl ?_
  refine wp2 (pc' := 68) rfl rfl ?_
  refine wp1 rfl rfl ?_
  refine wp1 rfl rfl ?_
  refine wp0 rfl rfl ?_
  refine wp1 rfl rfl ?_
  refine wp2b rfl rfl (fun c4 => absurd c4 (fun z => by have z2 := Int32.le_iff_toInt_le.mp z; have e1 : (1 : Int32).toInt = 1 := rfl; have e9 : (p - p).toInt = 0 := (by rw [Int32.sub_self]; rfl); omega)) (fun c4 => ?_)
  refine wp0 rfl rfl ?_
  refine wp2 rfl rfl ?_
  exact wp5i rfl rfl ⟨rfl, rfl⟩
set_option maxRecDepth 20000 in
theorem pf_pos0 (m : ms) {a : Int64} {p : Int32} (hp : tb_ev L xs 72 [.long a] (HH s_new (MC m) []) (some (.int p)) (HH s_new (MC m) [])) (h1 : 0 ≤ p.toInt) (h2 : p.toInt < 327936) : tb_ev L xs 71 [.ref 10, .long a, .int 1, .int 0] (HH s_new (MC m) []) (some (.int (-1))) (HH s_new (MC m) []) := by
  refine am_wp_ev ?_
  refine wp1 rfl rfl ?_
  refine am_ev_at rfl rfl hp ?_
  refine wp1 rfl rfl ?_
  refine wpV (lv' := [(0, .ref 10), (1, .long a), (3, .int 1), (4, .int 0), (5, .int p)]) rfl ?_
  refine wp1 rfl rfl ?_
  refine wp1 rfl rfl ?_
  refine wpV (lv' := [(0, .ref 10), (1, .long a), (3, .int 1), (4, .int 0), (5, .int p), (6, .int p)]) rfl ?_
  refine wp1 rfl rfl ?_
  refine wp0 rfl rfl ?_
  refine wp2 (pc' := 20) rfl rfl ?_
  refine wp0 rfl rfl ?_
  refine wp1 rfl rfl ?_
  refine wpV (lv' := [(0, .ref 10), (3, .int 1), (5, .int p), (6, .int p), (7, .int 0)]) rfl ?_
  refine wp1 rfl rfl ?_
  refine wp0 rfl rfl ?_
  refine wp2 (pc' := 29) rfl rfl ?_
  refine wp1 rfl rfl ?_
  refine wp1 rfl rfl ?_
  refine wp3 rfl (am_getf rfl rfl) ?_
  refine wp1 rfl rfl ?_
  refine wp3 rfl (am_iald rfl (by decide)) ?_
  refine wpS (st' := [.int 0, .int p]) rfl ?_
  refine wp2b rfl rfl (fun c1 => absurd c1 (fun z => by have z2 := Int32.lt_iff_toInt_lt.mp z; have e1 : (0 : Int32).toInt = 0 := rfl; omega)) (fun c1 => ?_)
  refine wp1 rfl rfl ?_
  refine wp1 rfl rfl ?_
  refine wp3 rfl (am_getf rfl rfl) ?_
  refine wp1 rfl rfl ?_
  refine wp3 rfl (am_iald rfl (by decide)) ?_
  refine wpS (st' := [.int 0, .int p]) rfl ?_
  refine wp2b rfl rfl (fun c2 => ?_) (fun c2 => absurd (Int32.le_iff_toInt_le.mpr (by have e1 : (0 : Int32).toInt = 0 := rfl; omega)) c2)
  refine wp1 rfl rfl ?_
  refine wpV (lv' := [(0, .ref 10), (3, .int 1), (5, .int p), (6, .int p), (7, .int 1)]) rfl ?_
  refine wp2 rfl rfl ?_
  refine wp1 rfl rfl ?_
  refine wp0 rfl rfl ?_
  refine wp2 (pc' := 29) rfl rfl ?_
  refine wp1 rfl rfl ?_
  refine wp1 rfl rfl ?_
  refine wp3 rfl (am_getf rfl rfl) ?_
  refine wp1 rfl rfl ?_
  refine wp3 rfl (am_iald rfl (by decide)) ?_
  refine wpS (st' := [.int 0, .int p]) rfl ?_
  refine wp2b rfl rfl (fun c3 => absurd c3 (fun z => by have z2 := Int32.lt_iff_toInt_lt.mp z; have e1 : (0 : Int32).toInt = 0 := rfl; omega)) (fun c3 => ?_)
  refine wp1 rfl rfl ?_
  refine wp1 rfl rfl ?_
  refine wp3 rfl (am_getf rfl rfl) ?_
  refine wp1 rfl rfl ?_
  refine wp3 rfl (am_iald rfl (by decide)) ?_
  refine wpS (st' := [.int 0, .int p]) rfl ?_
  refine wp2b rfl rfl (fun c4 => ?_) (fun c4 => absurd (Int32.le_iff_toInt_le.mpr (by have e1 : (0 : Int32).toInt = 0 := rfl; omega)) c4)
  refine wp1 rfl rfl ?_
  refine wpV (lv' := [(0, .ref 10), (3, .int 1), (5, .int p), (6, .int p), (7, .int 2)]) rfl ?_
  refine wp2 rfl rfl ?_
  refine wp1 rfl rfl ?_
  refine wp0 rfl rfl ?_
  refine wp2 (pc' := 29) rfl rfl ?_
  refine wp1 rfl rfl ?_
  refine wp1 rfl rfl ?_
  refine wp3 rfl (am_getf rfl rfl) ?_
  refine wp1 rfl rfl ?_
  refine wp3 rfl (am_iald rfl (by decide)) ?_
  refine wpS (st' := [.int 0, .int p]) rfl ?_
  refine wp2b rfl rfl (fun c5 => absurd c5 (fun z => by have z2 := Int32.lt_iff_toInt_lt.mp z; have e1 : (0 : Int32).toInt = 0 := rfl; omega)) (fun c5 => ?_)
  refine wp1 rfl rfl ?_
  refine wp1 rfl rfl ?_
  refine wp3 rfl (am_getf rfl rfl) ?_
  refine wp1 rfl rfl ?_
  refine wp3 rfl (am_iald rfl (by decide)) ?_
  refine wpS (st' := [.int 0, .int p]) rfl ?_
  refine wp2b rfl rfl (fun c6 => ?_) (fun c6 => absurd (Int32.le_iff_toInt_le.mpr (by have e1 : (0 : Int32).toInt = 0 := rfl; omega)) c6)
  refine wp1 rfl rfl ?_
  refine wpV (lv' := [(0, .ref 10), (3, .int 1), (5, .int p), (6, .int p), (7, .int 3)]) rfl ?_
  refine wp2 rfl rfl ?_
  refine wp1 rfl rfl ?_
  refine wp0 rfl rfl ?_
  refine wp2 (pc' := 29) rfl rfl ?_
  refine wp1 rfl rfl ?_
  refine wp1 rfl rfl ?_
  refine wp3 rfl (am_getf rfl rfl) ?_
  refine wp1 rfl rfl ?_
  refine wp3 rfl (am_iald rfl (by decide)) ?_
  refine wpS (st' := [.int 0, .int p]) rfl ?_
  refine wp2b rfl rfl (fun c7 => absurd c7 (fun z => by have z2 := Int32.lt_iff_toInt_lt.mp z; have e1 : (0 : Int32).toInt = 0 := rfl; omega)) (fun c7 => ?_)
  refine wp1 rfl rfl ?_
  refine wp1 rfl rfl ?_
  refine wp3 rfl (am_getf rfl rfl) ?_
  refine wp1 rfl rfl ?_
  refine wp3 rfl (am_iald rfl (by decide)) ?_
  refine wpS (st' := [.int 0, .int p]) rfl ?_
  refine wp2b rfl rfl (fun c8 => ?_) (fun c8 => absurd (Int32.le_iff_toInt_le.mpr (by have e1 : (0 : Int32).toInt = 0 := rfl; omega)) c8)
  refine wp1 rfl rfl ?_
  refine wpV (lv' := [(0, .ref 10), (3, .int 1), (5, .int p), (6, .int p), (7, .int 4)]) rfl ?_
  refine wp2 rfl rfl ?_
  refine wp1 rfl rfl ?_
  refine wp0 rfl rfl ?_
  refine wp2 (pc' := 29) rfl rfl ?_
  refine wp1 rfl rfl ?_
  refine wp1 rfl rfl ?_
  refine wp3 rfl (am_getf rfl rfl) ?_
  refine wp1 rfl rfl ?_
  refine wp3 rfl (am_iald rfl (by decide)) ?_
  refine wpS (st' := [.int 327936, .int p]) rfl ?_
  refine wp2b rfl rfl (fun c9 => ?_) (fun c9 => absurd (Int32.lt_iff_toInt_lt.mpr (by have e1 : (327936 : Int32).toInt = 327936 := rfl; omega)) c9)
  refine wp1 rfl rfl ?_
  refine wpV (lv' := [(0, .ref 10), (3, .int 1), (5, .int p), (6, .int p), (7, .int 5)]) rfl ?_
  refine wp2 rfl rfl ?_
  refine wp1 rfl rfl ?_
  refine wp0 rfl rfl ?_
  refine wp2 (pc' := 68) rfl rfl ?_
  refine wp1 rfl rfl ?_
  refine wp1 rfl rfl ?_
  refine wp0 rfl rfl ?_
  refine wp1 rfl rfl ?_
  refine wp2b rfl rfl (fun c10 => absurd c10 (fun z => by have z2 := Int32.le_iff_toInt_le.mp z; have e1 : (1 : Int32).toInt = 1 := rfl; have e9 : (p - p).toInt = 0 := (by rw [Int32.sub_self]; rfl); omega)) (fun c10 => ?_)
  refine wp0 rfl rfl ?_
  refine wp2 rfl rfl ?_
  exact wp5i rfl rfl ⟨rfl, rfl⟩
set_option maxRecDepth 20000 in
theorem pf_pos1 (m : ms) {a : Int64} {p : Int32} (hp : tb_ev L xs 72 [.long a] (HH s_new (MC m) []) (some (.int p)) (HH s_new (MC m) [])) (h1 : 0 ≤ p.toInt) (h2 : p.toInt < 327936) : tb_ev L xs 71 [.ref 10, .long a, .int 1, .int 1] (HH s_new (MC m) []) (some (.int (-1))) (HH s_new (MC m) []) := by
  refine am_wp_ev ?_
  refine wp1 rfl rfl ?_
  refine am_ev_at rfl rfl hp ?_
  refine wp1 rfl rfl ?_
  refine wpV (lv' := [(0, .ref 10), (1, .long a), (3, .int 1), (4, .int 1), (5, .int p)]) rfl ?_
  refine wp1 rfl rfl ?_
  refine wp1 rfl rfl ?_
  refine wpV (lv' := [(0, .ref 10), (1, .long a), (3, .int 1), (4, .int 1), (5, .int p), (6, .int p)]) rfl ?_
  refine wp1 rfl rfl ?_
  refine wp0 rfl rfl ?_
  refine wp2 (pc' := 16) rfl rfl ?_
  refine wp0 rfl rfl ?_
  refine wp2 rfl rfl ?_
  refine wp1 rfl rfl ?_
  refine wpV (lv' := [(0, .ref 10), (3, .int 1), (5, .int p), (6, .int p), (7, .int 2)]) rfl ?_
  refine wp1 rfl rfl ?_
  refine wp0 rfl rfl ?_
  refine wp2 (pc' := 29) rfl rfl ?_
  refine wp1 rfl rfl ?_
  refine wp1 rfl rfl ?_
  refine wp3 rfl (am_getf rfl rfl) ?_
  refine wp1 rfl rfl ?_
  refine wp3 rfl (am_iald rfl (by decide)) ?_
  refine wpS (st' := [.int 0, .int p]) rfl ?_
  refine wp2b rfl rfl (fun c1 => absurd c1 (fun z => by have z2 := Int32.lt_iff_toInt_lt.mp z; have e1 : (0 : Int32).toInt = 0 := rfl; omega)) (fun c1 => ?_)
  refine wp1 rfl rfl ?_
  refine wp1 rfl rfl ?_
  refine wp3 rfl (am_getf rfl rfl) ?_
  refine wp1 rfl rfl ?_
  refine wp3 rfl (am_iald rfl (by decide)) ?_
  refine wpS (st' := [.int 0, .int p]) rfl ?_
  refine wp2b rfl rfl (fun c2 => ?_) (fun c2 => absurd (Int32.le_iff_toInt_le.mpr (by have e1 : (0 : Int32).toInt = 0 := rfl; omega)) c2)
  refine wp1 rfl rfl ?_
  refine wpV (lv' := [(0, .ref 10), (3, .int 1), (5, .int p), (6, .int p), (7, .int 3)]) rfl ?_
  refine wp2 rfl rfl ?_
  refine wp1 rfl rfl ?_
  refine wp0 rfl rfl ?_
  refine wp2 (pc' := 29) rfl rfl ?_
  refine wp1 rfl rfl ?_
  refine wp1 rfl rfl ?_
  refine wp3 rfl (am_getf rfl rfl) ?_
  refine wp1 rfl rfl ?_
  refine wp3 rfl (am_iald rfl (by decide)) ?_
  refine wpS (st' := [.int 0, .int p]) rfl ?_
  refine wp2b rfl rfl (fun c3 => absurd c3 (fun z => by have z2 := Int32.lt_iff_toInt_lt.mp z; have e1 : (0 : Int32).toInt = 0 := rfl; omega)) (fun c3 => ?_)
  refine wp1 rfl rfl ?_
  refine wp1 rfl rfl ?_
  refine wp3 rfl (am_getf rfl rfl) ?_
  refine wp1 rfl rfl ?_
  refine wp3 rfl (am_iald rfl (by decide)) ?_
  refine wpS (st' := [.int 0, .int p]) rfl ?_
  refine wp2b rfl rfl (fun c4 => ?_) (fun c4 => absurd (Int32.le_iff_toInt_le.mpr (by have e1 : (0 : Int32).toInt = 0 := rfl; omega)) c4)
  refine wp1 rfl rfl ?_
  refine wpV (lv' := [(0, .ref 10), (3, .int 1), (5, .int p), (6, .int p), (7, .int 4)]) rfl ?_
  refine wp2 rfl rfl ?_
  refine wp1 rfl rfl ?_
  refine wp0 rfl rfl ?_
  refine wp2 (pc' := 29) rfl rfl ?_
  refine wp1 rfl rfl ?_
  refine wp1 rfl rfl ?_
  refine wp3 rfl (am_getf rfl rfl) ?_
  refine wp1 rfl rfl ?_
  refine wp3 rfl (am_iald rfl (by decide)) ?_
  refine wpS (st' := [.int 327936, .int p]) rfl ?_
  refine wp2b rfl rfl (fun c5 => ?_) (fun c5 => absurd (Int32.lt_iff_toInt_lt.mpr (by have e1 : (327936 : Int32).toInt = 327936 := rfl; omega)) c5)
  refine wp1 rfl rfl ?_
  refine wpV (lv' := [(0, .ref 10), (3, .int 1), (5, .int p), (6, .int p), (7, .int 5)]) rfl ?_
  refine wp2 rfl rfl ?_
  refine wp1 rfl rfl ?_
  refine wp0 rfl rfl ?_
  refine wp2 (pc' := 68) rfl rfl ?_
  refine wp1 rfl rfl ?_
  refine wp1 rfl rfl ?_
  refine wp0 rfl rfl ?_
  refine wp1 rfl rfl ?_
  refine wp2b rfl rfl (fun c6 => absurd c6 (fun z => by have z2 := Int32.le_iff_toInt_le.mp z; have e1 : (1 : Int32).toInt = 1 := rfl; have e9 : (p - p).toInt = 0 := (by rw [Int32.sub_self]; rfl); omega)) (fun c6 => ?_)
  refine wp0 rfl rfl ?_
  refine wp2 rfl rfl ?_
  exact wp5i rfl rfl ⟨rfl, rfl⟩
set_option maxRecDepth 20000 in
theorem sq_100_29 (n : Nat) : ∀ {s : cs} {mc : am_H} {D : List pgT} (hJ : J s mc D) (l1 : Int64) (l4 : Int32)  (hm : ((l4 : Int32).toInt + 1).toNat < n), tb_wp L xs 100 29 [(0, .ref 19), (1, .long l1), (4, .int l4)] [] (HH s mc D) (SX mc 1) := by
  induction n with
  | zero => intro s mc D hJ l1 l4 hm; exact absurd hm (Nat.not_lt_zero _)
  | succ n ih =>
    intro s mc D hJ l1 l4 hm
    refine wp1 rfl rfl ?_
    refine wp2b rfl rfl (fun c1 => ?_) (fun c1 => ?_)
    · refine wp0 rfl rfl ?_
      exact wp5z rfl rfl b1 ⟨_, _, hJ, rfl, rfl⟩
    · refine wp1 rfl rfl ?_
      refine wp3 rfl (am_getf rfl rfl) ?_
      refine wp1 rfl rfl ?_
      refine wp3 rfl (am_getf rfl rfl) ?_
      refine wp1 rfl rfl ?_
      refine wp3 rfl (am_getf rfl rfl) ?_
      refine wp0 rfl rfl ?_
      refine wp0 rfl rfl ?_
      refine wp0 rfl rfl ?_
      refine wp1 rfl rfl ?_
      refine wp0 rfl rfl ?_
      refine wp1 rfl rfl ?_
      refine wp0 rfl rfl ?_
      refine wp0 rfl rfl ?_
      refine wp0 rfl rfl ?_
      refine wp0 rfl rfl ?_
      refine wp0 rfl rfl ?_
      refine wp4 rfl rfl (sf_116_2 hJ ((((g_first s) + (g_waiting s)) - ((g_first s) + (g_waiting s)) / 65536 * 65536)) (((Int64.toInt32 ((Int64.toUInt64 l1 >>> ((Int32.toInt64 (8 * l4)).toUInt64 &&& Int64.toUInt64 63)).toInt64)) &&& 255))) (fun rv h1 hq => ?_)
      obtain ⟨s3, D4, hJ5, rfl, rfl⟩ := hq
      refine wp1 rfl rfl ?_
      refine wp0 rfl rfl ?_
      refine wp3 rfl (am_getf rfl rfl) ?_
      refine wp0 rfl rfl ?_
      refine wp0 rfl rfl ?_
      refine wp3 rfl (am_putf rfl (Nat.le_of_ble_eq_true rfl) rfl rfl) ?_
      have hJ7 : J (s_waiting s3 ((g_waiting s3) + 1)) mc D4 := hJ5
      refine wpH (h' := HH (s_waiting s3 ((g_waiting s3) + 1)) mc D4) rfl ?_
      refine wp1 rfl rfl ?_
      refine wpV (lv' := [(0, .ref 19), (1, .long l1), (4, .int (l4 + (-1)))]) rfl ?_
      refine wp2 rfl rfl ?_
      exact wpL rfl rfl (ih hJ7 (l1) ((l4 + (-1))) (i32_down c1 hm))
theorem inF_b (n : Int32) : b01 (inF n) := by
  unfold inF
  split
  · exact b0
  · split
    · exact b0
    · exact b1
set_option maxRecDepth 20000 in
theorem x1_append (m : ms) (a : Int64) (n : Int32) : tb_wp L xs 100 0 (lv_args 0 [.ref 19, .long a, .int n]) [] (HH s_new (MC m) []) (SX (MC m) (inF n)) := by
  refine wp1 rfl rfl ?_
  refine wp0 rfl rfl ?_
  refine wp2b rfl rfl (fun c1 => ?_) (fun c1 => ?_)
  · refine wp0 rfl rfl ?_
    exact wp5z rfl rfl b0 ⟨_, _, J_new m, rfl, by simp only [inF, if_pos c1]⟩
  · refine wp1 rfl rfl ?_
    refine wp0 rfl rfl ?_
    refine wp2b rfl rfl (fun c2 => ?_) (fun c2 => ?_)
    · refine wp0 rfl rfl ?_
      exact wp5z rfl rfl b0 ⟨_, _, J_new m, rfl, by simp only [inF, if_neg c1, if_pos c2]⟩
    · have g1 : ¬ n.toInt < 1 := fun z => c1 (Int32.lt_iff_toInt_lt.mpr z)
      have g2 : ¬ 8 < n.toInt := fun z => c2 (Int32.lt_iff_toInt_lt.mpr z)
      refine wp1 rfl rfl ?_
      refine wp3 rfl (am_getf rfl rfl) ?_
      refine wp1 rfl rfl ?_
      refine wp0 rfl rfl ?_
      refine wpS (st' := [.int (0 + n)]) rfl ?_
      refine wp0 rfl rfl ?_
      have g3 : (0 + n : Int32) ≤ 65536 := by
        have e0 : (0 + n).toInt = (0 : Int32).toInt + n.toInt := i32_addI (by show -2147483648 ≤ 0 + n.toInt; omega) (by show 0 + n.toInt < 2147483648; omega)
        have e1 : (0 : Int32).toInt = 0 := rfl
        have e6 : (65536 : Int32).toInt = 65536 := rfl
        rw [Int32.le_iff_toInt_le]
        omega
      refine wp2b rfl rfl (fun c3 => ?_) (fun c3 => absurd g3 c3)
      refine wp1 rfl rfl ?_
      refine wp0 rfl rfl ?_
      refine wp0 rfl rfl ?_
      refine wp1 rfl rfl ?_
      refine wpV (lv' := [(0, .ref 19), (1, .long a), (3, .int n), (4, .int (n - 1))]) rfl ?_
      rw [show inF n = 1 from by simp only [inF, if_neg c1, if_neg c2]]
      exact wpL rfl rfl (sq_100_29 _ (J_new m) a (n - 1) (Nat.lt_succ_self _))
set_option maxRecDepth 20000 in
theorem x1_input (m : ms) (a : Int64) (n : Int32) : tb_wp L xs 6 0 (lv_args 0 [.ref 1, .long a, .int n]) [] (HH s_new (MC m) []) (SX (MC m) (inF n)) := by
  refine wp1 rfl rfl ?_
  refine wp3 rfl (am_getf rfl rfl) ?_
  refine wp1 rfl rfl ?_
  refine wp1 rfl rfl ?_
  refine wp4 rfl rfl (x1_append m a n) (fun rv h1 hq => ?_)
  obtain ⟨s1, D1, hJ1, rfl, rfl⟩ := hq
  exact wp5z rfl rfl (inF_b n) ⟨_, _, hJ1, rfl, rfl⟩
set_option maxRecDepth 20000 in
theorem x1_output (m : ms) (l1 : Int32) : tb_wp L xs 12 0 (lv_args 0 [.ref 1, .int l1]) [] (HH s_new (MC m) []) (SX (MC m) (ouF l1)) := by
  refine wp1 rfl rfl ?_
  refine wp3 rfl (am_getf rfl rfl) ?_
  refine wp1 rfl rfl ?_
  refine wp4 rfl rfl (x1_outputAt m l1) (fun rv h1 hq => ?_)
  obtain ⟨s1, D1, hJ1, rfl, rfl⟩ := hq
  exact wp5i rfl rfl ⟨_, _, hJ1, rfl, rfl⟩
set_option maxRecDepth 20000 in
theorem x1_pageAt (m : ms) (x : Int32) : tb_ev L xs 114 [.ref 11, .int x] (HH s_new (MC m) []) (some .null) (HH s_new (MC m) []) := by
  refine am_wp_ev ?_
  refine wp1 rfl rfl ?_
  refine wp0 rfl rfl ?_
  refine wp0 rfl rfl ?_
  refine wp1 rfl rfl ?_
  refine wpV (lv' := [(0, .ref 11), (1, .int x), (2, .int (x / 256))]) rfl ?_
  refine wp1 rfl rfl ?_
  refine wp2b rfl rfl (fun c1 => ?_) (fun c1 => ?_)
  · refine wp0 rfl rfl ?_
    refine wp2 rfl rfl ?_
    exact wp5 rfl rfl ⟨rfl, rfl⟩
  · refine wp1 rfl rfl ?_
    refine wp1 rfl rfl ?_
    refine wp3 rfl (am_getf rfl rfl) ?_
    refine wp3 rfl (am_alen rfl) ?_
    refine wp2b rfl rfl (fun c2 => ?_) (fun c2 => ?_)
    · refine wp1 rfl rfl ?_
      refine wp3 rfl (am_getf rfl rfl) ?_
      refine wp1 rfl rfl ?_
      refine wp3 rfl (am_aald rfl (am_in_of (i32_div x c1) (by have z := Int32.lt_iff_toInt_lt.mp c2; have e : (Int32.ofNat 1537).toInt = 1537 := rfl; omega))) ?_
      exact wp5 rfl rfl ⟨rfl, rfl⟩
    · refine wp0 rfl rfl ?_
      refine wp2 rfl rfl ?_
      exact wp5 rfl rfl ⟨rfl, rfl⟩
set_option maxRecDepth 20000 in
theorem x1_byteAt (m : ms) (x : Int32) : tb_ev L xs 108 [.ref 11, .int x] (HH s_new (MC m) []) (some (.int 0)) (HH s_new (MC m) []) := by
  refine am_wp_ev ?_
  refine wp1 rfl rfl ?_
  refine wp1 rfl rfl ?_
  refine am_ev_at rfl rfl (x1_pageAt m x) ?_
  refine wp1 rfl rfl ?_
  refine wpV (lv' := [(0, .ref 11), (1, .int x), (2, .null)]) rfl ?_
  refine wp1 rfl rfl ?_
  refine wp2 (pc' := 10) rfl rfl ?_
  refine wp0 rfl rfl ?_
  refine wp2 rfl rfl ?_
  exact wp5i rfl rfl ⟨rfl, rfl⟩
theorem plo_add {a : Int64} (h : inS a) : (327936 + Int64.toInt32 (a - 2147414016)).toInt = 327936 + (a.toInt - 2147414016) := by
  have h1 := h.1
  have h2 := h.2
  have e2 : (2147414016 : Int64).toInt = 2147414016 := rfl
  have e3 : (a - 2147414016).toInt = a.toInt - 2147414016 := by
    rw [Int64.toInt_sub, e2]
    exact Int.bmod_eq_of_le (by omega) (by omega)
  have g3 : (Int64.toInt32 (a - 2147414016)).toInt = (a - 2147414016).toInt := l2iI (by omega) (by omega)
  have e4 : (327936 : Int32).toInt = 327936 := rfl
  rw [i32_addI (by omega) (by omega), g3, e3, e4]
theorem plo_sub {a : Int64} (h1 : 4194304 ≤ a.toInt) (h2 : a.toInt < 4521984) : (Int64.toInt32 (a - 4194304)).toInt = a.toInt - 4194304 := by
  have e2 : (4194304 : Int64).toInt = 4194304 := rfl
  have e3 : (a - 4194304).toInt = a.toInt - 4194304 := by
    rw [Int64.toInt_sub, e2]
    exact Int.bmod_eq_of_le (by omega) (by omega)
  rw [← e3]
  exact l2iI (by omega) (by omega)
set_option maxRecDepth 20000 in
theorem plo (a : Int64) (h : am_H) : ∃ p : Int32, tb_ev L xs 72 [.long a] h (some (.int p)) h ∧ ((inS a ∧ 327936 ≤ p.toInt ∧ p.toInt < 393472) ∨ (¬ inS a ∧ p.toInt < 0) ∨ (¬ inS a ∧ 0 ≤ p.toInt ∧ p.toInt < 327936)) := by
  have e1 : (4194304 : Int64).toInt = 4194304 := rfl
  have e2 : (4521984 : Int64).toInt = 4521984 := rfl
  have e3 : (2147414016 : Int64).toInt = 2147414016 := rfl
  have e4 : (2147479552 : Int64).toInt = 2147479552 := rfl
  by_cases hI : 4194304 ≤ a.toInt ∧ a.toInt < 4521984
  · refine ⟨Int64.toInt32 (a - 4194304), am_wp_ev ?_, Or.inr (Or.inr ⟨fun z => ?_, ?_, ?_⟩)⟩
    · refine wp1 rfl rfl ?_
      refine wp0 rfl rfl ?_
      refine wp0 rfl rfl ?_
      refine wp2b rfl rfl (fun c => absurd (cmp_lt0 c) (by omega)) (fun c1 => ?_)
      refine wp1 rfl rfl ?_
      refine wp0 rfl rfl ?_
      refine wp0 rfl rfl ?_
      refine wp2b rfl rfl (fun c => absurd (cmp_ge0 c) (by omega)) (fun c2 => ?_)
      refine wp1 rfl rfl ?_
      refine wp0 rfl rfl ?_
      refine wp0 rfl rfl ?_
      refine wp0 rfl rfl ?_
      exact wp5i rfl rfl ⟨rfl, rfl⟩
    · have z1 := z.1
      omega
    · rw [plo_sub hI.1 hI.2]
      omega
    · rw [plo_sub hI.1 hI.2]
      omega
  · have hk : ∀ {Q : Option Value → am_H → Prop}, tb_wp L xs 72 23 [(0, .long a)] [] h Q → tb_wp L xs 72 0 (lv_args 0 [.long a]) [] h Q := by
      intro Q k
      refine wp1 rfl rfl ?_
      refine wp0 rfl rfl ?_
      refine wp0 rfl rfl ?_
      refine wp2b rfl rfl (fun c1 => wpL rfl rfl k) (fun c1 => ?_)
      refine wp1 rfl rfl ?_
      refine wp0 rfl rfl ?_
      refine wp0 rfl rfl ?_
      refine wp2b rfl rfl (fun c2 => wpL rfl rfl k) (fun c2 => ?_)
      exact absurd ⟨by have := cmp_nlt c1; omega, by have := nge c2; omega⟩ hI
    by_cases hS : inS a
    · have h1 := hS.1
      have h2 := hS.2
      refine ⟨327936 + Int64.toInt32 (a - 2147414016), am_wp_ev (hk ?_), Or.inl ⟨hS, ?_, ?_⟩⟩
      · refine wp1 rfl rfl ?_
        refine wp0 rfl rfl ?_
        refine wp0 rfl rfl ?_
        refine wp2b rfl rfl (fun c => absurd (cmp_lt0 c) (by omega)) (fun c1 => ?_)
        refine wp1 rfl rfl ?_
        refine wp0 rfl rfl ?_
        refine wp0 rfl rfl ?_
        refine wp2b rfl rfl (fun c => absurd (cmp_ge0 c) (by omega)) (fun c2 => ?_)
        refine wp0 rfl rfl ?_
        refine wp1 rfl rfl ?_
        refine wp0 rfl rfl ?_
        refine wp0 rfl rfl ?_
        refine wp0 rfl rfl ?_
        refine wp0 rfl rfl ?_
        exact wp5i rfl rfl ⟨rfl, rfl⟩
      · rw [plo_add hS]
        omega
      · rw [plo_add hS]
        omega
    · refine ⟨-1, am_wp_ev (hk ?_), Or.inr (Or.inl ⟨hS, by decide⟩)⟩
      refine wp1 rfl rfl ?_
      refine wp0 rfl rfl ?_
      refine wp0 rfl rfl ?_
      refine wp2b rfl rfl (fun c1 => ?_) (fun c1 => ?_)
      · refine wp0 rfl rfl ?_
        exact wp5i rfl rfl ⟨rfl, rfl⟩
      · refine wp1 rfl rfl ?_
        refine wp0 rfl rfl ?_
        refine wp0 rfl rfl ?_
        refine wp2b rfl rfl (fun c2 => ?_) (fun c2 => ?_)
        · refine wp0 rfl rfl ?_
          exact wp5i rfl rfl ⟨rfl, rfl⟩
        · exact absurd ⟨by have := cmp_nlt c1; omega, by have := nge c2; omega⟩ hS
theorem pfor0 (m : ms) (a : Int64) : ∃ p : Int32, tb_ev L xs 71 [.ref 10, .long a, .int 1, .int 0] (HH s_new (MC m) []) (some (.int p)) (HH s_new (MC m) []) ∧ ((inS a ∧ ¬ p = -1) ∨ (¬ inS a ∧ p = -1)) := by
  obtain ⟨p, hp, h | h | h⟩ := plo (L := L) (xs := xs) a (HH s_new (MC m) [])
  · exact ⟨p, pf_in0 m hp h.2.1 h.2.2, Or.inl ⟨h.1, fun z => by subst z; exact absurd h.2.1 (by decide)⟩⟩
  · exact ⟨-1, pf_neg0 m hp (Int32.le_toInt p) h.2, Or.inr ⟨h.1, rfl⟩⟩
  · exact ⟨-1, pf_pos0 m hp h.2.1 h.2.2, Or.inr ⟨h.1, rfl⟩⟩
theorem pfor1 (m : ms) (a : Int64) : ∃ p : Int32, tb_ev L xs 71 [.ref 10, .long a, .int 1, .int 1] (HH s_new (MC m) []) (some (.int p)) (HH s_new (MC m) []) ∧ ((inS a ∧ ¬ p = -1) ∨ (¬ inS a ∧ p = -1)) := by
  obtain ⟨p, hp, h | h | h⟩ := plo (L := L) (xs := xs) a (HH s_new (MC m) [])
  · exact ⟨p, pf_in1 m hp h.2.1 h.2.2, Or.inl ⟨h.1, fun z => by subst z; exact absurd h.2.1 (by decide)⟩⟩
  · exact ⟨-1, pf_neg1 m hp (Int32.le_toInt p) h.2, Or.inr ⟨h.1, rfl⟩⟩
  · exact ⟨-1, pf_pos1 m hp h.2.1 h.2.2, Or.inr ⟨h.1, rfl⟩⟩
set_option maxRecDepth 20000 in
theorem x1_peek (m : ms) (a : Int64) : ∃ x : Int32, tb_wp L xs 13 0 (lv_args 0 [.ref 1, .long a]) [] (HH s_new (MC m) []) (SX (MC m) x) ∧ ((inS a ∧ x = 0) ∨ (¬ inS a ∧ x = -1)) := by
  obtain ⟨p, hp, h | h⟩ := pfor0 (L := L) (xs := xs) m a
  · refine ⟨0, ?_, Or.inl ⟨h.1, rfl⟩⟩
    refine wp1 rfl rfl ?_
    refine wp3 rfl (am_getf rfl rfl) ?_
    refine wp3 rfl (am_getf rfl rfl) ?_
    refine wp1 rfl rfl ?_
    refine wp0 rfl rfl ?_
    refine wp0 rfl rfl ?_
    refine am_ev_at rfl rfl hp ?_
    refine wp1 rfl rfl ?_
    refine wpV (lv' := [(0, .ref 1), (1, .long a), (3, .int p)]) rfl ?_
    refine wp1 rfl rfl ?_
    refine wp0 rfl rfl ?_
    refine wp2b rfl rfl (fun c => absurd c h.2) (fun c => ?_)
    refine wp1 rfl rfl ?_
    refine wp3 rfl (am_getf rfl rfl) ?_
    refine wp3 rfl (am_getf rfl rfl) ?_
    refine wp3 rfl (am_getf rfl rfl) ?_
    refine wp1 rfl rfl ?_
    refine am_ev_at rfl rfl (x1_byteAt m p) ?_
    exact wp5i rfl rfl ⟨_, _, J_new m, rfl, rfl⟩
  · refine ⟨-1, ?_, Or.inr ⟨h.1, rfl⟩⟩
    refine wp1 rfl rfl ?_
    refine wp3 rfl (am_getf rfl rfl) ?_
    refine wp3 rfl (am_getf rfl rfl) ?_
    refine wp1 rfl rfl ?_
    refine wp0 rfl rfl ?_
    refine wp0 rfl rfl ?_
    refine am_ev_at rfl rfl hp ?_
    refine wp1 rfl rfl ?_
    refine wpV (lv' := [(0, .ref 1), (1, .long a), (3, .int p)]) rfl ?_
    refine wp1 rfl rfl ?_
    refine wp0 rfl rfl ?_
    refine wp2b rfl rfl (fun c => ?_) (fun c => absurd h.2 c)
    refine wp0 rfl rfl ?_
    refine wp2 rfl rfl ?_
    exact wp5i rfl rfl ⟨_, _, J_new m, rfl, rfl⟩
set_option maxRecDepth 20000 in
theorem x1_poke (m : ms) (a : Int64) (y : Int32) : ∃ x : Int32, tb_wp L xs 14 0 (lv_args 0 [.ref 1, .long a, .int y]) [] (HH s_new (MC m) []) (SX (MC m) x) ∧ ((inS a ∧ x = 1) ∨ (¬ inS a ∧ x = 0)) := by
  obtain ⟨p, hp, h | h⟩ := pfor1 (L := L) (xs := xs) m a
  · refine ⟨1, ?_, Or.inl ⟨h.1, rfl⟩⟩
    refine wp1 rfl rfl ?_
    refine wp3 rfl (am_getf rfl rfl) ?_
    refine wp3 rfl (am_getf rfl rfl) ?_
    refine wp1 rfl rfl ?_
    refine wp0 rfl rfl ?_
    refine wp0 rfl rfl ?_
    refine am_ev_at rfl rfl hp ?_
    refine wp1 rfl rfl ?_
    refine wpV (lv' := [(0, .ref 1), (1, .long a), (3, .int y), (4, .int p)]) rfl ?_
    refine wp1 rfl rfl ?_
    refine wp0 rfl rfl ?_
    refine wp2b rfl rfl (fun c => absurd c h.2) (fun c => ?_)
    refine wp1 rfl rfl ?_
    refine wp3 rfl (am_getf rfl rfl) ?_
    refine wp3 rfl (am_getf rfl rfl) ?_
    refine wp3 rfl (am_getf rfl rfl) ?_
    refine wp1 rfl rfl ?_
    refine wp1 rfl rfl ?_
    refine wp0 rfl rfl ?_
    refine wp0 rfl rfl ?_
    refine wp4 rfl rfl (sf_116_1 (J_new m) _ _) (fun rv h1 hq => ?_)
    obtain ⟨s1, D1, hJ1, rfl, rfl⟩ := hq
    refine wp0 rfl rfl ?_
    exact wp5z rfl rfl b1 ⟨_, _, hJ1, rfl, rfl⟩
  · refine ⟨0, ?_, Or.inr ⟨h.1, rfl⟩⟩
    refine wp1 rfl rfl ?_
    refine wp3 rfl (am_getf rfl rfl) ?_
    refine wp3 rfl (am_getf rfl rfl) ?_
    refine wp1 rfl rfl ?_
    refine wp0 rfl rfl ?_
    refine wp0 rfl rfl ?_
    refine am_ev_at rfl rfl hp ?_
    refine wp1 rfl rfl ?_
    refine wpV (lv' := [(0, .ref 1), (1, .long a), (3, .int y), (4, .int p)]) rfl ?_
    refine wp1 rfl rfl ?_
    refine wp0 rfl rfl ?_
    refine wp2b rfl rfl (fun c => ?_) (fun c => absurd h.2 c)
    refine wp0 rfl rfl ?_
    exact wp5z rfl rfl b0 ⟨_, _, J_new m, rfl, rfl⟩

end XCLS

/-! begin, operand, set of the class: their answers by their arguments alone, as the model's -/
def SX (mc : am_H) (x : Int32) (v : Option Value) (h : am_H) : Prop := ∃ (s : cs) (D : List pgT), J s mc D ∧ h = HH s mc D ∧ v = some (.int x)
def bgC (a b c d e f : Int32) : Int32 := if b < 0 then 0 else if c < b then 0 else if d < c then 0 else if e < d then 0 else if f < e then 0 else if a < f then 0 else if a ≤ 262144 then 1 else 0
def opC (k a r : Int32) : Int32 := if k < 0 then 0 else if 2 < k then 0 else if a < 0 then 0 else if a ≤ 3 then (if r < 0 then 0 else if 15 < r then 0 else if a = 1 then 1 else if r = 0 then 1 else 0) else 0
def seC (k : Int32) : Int32 := if k < 0 then 0 else if k ≤ 16 then 1 else 0
theorem bgC_eq (a b c d e f : Int32) : bgC a b c d e f = bgF a b c d e f := by
  simp only [bgC, bgF, Int32.lt_iff_toInt_lt, Int32.le_iff_toInt_le]
  have e0 : (0 : Int32).toInt = 0 := rfl
  have e1 : (262144 : Int32).toInt = 262144 := rfl
  repeat' split
  all_goals first | rfl | (exfalso; omega)
theorem opC_eq (k a r : Int32) : opC k a r = opF k a r := by
  simp only [opC, opF, Int32.lt_iff_toInt_lt, Int32.le_iff_toInt_le, ← Int32.toInt_inj]
  have e0 : (0 : Int32).toInt = 0 := rfl
  have e1 : (1 : Int32).toInt = 1 := rfl
  have e2 : (2 : Int32).toInt = 2 := rfl
  have e3 : (3 : Int32).toInt = 3 := rfl
  have e15 : (15 : Int32).toInt = 15 := rfl
  repeat' split
  all_goals first | rfl | (exfalso; omega)
theorem seC_eq (k : Int32) : seC k = seF k := rfl

section SGX
variable {L : Nat} {xs : Nat → Int32}
set_option maxRecDepth 20000 in
theorem sx_begin {s : cs} {mc : am_H} {D : List pgT} (hJ : J s mc D) (l1 : Int32) (l2 : Int32) (l3 : Int32) (l4 : Int32) (l5 : Int32) (l6 : Int32) : tb_wp L xs 2 0 (lv_args 0 [.ref 1, .int l1, .int l2, .int l3, .int l4, .int l5, .int l6]) [] (HH s mc D) (SX mc (bgC l1 l2 l3 l4 l5 l6)) := by
  refine wp0 rfl rfl ?_
  refine wp1 rfl rfl ?_
  refine wp2b rfl rfl (fun c1 => ?_) (fun c1 => ?_)
  · refine wp0 rfl rfl ?_
    refine wp1 rfl rfl ?_
    refine wpV (lv' := [(0, .ref 1), (1, .int l1), (2, .int l2), (3, .int l3), (4, .int l4), (5, .int l5), (6, .int l6), (7, .int 0)]) rfl ?_
    refine wp1 rfl rfl ?_
    refine wp2 (pc' := 54) rfl rfl ?_
    refine wp0 rfl rfl ?_
    exact wp5z rfl rfl b0 ⟨_, _, hJ, rfl, by simp only [bgC, if_pos c1]⟩
  · refine wp1 rfl rfl ?_
    refine wp1 rfl rfl ?_
    refine wp2b rfl rfl (fun c2 => ?_) (fun c2 => ?_)
    · refine wp0 rfl rfl ?_
      refine wp1 rfl rfl ?_
      refine wpV (lv' := [(0, .ref 1), (1, .int l1), (2, .int l2), (3, .int l3), (4, .int l4), (5, .int l5), (6, .int l6), (7, .int 0)]) rfl ?_
      refine wp1 rfl rfl ?_
      refine wp2 (pc' := 54) rfl rfl ?_
      refine wp0 rfl rfl ?_
      exact wp5z rfl rfl b0 ⟨_, _, hJ, rfl, by simp only [bgC, if_neg c1, if_pos c2]⟩
    · refine wp1 rfl rfl ?_
      refine wp1 rfl rfl ?_
      refine wp2b rfl rfl (fun c3 => ?_) (fun c3 => ?_)
      · refine wp0 rfl rfl ?_
        refine wp1 rfl rfl ?_
        refine wpV (lv' := [(0, .ref 1), (1, .int l1), (2, .int l2), (3, .int l3), (4, .int l4), (5, .int l5), (6, .int l6), (7, .int 0)]) rfl ?_
        refine wp1 rfl rfl ?_
        refine wp2 (pc' := 54) rfl rfl ?_
        refine wp0 rfl rfl ?_
        exact wp5z rfl rfl b0 ⟨_, _, hJ, rfl, by simp only [bgC, if_neg c1, if_neg c2, if_pos c3]⟩
      · refine wp1 rfl rfl ?_
        refine wp1 rfl rfl ?_
        refine wp2b rfl rfl (fun c4 => ?_) (fun c4 => ?_)
        · refine wp0 rfl rfl ?_
          refine wp1 rfl rfl ?_
          refine wpV (lv' := [(0, .ref 1), (1, .int l1), (2, .int l2), (3, .int l3), (4, .int l4), (5, .int l5), (6, .int l6), (7, .int 0)]) rfl ?_
          refine wp1 rfl rfl ?_
          refine wp2 (pc' := 54) rfl rfl ?_
          refine wp0 rfl rfl ?_
          exact wp5z rfl rfl b0 ⟨_, _, hJ, rfl, by simp only [bgC, if_neg c1, if_neg c2, if_neg c3, if_pos c4]⟩
        · refine wp1 rfl rfl ?_
          refine wp1 rfl rfl ?_
          refine wp2b rfl rfl (fun c5 => ?_) (fun c5 => ?_)
          · refine wp0 rfl rfl ?_
            refine wp1 rfl rfl ?_
            refine wpV (lv' := [(0, .ref 1), (1, .int l1), (2, .int l2), (3, .int l3), (4, .int l4), (5, .int l5), (6, .int l6), (7, .int 0)]) rfl ?_
            refine wp1 rfl rfl ?_
            refine wp2 (pc' := 54) rfl rfl ?_
            refine wp0 rfl rfl ?_
            exact wp5z rfl rfl b0 ⟨_, _, hJ, rfl, by simp only [bgC, if_neg c1, if_neg c2, if_neg c3, if_neg c4, if_pos c5]⟩
          · refine wp0 rfl rfl ?_
            refine wp2 rfl rfl ?_
            refine wp1 rfl rfl ?_
            refine wpV (lv' := [(0, .ref 1), (1, .int l1), (2, .int l2), (3, .int l3), (4, .int l4), (5, .int l5), (6, .int l6), (7, .int 1)]) rfl ?_
            refine wp1 rfl rfl ?_
            refine wp2 (pc' := 42) rfl rfl ?_
            refine wp1 rfl rfl ?_
            refine wp1 rfl rfl ?_
            refine wp2b rfl rfl (fun c6 => ?_) (fun c6 => ?_)
            · refine wp0 rfl rfl ?_
              exact wp5z rfl rfl b0 ⟨_, _, hJ, rfl, by simp only [bgC, if_neg c1, if_neg c2, if_neg c3, if_neg c4, if_neg c5, if_pos c6]⟩
            · refine wp1 rfl rfl ?_
              refine wp0 rfl rfl ?_
              refine wp2b rfl rfl (fun c7 => ?_) (fun c7 => ?_)
              · refine wp1 rfl rfl ?_
                refine wp3 rfl (am_getf rfl rfl) ?_
                refine wp3 rfl (am_getf rfl rfl) ?_
                refine wp1 rfl rfl ?_
                refine wp1 rfl rfl ?_
                refine wp1 rfl rfl ?_
                refine wp1 rfl rfl ?_
                refine wp1 rfl rfl ?_
                refine wp1 rfl rfl ?_
                refine wp4 rfl rfl (sf_68 hJ (l1) (l2) (l3) (l4) (l5) (l6)) (fun rv h1 hq => ?_)
                obtain ⟨s9, D10, hJ11, rfl, rfl⟩ := hq
                refine wp1 rfl rfl ?_
                refine wp3 rfl (am_getf rfl rfl) ?_
                refine wp3 rfl (am_getf rfl rfl) ?_
                refine wp1 rfl rfl ?_
                refine wp3 rfl (am_getf rfl rfl) ?_
                refine wp1 rfl rfl ?_
                refine wp4 rfl rfl (sf_69 hJ11 (l1)) (fun rv h1 hq => ?_)
                obtain ⟨s14, D15, hJ16, rfl, rfl⟩ := hq
                refine wp1 rfl rfl ?_
                refine wp3 rfl (am_getf rfl rfl) ?_
                refine wp4 rfl rfl (sf_40 hJ16 ) (fun rv h1 hq => ?_)
                obtain ⟨s19, D20, hJ21, rfl, rfl⟩ := hq
                refine wp1 rfl rfl ?_
                refine wp3 rfl (am_getf rfl rfl) ?_
                refine wp4 rfl rfl (sf_104 hJ21 ) (fun rv h1 hq => ?_)
                obtain ⟨s24, D25, hJ26, rfl, rfl⟩ := hq
                refine wp1 rfl rfl ?_
                refine wp0 rfl rfl ?_
                refine wp3 rfl (am_putf rfl (Nat.le_of_ble_eq_true rfl) (b01_nar b0) (b01_fit b0)) ?_
                have hJ28 := J_ended hJ26 b0
                refine wpH (h' := HH (s_ended s24 0) mc D25) rfl ?_
                refine wp1 rfl rfl ?_
                refine wp0 rfl rfl ?_
                refine wp3 rfl (am_putf rfl (Nat.le_of_ble_eq_true rfl) rfl rfl) ?_
                have hJ29 : J (s_steps (s_ended s24 0) 0) mc D25 := hJ28
                refine wpH (h' := HH (s_steps (s_ended s24 0) 0) mc D25) rfl ?_
                refine wp0 rfl rfl ?_
                exact wp5z rfl rfl b1 ⟨_, _, hJ29, rfl, by simp only [bgC, if_neg c1, if_neg c2, if_neg c3, if_neg c4, if_neg c5, if_neg c6, if_pos c7]⟩
              · refine wp0 rfl rfl ?_
                exact wp5z rfl rfl b0 ⟨_, _, hJ, rfl, by simp only [bgC, if_neg c1, if_neg c2, if_neg c3, if_neg c4, if_neg c5, if_neg c6, if_neg c7]⟩
set_option maxRecDepth 20000 in
theorem sx_operand {s : cs} {mc : am_H} {D : List pgT} (hJ : J s mc D) (l1 : Int32) (l2 : Int32) (l3 : Int32) : tb_wp L xs 11 0 (lv_args 0 [.ref 1, .int l1, .int l2, .int l3]) [] (HH s mc D) (SX mc (opC l1 l2 l3)) := by
  refine wp1 rfl rfl ?_
  refine wp2b rfl rfl (fun c1 => ?_) (fun c1 => ?_)
  · refine wp0 rfl rfl ?_
    exact wp5z rfl rfl b0 ⟨_, _, hJ, rfl, by simp only [opC, if_pos c1]⟩
  · refine wp1 rfl rfl ?_
    refine wp0 rfl rfl ?_
    refine wp2b rfl rfl (fun c2 => ?_) (fun c2 => ?_)
    · refine wp0 rfl rfl ?_
      exact wp5z rfl rfl b0 ⟨_, _, hJ, rfl, by simp only [opC, if_neg c1, if_pos c2]⟩
    · refine wp1 rfl rfl ?_
      refine wp2b rfl rfl (fun c3 => ?_) (fun c3 => ?_)
      · refine wp0 rfl rfl ?_
        exact wp5z rfl rfl b0 ⟨_, _, hJ, rfl, by simp only [opC, if_neg c1, if_neg c2, if_pos c3]⟩
      · refine wp1 rfl rfl ?_
        refine wp0 rfl rfl ?_
        refine wp2b rfl rfl (fun c4 => ?_) (fun c4 => ?_)
        · refine wp1 rfl rfl ?_
          refine wp2b rfl rfl (fun c5 => ?_) (fun c5 => ?_)
          · refine wp0 rfl rfl ?_
            exact wp5z rfl rfl b0 ⟨_, _, hJ, rfl, by simp only [opC, if_neg c1, if_neg c2, if_neg c3, if_pos c4, if_pos c5]⟩
          · refine wp1 rfl rfl ?_
            refine wp0 rfl rfl ?_
            refine wp2b rfl rfl (fun c6 => ?_) (fun c6 => ?_)
            · refine wp0 rfl rfl ?_
              exact wp5z rfl rfl b0 ⟨_, _, hJ, rfl, by simp only [opC, if_neg c1, if_neg c2, if_neg c3, if_pos c4, if_neg c5, if_pos c6]⟩
            · refine wp1 rfl rfl ?_
              refine wp0 rfl rfl ?_
              refine wp2b rfl rfl (fun c7 => ?_) (fun c7 => ?_)
              · refine wp1 rfl rfl ?_
                refine wp3 rfl (am_getf rfl rfl) ?_
                refine wp3 rfl (am_getf rfl rfl) ?_
                refine wp1 rfl rfl ?_
                refine wp1 rfl rfl ?_
                refine wp3 rfl (am_iast rfl (by simp only [Int32.lt_iff_toInt_lt, Int32.le_iff_toInt_le, ← Int32.toInt_inj] at c1 c2; have e0 : (0 : Int32).toInt = 0 := rfl; have g0 : (Int32.ofNat 0).toInt = 0 := rfl; have e1 : (2 : Int32).toInt = 2 := rfl; have g1 : (Int32.ofNat 2).toInt = 2 := rfl; exact am_in_of (by omega) (by omega))) ?_
                have hJ8 : J (s_kinds s (upd (g_kinds s) (Int32.toNatClampNeg l1) l2)) mc D := hJ
                refine wpH (h' := HH (s_kinds s (upd (g_kinds s) (Int32.toNatClampNeg l1) l2)) mc D) rfl ?_
                refine wp1 rfl rfl ?_
                refine wp3 rfl (am_getf rfl rfl) ?_
                refine wp3 rfl (am_getf rfl rfl) ?_
                refine wp1 rfl rfl ?_
                refine wp1 rfl rfl ?_
                refine wp3 rfl (am_iast rfl (by simp only [Int32.lt_iff_toInt_lt, Int32.le_iff_toInt_le, ← Int32.toInt_inj] at c1 c2; have e0 : (0 : Int32).toInt = 0 := rfl; have g0 : (Int32.ofNat 0).toInt = 0 := rfl; have e1 : (2 : Int32).toInt = 2 := rfl; have g1 : (Int32.ofNat 2).toInt = 2 := rfl; exact am_in_of (by omega) (by omega))) ?_
                have hJ9 : J (s_hregs (s_kinds s (upd (g_kinds s) (Int32.toNatClampNeg l1) l2)) (upd (g_hregs (s_kinds s (upd (g_kinds s) (Int32.toNatClampNeg l1) l2))) (Int32.toNatClampNeg l1) l3)) mc D := J_hregs hJ8 (by simp only [Int32.lt_iff_toInt_lt, Int32.le_iff_toInt_le, ← Int32.toInt_inj] at c5 c6; have e0 : (0 : Int32).toInt = 0 := rfl; have g0 : (Int32.ofNat 0).toInt = 0 := rfl; have e1 : (15 : Int32).toInt = 15 := rfl; have g1 : (Int32.ofNat 15).toInt = 15 := rfl; exact am_in_of (by omega) (by omega))
                refine wpH (h' := HH (s_hregs (s_kinds s (upd (g_kinds s) (Int32.toNatClampNeg l1) l2)) (upd (g_hregs (s_kinds s (upd (g_kinds s) (Int32.toNatClampNeg l1) l2))) (Int32.toNatClampNeg l1) l3)) mc D) rfl ?_
                refine wp0 rfl rfl ?_
                exact wp5z rfl rfl b1 ⟨_, _, hJ9, rfl, by simp only [opC, if_neg c1, if_neg c2, if_neg c3, if_pos c4, if_neg c5, if_neg c6, if_pos c7]⟩
              · refine wp1 rfl rfl ?_
                refine wp2b rfl rfl (fun c10 => ?_) (fun c10 => ?_)
                · refine wp1 rfl rfl ?_
                  refine wp3 rfl (am_getf rfl rfl) ?_
                  refine wp3 rfl (am_getf rfl rfl) ?_
                  refine wp1 rfl rfl ?_
                  refine wp1 rfl rfl ?_
                  refine wp3 rfl (am_iast rfl (by simp only [Int32.lt_iff_toInt_lt, Int32.le_iff_toInt_le, ← Int32.toInt_inj] at c1 c2; have e0 : (0 : Int32).toInt = 0 := rfl; have g0 : (Int32.ofNat 0).toInt = 0 := rfl; have e1 : (2 : Int32).toInt = 2 := rfl; have g1 : (Int32.ofNat 2).toInt = 2 := rfl; exact am_in_of (by omega) (by omega))) ?_
                  have hJ11 : J (s_kinds s (upd (g_kinds s) (Int32.toNatClampNeg l1) l2)) mc D := hJ
                  refine wpH (h' := HH (s_kinds s (upd (g_kinds s) (Int32.toNatClampNeg l1) l2)) mc D) rfl ?_
                  refine wp1 rfl rfl ?_
                  refine wp3 rfl (am_getf rfl rfl) ?_
                  refine wp3 rfl (am_getf rfl rfl) ?_
                  refine wp1 rfl rfl ?_
                  refine wp1 rfl rfl ?_
                  refine wp3 rfl (am_iast rfl (by simp only [Int32.lt_iff_toInt_lt, Int32.le_iff_toInt_le, ← Int32.toInt_inj] at c1 c2; have e0 : (0 : Int32).toInt = 0 := rfl; have g0 : (Int32.ofNat 0).toInt = 0 := rfl; have e1 : (2 : Int32).toInt = 2 := rfl; have g1 : (Int32.ofNat 2).toInt = 2 := rfl; exact am_in_of (by omega) (by omega))) ?_
                  have hJ12 : J (s_hregs (s_kinds s (upd (g_kinds s) (Int32.toNatClampNeg l1) l2)) (upd (g_hregs (s_kinds s (upd (g_kinds s) (Int32.toNatClampNeg l1) l2))) (Int32.toNatClampNeg l1) l3)) mc D := J_hregs hJ11 (by simp only [Int32.lt_iff_toInt_lt, Int32.le_iff_toInt_le, ← Int32.toInt_inj] at c10 c5 c6; have e0 : (0 : Int32).toInt = 0 := rfl; have g0 : (Int32.ofNat 0).toInt = 0 := rfl; have e1 : (15 : Int32).toInt = 15 := rfl; have g1 : (Int32.ofNat 15).toInt = 15 := rfl; exact am_in_of (by omega) (by omega))
                  refine wpH (h' := HH (s_hregs (s_kinds s (upd (g_kinds s) (Int32.toNatClampNeg l1) l2)) (upd (g_hregs (s_kinds s (upd (g_kinds s) (Int32.toNatClampNeg l1) l2))) (Int32.toNatClampNeg l1) l3)) mc D) rfl ?_
                  refine wp0 rfl rfl ?_
                  exact wp5z rfl rfl b1 ⟨_, _, hJ12, rfl, by simp only [opC, if_neg c1, if_neg c2, if_neg c3, if_pos c4, if_neg c5, if_neg c6, if_neg c7, if_pos c10]⟩
                · refine wp0 rfl rfl ?_
                  exact wp5z rfl rfl b0 ⟨_, _, hJ, rfl, by simp only [opC, if_neg c1, if_neg c2, if_neg c3, if_pos c4, if_neg c5, if_neg c6, if_neg c7, if_neg c10]⟩
        · refine wp0 rfl rfl ?_
          exact wp5z rfl rfl b0 ⟨_, _, hJ, rfl, by simp only [opC, if_neg c1, if_neg c2, if_neg c3, if_neg c4]⟩
set_option maxRecDepth 20000 in
theorem sx_set {s : cs} {mc : am_H} {D : List pgT} (hJ : J s mc D) (l1 : Int32) (l2 : Int64) : tb_wp L xs 16 0 (lv_args 0 [.ref 1, .int l1, .long l2]) [] (HH s mc D) (SX mc (seC l1)) := by
  refine wp1 rfl rfl ?_
  refine wp2b rfl rfl (fun c1 => ?_) (fun c1 => ?_)
  · refine wp0 rfl rfl ?_
    exact wp5z rfl rfl b0 ⟨_, _, hJ, rfl, by simp only [seC, if_pos c1]⟩
  · refine wp1 rfl rfl ?_
    refine wp0 rfl rfl ?_
    refine wp2b rfl rfl (fun c2 => ?_) (fun c2 => ?_)
    · refine wp1 rfl rfl ?_
      refine wp0 rfl rfl ?_
      refine wp2b rfl rfl (fun c3 => ?_) (fun c3 => ?_)
      · refine wp1 rfl rfl ?_
        refine wp3 rfl (am_getf rfl rfl) ?_
        refine wp1 rfl rfl ?_
        refine wp3 rfl (am_putf rfl (Nat.le_of_ble_eq_true rfl) rfl rfl) ?_
        have hJ4 : J (s_ip s l2) mc D := hJ
        refine wpH (h' := HH (s_ip s l2) mc D) rfl ?_
        refine wp2 rfl rfl ?_
        refine wp0 rfl rfl ?_
        exact wp5z rfl rfl b1 ⟨_, _, hJ4, rfl, by simp only [seC, if_neg c1, if_pos c2, if_pos c3]⟩
      · refine wp1 rfl rfl ?_
        refine wp3 rfl (am_getf rfl rfl) ?_
        refine wp3 rfl (am_getf rfl rfl) ?_
        refine wp1 rfl rfl ?_
        refine wp1 rfl rfl ?_
        refine wp3 rfl (am_last rfl (by simp only [Int32.lt_iff_toInt_lt, Int32.le_iff_toInt_le, ← Int32.toInt_inj] at c1 c2 c3; have e0 : (0 : Int32).toInt = 0 := rfl; have g0 : (Int32.ofNat 0).toInt = 0 := rfl; have e1 : (16 : Int32).toInt = 16 := rfl; have g1 : (Int32.ofNat 16).toInt = 16 := rfl; exact am_in_of (by omega) (by omega))) ?_
        have hJ5 : J (s_regs s (vp_updL (g_regs s) (Int32.toNatClampNeg l1) l2)) mc D := hJ
        refine wpH (h' := HH (s_regs s (vp_updL (g_regs s) (Int32.toNatClampNeg l1) l2)) mc D) rfl ?_
        refine wp0 rfl rfl ?_
        exact wp5z rfl rfl b1 ⟨_, _, hJ5, rfl, by simp only [seC, if_neg c1, if_pos c2, if_neg c3]⟩
    · refine wp0 rfl rfl ?_
      exact wp5z rfl rfl b0 ⟨_, _, hJ, rfl, by simp only [seC, if_neg c1, if_neg c2]⟩
end SGX

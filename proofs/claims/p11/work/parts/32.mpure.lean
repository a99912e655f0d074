/-! begin, operand, set of the model: their answers by their arguments alone -/
def NX (s : cs) (D : List pgT) (x : Int32) (v : Option Value) (h : am_H) : Prop := ∃ m', K m' ∧ h = HH s (MC m') D ∧ v = some (.int x)
def bgF (a b c d e f : Int32) : Int32 := if a < 0 then 0 else if 262144 < a then 0 else if b < 0 then 0 else if c < b then 0 else if d < c then 0 else if e < d then 0 else if f < e then 0 else if a < f then 0 else 1
def opF (k a r : Int32) : Int32 := if k < 0 then 0 else if 2 < k then 0 else if a < 0 then 0 else if 3 < a then 0 else if r < 0 then 0 else if a = 1 then (if r ≤ 15 then 1 else 0) else if r ≤ 0 then 1 else 0
def seF (k : Int32) : Int32 := if k < 0 then 0 else if k ≤ 16 then 1 else 0
theorem bnd {a : Int32} (h1 : ¬ a < 0) (h2 : ¬ 262144 < a) : 0 ≤ a.toInt ∧ a.toInt ≤ 262144 := by
  have g1 : ¬ a.toInt < 0 := fun z => h1 (Int32.lt_iff_toInt_lt.mpr z)
  have g2 : ¬ 262144 < a.toInt := fun z => h2 (Int32.lt_iff_toInt_lt.mpr z)
  omega

section SM4
variable {L : Nat} {xs : Nat → Int32} {s : cs} {D : List pgT}
set_option maxRecDepth 20000 in
theorem mx_begin {m : ms} (hJ : K m) (l1 : Int32) (l2 : Int32) (l3 : Int32) (l4 : Int32) (l5 : Int32) (l6 : Int32) : tb_wp L xs 130 0 (lv_args 0 [.ref 24, .int l1, .int l2, .int l3, .int l4, .int l5, .int l6]) [] (HH s (MC m) D) (NX s D (bgF l1 l2 l3 l4 l5 l6)) := by
  refine wp1 rfl rfl ?_
  refine wp0 rfl rfl ?_
  refine wp3 rfl (am_putf rfl (Nat.le_of_ble_eq_true rfl) rfl rfl) ?_
  have hJ1 : K (t_thrown m 0) := hJ
  refine wpH (h' := HH s (MC (t_thrown m 0)) D) rfl ?_
  refine wp1 rfl rfl ?_
  refine wp2b rfl rfl (fun c2 => ?_) (fun c2 => ?_)
  · refine wp0 rfl rfl ?_
    refine wp1 rfl rfl ?_
    refine wpV (lv' := [(0, .ref 24), (1, .int l1), (2, .int l2), (3, .int l3), (4, .int l4), (5, .int l5), (6, .int l6), (7, .int 0)]) rfl ?_
    refine wp1 rfl rfl ?_
    refine wp2 (pc' := 75) rfl rfl ?_
    refine wp1 rfl rfl ?_
    exact wp5z rfl rfl b0 ⟨_, hJ1, rfl, by simp only [bgF, if_true, if_false, if_pos c2]⟩
  · refine wp1 rfl rfl ?_
    refine wp0 rfl rfl ?_
    refine wp2b rfl rfl (fun c3 => ?_) (fun c3 => ?_)
    · refine wp0 rfl rfl ?_
      refine wp1 rfl rfl ?_
      refine wpV (lv' := [(0, .ref 24), (1, .int l1), (2, .int l2), (3, .int l3), (4, .int l4), (5, .int l5), (6, .int l6), (7, .int 0)]) rfl ?_
      refine wp1 rfl rfl ?_
      refine wp2 (pc' := 75) rfl rfl ?_
      refine wp1 rfl rfl ?_
      exact wp5z rfl rfl b0 ⟨_, hJ1, rfl, by simp only [bgF, if_true, if_false, if_neg c2, if_pos c3]⟩
    · refine wp1 rfl rfl ?_
      refine wp2b rfl rfl (fun c4 => ?_) (fun c4 => ?_)
      · refine wp0 rfl rfl ?_
        refine wp1 rfl rfl ?_
        refine wpV (lv' := [(0, .ref 24), (1, .int l1), (2, .int l2), (3, .int l3), (4, .int l4), (5, .int l5), (6, .int l6), (7, .int 0)]) rfl ?_
        refine wp1 rfl rfl ?_
        refine wp2 (pc' := 75) rfl rfl ?_
        refine wp1 rfl rfl ?_
        exact wp5z rfl rfl b0 ⟨_, hJ1, rfl, by simp only [bgF, if_true, if_false, if_neg c2, if_neg c3, if_pos c4]⟩
      · refine wp1 rfl rfl ?_
        refine wp1 rfl rfl ?_
        refine wp2b rfl rfl (fun c5 => ?_) (fun c5 => ?_)
        · refine wp0 rfl rfl ?_
          refine wp1 rfl rfl ?_
          refine wpV (lv' := [(0, .ref 24), (1, .int l1), (2, .int l2), (3, .int l3), (4, .int l4), (5, .int l5), (6, .int l6), (7, .int 0)]) rfl ?_
          refine wp1 rfl rfl ?_
          refine wp2 (pc' := 75) rfl rfl ?_
          refine wp1 rfl rfl ?_
          exact wp5z rfl rfl b0 ⟨_, hJ1, rfl, by simp only [bgF, if_true, if_false, if_neg c2, if_neg c3, if_neg c4, if_pos c5]⟩
        · refine wp1 rfl rfl ?_
          refine wp1 rfl rfl ?_
          refine wp2b rfl rfl (fun c6 => ?_) (fun c6 => ?_)
          · refine wp0 rfl rfl ?_
            refine wp1 rfl rfl ?_
            refine wpV (lv' := [(0, .ref 24), (1, .int l1), (2, .int l2), (3, .int l3), (4, .int l4), (5, .int l5), (6, .int l6), (7, .int 0)]) rfl ?_
            refine wp1 rfl rfl ?_
            refine wp2 (pc' := 75) rfl rfl ?_
            refine wp1 rfl rfl ?_
            exact wp5z rfl rfl b0 ⟨_, hJ1, rfl, by simp only [bgF, if_true, if_false, if_neg c2, if_neg c3, if_neg c4, if_neg c5, if_pos c6]⟩
          · refine wp1 rfl rfl ?_
            refine wp1 rfl rfl ?_
            refine wp2b rfl rfl (fun c7 => ?_) (fun c7 => ?_)
            · refine wp0 rfl rfl ?_
              refine wp1 rfl rfl ?_
              refine wpV (lv' := [(0, .ref 24), (1, .int l1), (2, .int l2), (3, .int l3), (4, .int l4), (5, .int l5), (6, .int l6), (7, .int 0)]) rfl ?_
              refine wp1 rfl rfl ?_
              refine wp2 (pc' := 75) rfl rfl ?_
              refine wp1 rfl rfl ?_
              exact wp5z rfl rfl b0 ⟨_, hJ1, rfl, by simp only [bgF, if_true, if_false, if_neg c2, if_neg c3, if_neg c4, if_neg c5, if_neg c6, if_pos c7]⟩
            · refine wp1 rfl rfl ?_
              refine wp1 rfl rfl ?_
              refine wp2b rfl rfl (fun c8 => ?_) (fun c8 => ?_)
              · refine wp0 rfl rfl ?_
                refine wp1 rfl rfl ?_
                refine wpV (lv' := [(0, .ref 24), (1, .int l1), (2, .int l2), (3, .int l3), (4, .int l4), (5, .int l5), (6, .int l6), (7, .int 0)]) rfl ?_
                refine wp1 rfl rfl ?_
                refine wp2 (pc' := 75) rfl rfl ?_
                refine wp1 rfl rfl ?_
                exact wp5z rfl rfl b0 ⟨_, hJ1, rfl, by simp only [bgF, if_true, if_false, if_neg c2, if_neg c3, if_neg c4, if_neg c5, if_neg c6, if_neg c7, if_pos c8]⟩
              · refine wp1 rfl rfl ?_
                refine wp1 rfl rfl ?_
                refine wp2b rfl rfl (fun c9 => ?_) (fun c9 => ?_)
                · refine wp0 rfl rfl ?_
                  refine wp1 rfl rfl ?_
                  refine wpV (lv' := [(0, .ref 24), (1, .int l1), (2, .int l2), (3, .int l3), (4, .int l4), (5, .int l5), (6, .int l6), (7, .int 0)]) rfl ?_
                  refine wp1 rfl rfl ?_
                  refine wp2 (pc' := 75) rfl rfl ?_
                  refine wp1 rfl rfl ?_
                  exact wp5z rfl rfl b0 ⟨_, hJ1, rfl, by simp only [bgF, if_true, if_false, if_neg c2, if_neg c3, if_neg c4, if_neg c5, if_neg c6, if_neg c7, if_neg c8, if_pos c9]⟩
                · refine wp0 rfl rfl ?_
                  refine wp2 rfl rfl ?_
                  refine wp1 rfl rfl ?_
                  refine wpV (lv' := [(0, .ref 24), (1, .int l1), (2, .int l2), (3, .int l3), (4, .int l4), (5, .int l5), (6, .int l6), (7, .int 1)]) rfl ?_
                  refine wp1 rfl rfl ?_
                  refine wp2 (pc' := 62) rfl rfl ?_
                  refine wp1 rfl rfl ?_
                  refine wp1 rfl rfl ?_
                  refine wp1 rfl rfl ?_
                  refine wp1 rfl rfl ?_
                  refine wp1 rfl rfl ?_
                  refine wp1 rfl rfl ?_
                  refine wp1 rfl rfl ?_
                  refine wp4 rfl rfl (mf_128 hJ1 (l1) (l2) (l3) (l4) (l5) (l6) (bnd c2 c3)) (fun rv h1 hq => ?_)
                  obtain ⟨s11, hJ13, D12, rfl, rfl⟩ := hq
                  refine wp1 rfl rfl ?_
                  exact wp5z rfl rfl b1 ⟨_, hJ13, rfl, by simp only [bgF, if_true, if_false, if_neg c2, if_neg c3, if_neg c4, if_neg c5, if_neg c6, if_neg c7, if_neg c8, if_neg c9]⟩
set_option maxRecDepth 20000 in
theorem mx_operand {m : ms} (hJ : K m) (l1 : Int32) (l2 : Int32) (l3 : Int32) : tb_wp L xs 160 0 (lv_args 0 [.ref 24, .int l1, .int l2, .int l3]) [] (HH s (MC m) D) (NX s D (opF l1 l2 l3)) := by
  refine wp1 rfl rfl ?_
  refine wp0 rfl rfl ?_
  refine wp3 rfl (am_putf rfl (Nat.le_of_ble_eq_true rfl) rfl rfl) ?_
  have hJ1 : K (t_thrown m 0) := hJ
  refine wpH (h' := HH s (MC (t_thrown m 0)) D) rfl ?_
  refine wp1 rfl rfl ?_
  refine wp2b rfl rfl (fun c2 => ?_) (fun c2 => ?_)
  · refine wp0 rfl rfl ?_
    exact wp5z rfl rfl b0 ⟨_, hJ1, rfl, by simp only [opF, if_true, if_false, if_pos c2]⟩
  · refine wp1 rfl rfl ?_
    refine wp0 rfl rfl ?_
    refine wp2b rfl rfl (fun c3 => ?_) (fun c3 => ?_)
    · refine wp0 rfl rfl ?_
      exact wp5z rfl rfl b0 ⟨_, hJ1, rfl, by simp only [opF, if_true, if_false, if_neg c2, if_pos c3]⟩
    · refine wp1 rfl rfl ?_
      refine wp2b rfl rfl (fun c4 => ?_) (fun c4 => ?_)
      · refine wp0 rfl rfl ?_
        exact wp5z rfl rfl b0 ⟨_, hJ1, rfl, by simp only [opF, if_true, if_false, if_neg c2, if_neg c3, if_pos c4]⟩
      · refine wp1 rfl rfl ?_
        refine wp0 rfl rfl ?_
        refine wp2b rfl rfl (fun c5 => ?_) (fun c5 => ?_)
        · refine wp0 rfl rfl ?_
          exact wp5z rfl rfl b0 ⟨_, hJ1, rfl, by simp only [opF, if_true, if_false, if_neg c2, if_neg c3, if_neg c4, if_pos c5]⟩
        · refine wp1 rfl rfl ?_
          refine wp2b rfl rfl (fun c6 => ?_) (fun c6 => ?_)
          · refine wp0 rfl rfl ?_
            exact wp5z rfl rfl b0 ⟨_, hJ1, rfl, by simp only [opF, if_true, if_false, if_neg c2, if_neg c3, if_neg c4, if_neg c5, if_pos c6]⟩
          · refine wp1 rfl rfl ?_
            refine wp1 rfl rfl ?_
            refine wp0 rfl rfl ?_
            refine wp2b rfl rfl (fun c7 => ?_) (fun c7 => ?_)
            · refine wp0 rfl rfl ?_
              refine wp2 rfl rfl ?_
              refine wp2b rfl rfl (fun c8 => ?_) (fun c8 => ?_)
              · refine wp1 rfl rfl ?_
                refine wp3 rfl (am_getf rfl rfl) ?_
                refine wp1 rfl rfl ?_
                refine wp1 rfl rfl ?_
                refine wp3 rfl (am_iast rfl (by simp only [Int32.lt_iff_toInt_lt, Int32.le_iff_toInt_le, ← Int32.toInt_inj] at c2 c3; have e0 : (0 : Int32).toInt = 0 := rfl; have g0 : (Int32.ofNat 0).toInt = 0 := rfl; have e1 : (2 : Int32).toInt = 2 := rfl; have g1 : (Int32.ofNat 2).toInt = 2 := rfl; exact am_in_of (by omega) (by omega))) ?_
                have hJ9 : K (t_kinds (t_thrown m 0) (upd (q_kinds (t_thrown m 0)) (Int32.toNatClampNeg l1) l2)) := hJ1
                refine wpH (h' := HH s (MC (t_kinds (t_thrown m 0) (upd (q_kinds (t_thrown m 0)) (Int32.toNatClampNeg l1) l2))) D) rfl ?_
                refine wp1 rfl rfl ?_
                refine wp3 rfl (am_getf rfl rfl) ?_
                refine wp1 rfl rfl ?_
                refine wp1 rfl rfl ?_
                refine wp3 rfl (am_iast rfl (by simp only [Int32.lt_iff_toInt_lt, Int32.le_iff_toInt_le, ← Int32.toInt_inj] at c2 c3; have e0 : (0 : Int32).toInt = 0 := rfl; have g0 : (Int32.ofNat 0).toInt = 0 := rfl; have e1 : (2 : Int32).toInt = 2 := rfl; have g1 : (Int32.ofNat 2).toInt = 2 := rfl; exact am_in_of (by omega) (by omega))) ?_
                have hJ10 : K (t_places (t_kinds (t_thrown m 0) (upd (q_kinds (t_thrown m 0)) (Int32.toNatClampNeg l1) l2)) (upd (q_places (t_kinds (t_thrown m 0) (upd (q_kinds (t_thrown m 0)) (Int32.toNatClampNeg l1) l2))) (Int32.toNatClampNeg l1) l3)) := K_places hJ9 (by simp only [Int32.lt_iff_toInt_lt, Int32.le_iff_toInt_le, ← Int32.toInt_inj] at c6 c8; have e0 : (0 : Int32).toInt = 0 := rfl; have g0 : (Int32.ofNat 0).toInt = 0 := rfl; have e1 : (15 : Int32).toInt = 15 := rfl; have g1 : (Int32.ofNat 15).toInt = 15 := rfl; exact am_in_of (by omega) (by omega))
                refine wpH (h' := HH s (MC (t_places (t_kinds (t_thrown m 0) (upd (q_kinds (t_thrown m 0)) (Int32.toNatClampNeg l1) l2)) (upd (q_places (t_kinds (t_thrown m 0) (upd (q_kinds (t_thrown m 0)) (Int32.toNatClampNeg l1) l2))) (Int32.toNatClampNeg l1) l3))) D) rfl ?_
                refine wp0 rfl rfl ?_
                exact wp5z rfl rfl b1 ⟨_, hJ10, rfl, by simp only [opF, if_true, if_false, if_neg c2, if_neg c3, if_neg c4, if_neg c5, if_neg c6, if_pos c7, if_pos c8]⟩
              · refine wp0 rfl rfl ?_
                exact wp5z rfl rfl b0 ⟨_, hJ1, rfl, by simp only [opF, if_true, if_false, if_neg c2, if_neg c3, if_neg c4, if_neg c5, if_neg c6, if_pos c7, if_neg c8]⟩
            · refine wp0 rfl rfl ?_
              refine wp2b rfl rfl (fun c11 => ?_) (fun c11 => ?_)
              · refine wp1 rfl rfl ?_
                refine wp3 rfl (am_getf rfl rfl) ?_
                refine wp1 rfl rfl ?_
                refine wp1 rfl rfl ?_
                refine wp3 rfl (am_iast rfl (by simp only [Int32.lt_iff_toInt_lt, Int32.le_iff_toInt_le, ← Int32.toInt_inj] at c2 c3; have e0 : (0 : Int32).toInt = 0 := rfl; have g0 : (Int32.ofNat 0).toInt = 0 := rfl; have e1 : (2 : Int32).toInt = 2 := rfl; have g1 : (Int32.ofNat 2).toInt = 2 := rfl; exact am_in_of (by omega) (by omega))) ?_
                have hJ12 : K (t_kinds (t_thrown m 0) (upd (q_kinds (t_thrown m 0)) (Int32.toNatClampNeg l1) l2)) := hJ1
                refine wpH (h' := HH s (MC (t_kinds (t_thrown m 0) (upd (q_kinds (t_thrown m 0)) (Int32.toNatClampNeg l1) l2))) D) rfl ?_
                refine wp1 rfl rfl ?_
                refine wp3 rfl (am_getf rfl rfl) ?_
                refine wp1 rfl rfl ?_
                refine wp1 rfl rfl ?_
                refine wp3 rfl (am_iast rfl (by simp only [Int32.lt_iff_toInt_lt, Int32.le_iff_toInt_le, ← Int32.toInt_inj] at c2 c3; have e0 : (0 : Int32).toInt = 0 := rfl; have g0 : (Int32.ofNat 0).toInt = 0 := rfl; have e1 : (2 : Int32).toInt = 2 := rfl; have g1 : (Int32.ofNat 2).toInt = 2 := rfl; exact am_in_of (by omega) (by omega))) ?_
                have hJ13 : K (t_places (t_kinds (t_thrown m 0) (upd (q_kinds (t_thrown m 0)) (Int32.toNatClampNeg l1) l2)) (upd (q_places (t_kinds (t_thrown m 0) (upd (q_kinds (t_thrown m 0)) (Int32.toNatClampNeg l1) l2))) (Int32.toNatClampNeg l1) l3)) := K_places hJ12 (by simp only [Int32.lt_iff_toInt_lt, Int32.le_iff_toInt_le, ← Int32.toInt_inj] at c11 c6; have e0 : (0 : Int32).toInt = 0 := rfl; have g0 : (Int32.ofNat 0).toInt = 0 := rfl; exact am_in_of (by omega) (by omega))
                refine wpH (h' := HH s (MC (t_places (t_kinds (t_thrown m 0) (upd (q_kinds (t_thrown m 0)) (Int32.toNatClampNeg l1) l2)) (upd (q_places (t_kinds (t_thrown m 0) (upd (q_kinds (t_thrown m 0)) (Int32.toNatClampNeg l1) l2))) (Int32.toNatClampNeg l1) l3))) D) rfl ?_
                refine wp0 rfl rfl ?_
                exact wp5z rfl rfl b1 ⟨_, hJ13, rfl, by simp only [opF, if_true, if_false, if_neg c2, if_neg c3, if_neg c4, if_neg c5, if_neg c6, if_neg c7, if_pos c11]⟩
              · refine wp0 rfl rfl ?_
                exact wp5z rfl rfl b0 ⟨_, hJ1, rfl, by simp only [opF, if_true, if_false, if_neg c2, if_neg c3, if_neg c4, if_neg c5, if_neg c6, if_neg c7, if_neg c11]⟩
set_option maxRecDepth 20000 in
theorem mx_set {m : ms} (hJ : K m) (l1 : Int32) (l2 : Int64) : tb_wp L xs 173 0 (lv_args 0 [.ref 24, .int l1, .long l2]) [] (HH s (MC m) D) (NX s D (seF l1)) := by
  refine wp1 rfl rfl ?_
  refine wp0 rfl rfl ?_
  refine wp3 rfl (am_putf rfl (Nat.le_of_ble_eq_true rfl) rfl rfl) ?_
  have hJ1 : K (t_thrown m 0) := hJ
  refine wpH (h' := HH s (MC (t_thrown m 0)) D) rfl ?_
  refine wp1 rfl rfl ?_
  refine wp2b rfl rfl (fun c2 => ?_) (fun c2 => ?_)
  · refine wp0 rfl rfl ?_
    exact wp5z rfl rfl b0 ⟨_, hJ1, rfl, by simp only [seF, if_true, if_false, if_pos c2]⟩
  · refine wp1 rfl rfl ?_
    refine wp0 rfl rfl ?_
    refine wp2b rfl rfl (fun c3 => ?_) (fun c3 => ?_)
    · refine wp1 rfl rfl ?_
      refine wp0 rfl rfl ?_
      refine wp2b rfl rfl (fun c4 => ?_) (fun c4 => ?_)
      · refine wp1 rfl rfl ?_
        refine wp1 rfl rfl ?_
        refine wp3 rfl (am_putf rfl (Nat.le_of_ble_eq_true rfl) rfl rfl) ?_
        have hJ5 : K (t_ip (t_thrown m 0) l2) := hJ1
        refine wpH (h' := HH s (MC (t_ip (t_thrown m 0) l2)) D) rfl ?_
        refine wp2 rfl rfl ?_
        refine wp0 rfl rfl ?_
        exact wp5z rfl rfl b1 ⟨_, hJ5, rfl, by simp only [seF, if_true, if_false, if_neg c2, if_pos c3, if_pos c4]⟩
      · refine wp1 rfl rfl ?_
        refine wp3 rfl (am_getf rfl rfl) ?_
        refine wp1 rfl rfl ?_
        refine wp1 rfl rfl ?_
        refine wp3 rfl (am_last rfl (by simp only [Int32.lt_iff_toInt_lt, Int32.le_iff_toInt_le, ← Int32.toInt_inj] at c2 c3 c4; have e0 : (0 : Int32).toInt = 0 := rfl; have g0 : (Int32.ofNat 0).toInt = 0 := rfl; have e1 : (16 : Int32).toInt = 16 := rfl; have g1 : (Int32.ofNat 16).toInt = 16 := rfl; exact am_in_of (by omega) (by omega))) ?_
        have hJ6 : K (t_registers0 (t_thrown m 0) (vp_updL (q_registers0 (t_thrown m 0)) (Int32.toNatClampNeg l1) l2)) := hJ1
        refine wpH (h' := HH s (MC (t_registers0 (t_thrown m 0) (vp_updL (q_registers0 (t_thrown m 0)) (Int32.toNatClampNeg l1) l2))) D) rfl ?_
        refine wp0 rfl rfl ?_
        exact wp5z rfl rfl b1 ⟨_, hJ6, rfl, by simp only [seF, if_true, if_false, if_neg c2, if_pos c3, if_neg c4]⟩
    · refine wp0 rfl rfl ?_
      exact wp5z rfl rfl b0 ⟨_, hJ1, rfl, by simp only [seF, if_true, if_false, if_neg c2, if_neg c3]⟩
end SM4

/-! PRINTED by wip/tools/sl.py: the model's constructor, behind the class's -/
def m_new : ms := ((39, 0, 0, (-1), (-1), 1, 0, 0, 0, (fun _ => 0), (fun _ => 0)), (0, 0, 0, 0, 0, 0, 0), (0, 0, 0, 0, 0), ((fun _ => 0), (fun _ => 0), 0, 0, 0, 0, 0, 0, 0), (0, 0, 0, (fun _ => 0), (fun _ => 0)), ((fun _ => 0), (fun _ => 0), (fun _ => 0), (fun _ => 0)))
theorem z_bnd2 : 0 ≤ (0 : Int32).toInt ∧ (0 : Int32).toInt ≤ 262144 := by decide
theorem K_new : K m_new := ⟨b0, b0, b0, b0, b0, fun _ _ => (by decide : am_in 0 16 = true), z_bnd2, z_bnd, z_bnd, z_bnd⟩
section MINIT
variable {L : Nat} {xs : Nat → Int32}
set_option maxRecDepth 20000 in
theorem m_new_ok : tb_wp L xs 125 0 (lv_args 0 [.ref 24]) [] (HH s_new [.inr (12, [.int 0, .null, .null, .null, .null, .null, .null, .int 0, .int 0, .int 0, .int 0, .int 0, .int 0, .int 0, .int 0, .int 0, .null, .null, .long 0, .long 0, .long 0, .int 0, .int 0, .int 0, .int 0, .int 0, .int 0, .int 0, .long 0, .long 0, .int 0, .int 0, .int 0, .int 0, .int 0, .int 0, .int 0, .int 0, .long 0, .null, .null])] []) (NV 0 m_new s_new []) := by
  refine wp1 rfl rfl ?_
  refine wp3 rfl rfl ?_
  refine wp1 rfl rfl ?_
  refine wp0 rfl rfl ?_
  refine wp3 rfl rfl ?_
  refine wpH (h' := HH s_new [.inr (12, [.int 0, .null, .null, .null, .null, .null, .null, .int 0, .int 0, .int 0, .int 0, .int 0, .int 0, .int 0, .int 0, .int 0, .null, .null, .long 0, .long 0, .long 0, .int 0, .int 0, .int 0, .int 0, .int 0, .int 0, .int 0, .long 0, .long 0, .int 0, .int 0, .int 0, .int 0, .int 0, .int 0, .int 0, .int 0, .long 0, .null, .null]), .inl (1, 262144, .inl (fun _ => 0))] []) rfl ?_
  refine wpS (st' := [.ref 25, .ref 24]) rfl ?_
  refine wp3 rfl (am_putf rfl (Nat.le_of_ble_eq_true rfl) rfl rfl) ?_
  refine wpH (h' := HH s_new [.inr (12, [.int 0, .ref 25, .null, .null, .null, .null, .null, .int 0, .int 0, .int 0, .int 0, .int 0, .int 0, .int 0, .int 0, .int 0, .null, .null, .long 0, .long 0, .long 0, .int 0, .int 0, .int 0, .int 0, .int 0, .int 0, .int 0, .long 0, .long 0, .int 0, .int 0, .int 0, .int 0, .int 0, .int 0, .int 0, .int 0, .long 0, .null, .null]), .inl (1, 262144, .inl (fun _ => 0))] []) rfl ?_
  refine wp1 rfl rfl ?_
  refine wp0 rfl rfl ?_
  refine wp3 rfl rfl ?_
  refine wpH (h' := HH s_new [.inr (12, [.int 0, .ref 25, .null, .null, .null, .null, .null, .int 0, .int 0, .int 0, .int 0, .int 0, .int 0, .int 0, .int 0, .int 0, .null, .null, .long 0, .long 0, .long 0, .int 0, .int 0, .int 0, .int 0, .int 0, .int 0, .int 0, .long 0, .long 0, .int 0, .int 0, .int 0, .int 0, .int 0, .int 0, .int 0, .int 0, .long 0, .null, .null]), .inl (1, 262144, .inl (fun _ => 0)), .inl (1, 262144, .inl (fun _ => 0))] []) rfl ?_
  refine wpS (st' := [.ref 26, .ref 24]) rfl ?_
  refine wp3 rfl (am_putf rfl (Nat.le_of_ble_eq_true rfl) rfl rfl) ?_
  refine wpH (h' := HH s_new [.inr (12, [.int 0, .ref 25, .ref 26, .null, .null, .null, .null, .int 0, .int 0, .int 0, .int 0, .int 0, .int 0, .int 0, .int 0, .int 0, .null, .null, .long 0, .long 0, .long 0, .int 0, .int 0, .int 0, .int 0, .int 0, .int 0, .int 0, .long 0, .long 0, .int 0, .int 0, .int 0, .int 0, .int 0, .int 0, .int 0, .int 0, .long 0, .null, .null]), .inl (1, 262144, .inl (fun _ => 0)), .inl (1, 262144, .inl (fun _ => 0))] []) rfl ?_
  refine wp1 rfl rfl ?_
  refine wp0 rfl rfl ?_
  refine wp3 rfl rfl ?_
  refine wpH (h' := HH s_new [.inr (12, [.int 0, .ref 25, .ref 26, .null, .null, .null, .null, .int 0, .int 0, .int 0, .int 0, .int 0, .int 0, .int 0, .int 0, .int 0, .null, .null, .long 0, .long 0, .long 0, .int 0, .int 0, .int 0, .int 0, .int 0, .int 0, .int 0, .long 0, .long 0, .int 0, .int 0, .int 0, .int 0, .int 0, .int 0, .int 0, .int 0, .long 0, .null, .null]), .inl (1, 262144, .inl (fun _ => 0)), .inl (1, 262144, .inl (fun _ => 0)), .inl (1, 65536, .inl (fun _ => 0))] []) rfl ?_
  refine wpS (st' := [.ref 27, .ref 24]) rfl ?_
  refine wp3 rfl (am_putf rfl (Nat.le_of_ble_eq_true rfl) rfl rfl) ?_
  refine wpH (h' := HH s_new [.inr (12, [.int 0, .ref 25, .ref 26, .ref 27, .null, .null, .null, .int 0, .int 0, .int 0, .int 0, .int 0, .int 0, .int 0, .int 0, .int 0, .null, .null, .long 0, .long 0, .long 0, .int 0, .int 0, .int 0, .int 0, .int 0, .int 0, .int 0, .long 0, .long 0, .int 0, .int 0, .int 0, .int 0, .int 0, .int 0, .int 0, .int 0, .long 0, .null, .null]), .inl (1, 262144, .inl (fun _ => 0)), .inl (1, 262144, .inl (fun _ => 0)), .inl (1, 65536, .inl (fun _ => 0))] []) rfl ?_
  refine wp1 rfl rfl ?_
  refine wp0 rfl rfl ?_
  refine wp3 rfl rfl ?_
  refine wpH (h' := HH s_new [.inr (12, [.int 0, .ref 25, .ref 26, .ref 27, .null, .null, .null, .int 0, .int 0, .int 0, .int 0, .int 0, .int 0, .int 0, .int 0, .int 0, .null, .null, .long 0, .long 0, .long 0, .int 0, .int 0, .int 0, .int 0, .int 0, .int 0, .int 0, .long 0, .long 0, .int 0, .int 0, .int 0, .int 0, .int 0, .int 0, .int 0, .int 0, .long 0, .null, .null]), .inl (1, 262144, .inl (fun _ => 0)), .inl (1, 262144, .inl (fun _ => 0)), .inl (1, 65536, .inl (fun _ => 0)), .inl (1, 65536, .inl (fun _ => 0))] []) rfl ?_
  refine wpS (st' := [.ref 28, .ref 24]) rfl ?_
  refine wp3 rfl (am_putf rfl (Nat.le_of_ble_eq_true rfl) rfl rfl) ?_
  refine wpH (h' := HH s_new [.inr (12, [.int 0, .ref 25, .ref 26, .ref 27, .ref 28, .null, .null, .int 0, .int 0, .int 0, .int 0, .int 0, .int 0, .int 0, .int 0, .int 0, .null, .null, .long 0, .long 0, .long 0, .int 0, .int 0, .int 0, .int 0, .int 0, .int 0, .int 0, .long 0, .long 0, .int 0, .int 0, .int 0, .int 0, .int 0, .int 0, .int 0, .int 0, .long 0, .null, .null]), .inl (1, 262144, .inl (fun _ => 0)), .inl (1, 262144, .inl (fun _ => 0)), .inl (1, 65536, .inl (fun _ => 0)), .inl (1, 65536, .inl (fun _ => 0))] []) rfl ?_
  refine wp1 rfl rfl ?_
  refine wp0 rfl rfl ?_
  refine wp3 rfl rfl ?_
  refine wpH (h' := HH s_new [.inr (12, [.int 0, .ref 25, .ref 26, .ref 27, .ref 28, .null, .null, .int 0, .int 0, .int 0, .int 0, .int 0, .int 0, .int 0, .int 0, .int 0, .null, .null, .long 0, .long 0, .long 0, .int 0, .int 0, .int 0, .int 0, .int 0, .int 0, .int 0, .long 0, .long 0, .int 0, .int 0, .int 0, .int 0, .int 0, .int 0, .int 0, .int 0, .long 0, .null, .null]), .inl (1, 262144, .inl (fun _ => 0)), .inl (1, 262144, .inl (fun _ => 0)), .inl (1, 65536, .inl (fun _ => 0)), .inl (1, 65536, .inl (fun _ => 0)), .inl (1, 65536, .inl (fun _ => 0))] []) rfl ?_
  refine wpS (st' := [.ref 29, .ref 24]) rfl ?_
  refine wp3 rfl (am_putf rfl (Nat.le_of_ble_eq_true rfl) rfl rfl) ?_
  refine wpH (h' := HH s_new [.inr (12, [.int 0, .ref 25, .ref 26, .ref 27, .ref 28, .ref 29, .null, .int 0, .int 0, .int 0, .int 0, .int 0, .int 0, .int 0, .int 0, .int 0, .null, .null, .long 0, .long 0, .long 0, .int 0, .int 0, .int 0, .int 0, .int 0, .int 0, .int 0, .long 0, .long 0, .int 0, .int 0, .int 0, .int 0, .int 0, .int 0, .int 0, .int 0, .long 0, .null, .null]), .inl (1, 262144, .inl (fun _ => 0)), .inl (1, 262144, .inl (fun _ => 0)), .inl (1, 65536, .inl (fun _ => 0)), .inl (1, 65536, .inl (fun _ => 0)), .inl (1, 65536, .inl (fun _ => 0))] []) rfl ?_
  refine wp1 rfl rfl ?_
  refine wp0 rfl rfl ?_
  refine wp3 rfl rfl ?_
  refine wpH (h' := HH s_new [.inr (12, [.int 0, .ref 25, .ref 26, .ref 27, .ref 28, .ref 29, .null, .int 0, .int 0, .int 0, .int 0, .int 0, .int 0, .int 0, .int 0, .int 0, .null, .null, .long 0, .long 0, .long 0, .int 0, .int 0, .int 0, .int 0, .int 0, .int 0, .int 0, .long 0, .long 0, .int 0, .int 0, .int 0, .int 0, .int 0, .int 0, .int 0, .int 0, .long 0, .null, .null]), .inl (1, 262144, .inl (fun _ => 0)), .inl (1, 262144, .inl (fun _ => 0)), .inl (1, 65536, .inl (fun _ => 0)), .inl (1, 65536, .inl (fun _ => 0)), .inl (1, 65536, .inl (fun _ => 0)), .inl (1, 65536, .inl (fun _ => 0))] []) rfl ?_
  refine wpS (st' := [.ref 30, .ref 24]) rfl ?_
  refine wp3 rfl (am_putf rfl (Nat.le_of_ble_eq_true rfl) rfl rfl) ?_
  refine wpH (h' := HH s_new [.inr (12, [.int 0, .ref 25, .ref 26, .ref 27, .ref 28, .ref 29, .ref 30, .int 0, .int 0, .int 0, .int 0, .int 0, .int 0, .int 0, .int 0, .int 0, .null, .null, .long 0, .long 0, .long 0, .int 0, .int 0, .int 0, .int 0, .int 0, .int 0, .int 0, .long 0, .long 0, .int 0, .int 0, .int 0, .int 0, .int 0, .int 0, .int 0, .int 0, .long 0, .null, .null]), .inl (1, 262144, .inl (fun _ => 0)), .inl (1, 262144, .inl (fun _ => 0)), .inl (1, 65536, .inl (fun _ => 0)), .inl (1, 65536, .inl (fun _ => 0)), .inl (1, 65536, .inl (fun _ => 0)), .inl (1, 65536, .inl (fun _ => 0))] []) rfl ?_
  refine wp1 rfl rfl ?_
  refine wp0 rfl rfl ?_
  refine wp3 rfl rfl ?_
  refine wpH (h' := HH s_new [.inr (12, [.int 0, .ref 25, .ref 26, .ref 27, .ref 28, .ref 29, .ref 30, .int 0, .int 0, .int 0, .int 0, .int 0, .int 0, .int 0, .int 0, .int 0, .null, .null, .long 0, .long 0, .long 0, .int 0, .int 0, .int 0, .int 0, .int 0, .int 0, .int 0, .long 0, .long 0, .int 0, .int 0, .int 0, .int 0, .int 0, .int 0, .int 0, .int 0, .long 0, .null, .null]), .inl (1, 262144, .inl (fun _ => 0)), .inl (1, 262144, .inl (fun _ => 0)), .inl (1, 65536, .inl (fun _ => 0)), .inl (1, 65536, .inl (fun _ => 0)), .inl (1, 65536, .inl (fun _ => 0)), .inl (1, 65536, .inl (fun _ => 0)), .inl (3, 16, .inr (.inl (fun _ => 0)))] []) rfl ?_
  refine wpS (st' := [.ref 31, .ref 24]) rfl ?_
  refine wp3 rfl (am_putf rfl (Nat.le_of_ble_eq_true rfl) rfl rfl) ?_
  refine wpH (h' := HH s_new [.inr (12, [.int 0, .ref 25, .ref 26, .ref 27, .ref 28, .ref 29, .ref 30, .int 0, .int 0, .int 0, .int 0, .int 0, .int 0, .int 0, .int 0, .int 0, .ref 31, .null, .long 0, .long 0, .long 0, .int 0, .int 0, .int 0, .int 0, .int 0, .int 0, .int 0, .long 0, .long 0, .int 0, .int 0, .int 0, .int 0, .int 0, .int 0, .int 0, .int 0, .long 0, .null, .null]), .inl (1, 262144, .inl (fun _ => 0)), .inl (1, 262144, .inl (fun _ => 0)), .inl (1, 65536, .inl (fun _ => 0)), .inl (1, 65536, .inl (fun _ => 0)), .inl (1, 65536, .inl (fun _ => 0)), .inl (1, 65536, .inl (fun _ => 0)), .inl (3, 16, .inr (.inl (fun _ => 0)))] []) rfl ?_
  refine wp1 rfl rfl ?_
  refine wp0 rfl rfl ?_
  refine wp3 rfl rfl ?_
  refine wpH (h' := HH s_new [.inr (12, [.int 0, .ref 25, .ref 26, .ref 27, .ref 28, .ref 29, .ref 30, .int 0, .int 0, .int 0, .int 0, .int 0, .int 0, .int 0, .int 0, .int 0, .ref 31, .null, .long 0, .long 0, .long 0, .int 0, .int 0, .int 0, .int 0, .int 0, .int 0, .int 0, .long 0, .long 0, .int 0, .int 0, .int 0, .int 0, .int 0, .int 0, .int 0, .int 0, .long 0, .null, .null]), .inl (1, 262144, .inl (fun _ => 0)), .inl (1, 262144, .inl (fun _ => 0)), .inl (1, 65536, .inl (fun _ => 0)), .inl (1, 65536, .inl (fun _ => 0)), .inl (1, 65536, .inl (fun _ => 0)), .inl (1, 65536, .inl (fun _ => 0)), .inl (3, 16, .inr (.inl (fun _ => 0))), .inl (3, 16, .inr (.inl (fun _ => 0)))] []) rfl ?_
  refine wpS (st' := [.ref 32, .ref 24]) rfl ?_
  refine wp3 rfl (am_putf rfl (Nat.le_of_ble_eq_true rfl) rfl rfl) ?_
  refine wpH (h' := HH s_new [.inr (12, [.int 0, .ref 25, .ref 26, .ref 27, .ref 28, .ref 29, .ref 30, .int 0, .int 0, .int 0, .int 0, .int 0, .int 0, .int 0, .int 0, .int 0, .ref 31, .ref 32, .long 0, .long 0, .long 0, .int 0, .int 0, .int 0, .int 0, .int 0, .int 0, .int 0, .long 0, .long 0, .int 0, .int 0, .int 0, .int 0, .int 0, .int 0, .int 0, .int 0, .long 0, .null, .null]), .inl (1, 262144, .inl (fun _ => 0)), .inl (1, 262144, .inl (fun _ => 0)), .inl (1, 65536, .inl (fun _ => 0)), .inl (1, 65536, .inl (fun _ => 0)), .inl (1, 65536, .inl (fun _ => 0)), .inl (1, 65536, .inl (fun _ => 0)), .inl (3, 16, .inr (.inl (fun _ => 0))), .inl (3, 16, .inr (.inl (fun _ => 0)))] []) rfl ?_
  refine wp1 rfl rfl ?_
  refine wp0 rfl rfl ?_
  refine wp3 rfl (am_putf rfl (Nat.le_of_ble_eq_true rfl) rfl rfl) ?_
  refine wpH (h' := HH s_new [.inr (12, [.int 0, .ref 25, .ref 26, .ref 27, .ref 28, .ref 29, .ref 30, .int 0, .int 0, .int 0, .int 0, .int 0, .int 0, .int 0, .int 0, .int 0, .ref 31, .ref 32, .long 0, .long 0, .long 0, .int 0, .int 0, .int 0, .int 0, .int 0, .int 0, .int 0, .long 0, .long 0, .int 39, .int 0, .int 0, .int 0, .int 0, .int 0, .int 0, .int 0, .long 0, .null, .null]), .inl (1, 262144, .inl (fun _ => 0)), .inl (1, 262144, .inl (fun _ => 0)), .inl (1, 65536, .inl (fun _ => 0)), .inl (1, 65536, .inl (fun _ => 0)), .inl (1, 65536, .inl (fun _ => 0)), .inl (1, 65536, .inl (fun _ => 0)), .inl (3, 16, .inr (.inl (fun _ => 0))), .inl (3, 16, .inr (.inl (fun _ => 0)))] []) rfl ?_
  refine wp1 rfl rfl ?_
  refine wp0 rfl rfl ?_
  refine wp3 rfl (am_putf rfl (Nat.le_of_ble_eq_true rfl) rfl rfl) ?_
  refine wpH (h' := HH s_new [.inr (12, [.int 0, .ref 25, .ref 26, .ref 27, .ref 28, .ref 29, .ref 30, .int 0, .int 0, .int 0, .int 0, .int 0, .int 0, .int 0, .int 0, .int 0, .ref 31, .ref 32, .long 0, .long 0, .long 0, .int 0, .int 0, .int 0, .int 0, .int 0, .int 0, .int 0, .long 0, .long 0, .int 39, .int 0, .int 0, .int (-1), .int 0, .int 0, .int 0, .int 0, .long 0, .null, .null]), .inl (1, 262144, .inl (fun _ => 0)), .inl (1, 262144, .inl (fun _ => 0)), .inl (1, 65536, .inl (fun _ => 0)), .inl (1, 65536, .inl (fun _ => 0)), .inl (1, 65536, .inl (fun _ => 0)), .inl (1, 65536, .inl (fun _ => 0)), .inl (3, 16, .inr (.inl (fun _ => 0))), .inl (3, 16, .inr (.inl (fun _ => 0)))] []) rfl ?_
  refine wp1 rfl rfl ?_
  refine wp0 rfl rfl ?_
  refine wp3 rfl (am_putf rfl (Nat.le_of_ble_eq_true rfl) rfl rfl) ?_
  refine wpH (h' := HH s_new [.inr (12, [.int 0, .ref 25, .ref 26, .ref 27, .ref 28, .ref 29, .ref 30, .int 0, .int 0, .int 0, .int 0, .int 0, .int 0, .int 0, .int 0, .int 0, .ref 31, .ref 32, .long 0, .long 0, .long 0, .int 0, .int 0, .int 0, .int 0, .int 0, .int 0, .int 0, .long 0, .long 0, .int 39, .int 0, .int 0, .int (-1), .int (-1), .int 0, .int 0, .int 0, .long 0, .null, .null]), .inl (1, 262144, .inl (fun _ => 0)), .inl (1, 262144, .inl (fun _ => 0)), .inl (1, 65536, .inl (fun _ => 0)), .inl (1, 65536, .inl (fun _ => 0)), .inl (1, 65536, .inl (fun _ => 0)), .inl (1, 65536, .inl (fun _ => 0)), .inl (3, 16, .inr (.inl (fun _ => 0))), .inl (3, 16, .inr (.inl (fun _ => 0)))] []) rfl ?_
  refine wp1 rfl rfl ?_
  refine wp0 rfl rfl ?_
  refine wp3 rfl (am_putf rfl (Nat.le_of_ble_eq_true rfl) rfl rfl) ?_
  refine wpH (h' := HH s_new [.inr (12, [.int 0, .ref 25, .ref 26, .ref 27, .ref 28, .ref 29, .ref 30, .int 0, .int 0, .int 0, .int 0, .int 0, .int 0, .int 0, .int 0, .int 0, .ref 31, .ref 32, .long 0, .long 0, .long 0, .int 0, .int 0, .int 0, .int 0, .int 0, .int 0, .int 0, .long 0, .long 0, .int 39, .int 0, .int 0, .int (-1), .int (-1), .int 1, .int 0, .int 0, .long 0, .null, .null]), .inl (1, 262144, .inl (fun _ => 0)), .inl (1, 262144, .inl (fun _ => 0)), .inl (1, 65536, .inl (fun _ => 0)), .inl (1, 65536, .inl (fun _ => 0)), .inl (1, 65536, .inl (fun _ => 0)), .inl (1, 65536, .inl (fun _ => 0)), .inl (3, 16, .inr (.inl (fun _ => 0))), .inl (3, 16, .inr (.inl (fun _ => 0)))] []) rfl ?_
  refine wp1 rfl rfl ?_
  refine wp0 rfl rfl ?_
  refine wp3 rfl rfl ?_
  refine wpH (h' := HH s_new [.inr (12, [.int 0, .ref 25, .ref 26, .ref 27, .ref 28, .ref 29, .ref 30, .int 0, .int 0, .int 0, .int 0, .int 0, .int 0, .int 0, .int 0, .int 0, .ref 31, .ref 32, .long 0, .long 0, .long 0, .int 0, .int 0, .int 0, .int 0, .int 0, .int 0, .int 0, .long 0, .long 0, .int 39, .int 0, .int 0, .int (-1), .int (-1), .int 1, .int 0, .int 0, .long 0, .null, .null]), .inl (1, 262144, .inl (fun _ => 0)), .inl (1, 262144, .inl (fun _ => 0)), .inl (1, 65536, .inl (fun _ => 0)), .inl (1, 65536, .inl (fun _ => 0)), .inl (1, 65536, .inl (fun _ => 0)), .inl (1, 65536, .inl (fun _ => 0)), .inl (3, 16, .inr (.inl (fun _ => 0))), .inl (3, 16, .inr (.inl (fun _ => 0))), .inl (0, 3, .inl (fun _ => 0))] []) rfl ?_
  refine wpS (st' := [.ref 33, .ref 24]) rfl ?_
  refine wp3 rfl (am_putf rfl (Nat.le_of_ble_eq_true rfl) rfl rfl) ?_
  refine wpH (h' := HH s_new [.inr (12, [.int 0, .ref 25, .ref 26, .ref 27, .ref 28, .ref 29, .ref 30, .int 0, .int 0, .int 0, .int 0, .int 0, .int 0, .int 0, .int 0, .int 0, .ref 31, .ref 32, .long 0, .long 0, .long 0, .int 0, .int 0, .int 0, .int 0, .int 0, .int 0, .int 0, .long 0, .long 0, .int 39, .int 0, .int 0, .int (-1), .int (-1), .int 1, .int 0, .int 0, .long 0, .ref 33, .null]), .inl (1, 262144, .inl (fun _ => 0)), .inl (1, 262144, .inl (fun _ => 0)), .inl (1, 65536, .inl (fun _ => 0)), .inl (1, 65536, .inl (fun _ => 0)), .inl (1, 65536, .inl (fun _ => 0)), .inl (1, 65536, .inl (fun _ => 0)), .inl (3, 16, .inr (.inl (fun _ => 0))), .inl (3, 16, .inr (.inl (fun _ => 0))), .inl (0, 3, .inl (fun _ => 0))] []) rfl ?_
  refine wp1 rfl rfl ?_
  refine wp0 rfl rfl ?_
  refine wp3 rfl rfl ?_
  refine wpH (h' := HH s_new [.inr (12, [.int 0, .ref 25, .ref 26, .ref 27, .ref 28, .ref 29, .ref 30, .int 0, .int 0, .int 0, .int 0, .int 0, .int 0, .int 0, .int 0, .int 0, .ref 31, .ref 32, .long 0, .long 0, .long 0, .int 0, .int 0, .int 0, .int 0, .int 0, .int 0, .int 0, .long 0, .long 0, .int 39, .int 0, .int 0, .int (-1), .int (-1), .int 1, .int 0, .int 0, .long 0, .ref 33, .null]), .inl (1, 262144, .inl (fun _ => 0)), .inl (1, 262144, .inl (fun _ => 0)), .inl (1, 65536, .inl (fun _ => 0)), .inl (1, 65536, .inl (fun _ => 0)), .inl (1, 65536, .inl (fun _ => 0)), .inl (1, 65536, .inl (fun _ => 0)), .inl (3, 16, .inr (.inl (fun _ => 0))), .inl (3, 16, .inr (.inl (fun _ => 0))), .inl (0, 3, .inl (fun _ => 0)), .inl (0, 3, .inl (fun _ => 0))] []) rfl ?_
  refine wpS (st' := [.ref 34, .ref 24]) rfl ?_
  refine wp3 rfl (am_putf rfl (Nat.le_of_ble_eq_true rfl) rfl rfl) ?_
  refine wpH (h' := HH s_new [.inr (12, [.int 0, .ref 25, .ref 26, .ref 27, .ref 28, .ref 29, .ref 30, .int 0, .int 0, .int 0, .int 0, .int 0, .int 0, .int 0, .int 0, .int 0, .ref 31, .ref 32, .long 0, .long 0, .long 0, .int 0, .int 0, .int 0, .int 0, .int 0, .int 0, .int 0, .long 0, .long 0, .int 39, .int 0, .int 0, .int (-1), .int (-1), .int 1, .int 0, .int 0, .long 0, .ref 33, .ref 34]), .inl (1, 262144, .inl (fun _ => 0)), .inl (1, 262144, .inl (fun _ => 0)), .inl (1, 65536, .inl (fun _ => 0)), .inl (1, 65536, .inl (fun _ => 0)), .inl (1, 65536, .inl (fun _ => 0)), .inl (1, 65536, .inl (fun _ => 0)), .inl (3, 16, .inr (.inl (fun _ => 0))), .inl (3, 16, .inr (.inl (fun _ => 0))), .inl (0, 3, .inl (fun _ => 0)), .inl (0, 3, .inl (fun _ => 0))] []) rfl ?_
  refine wp1 rfl rfl ?_
  refine wp0 rfl rfl ?_
  refine wp0 rfl rfl ?_
  refine wp0 rfl rfl ?_
  refine wp0 rfl rfl ?_
  refine wp0 rfl rfl ?_
  refine wp0 rfl rfl ?_
  refine wpH (h' := HH s_new (MC m_new) []) rfl ?_
  refine wp4 rfl rfl (mf_128 K_new 0 0 0 0 0 0 (by decide)) (fun rv h1 hq => ?_)
  obtain ⟨m2, hK2, hR2, rfl, rfl⟩ := hq
  exact wp5 rfl rfl ⟨_, hK2, RL0, rfl, rfl⟩
end MINIT

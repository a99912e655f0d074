section MINIT
variable {L : Nat} {xs : Nat → Int32}
set_option maxRecDepth 20000 in
theorem m_new_ok1 : tb_wp L xs 125 0 (lv_args 0 [.ref 24]) [] (HH s_new [.inr (12, [.int 0, .null, .null, .null, .null, .null, .null, .int 0, .int 0, .int 0, .int 0, .int 0, .int 0, .int 0, .int 0, .int 0, .null, .null, .long 0, .long 0, .long 0, .int 0, .int 0, .int 0, .int 0, .int 0, .int 0, .int 0, .long 0, .long 0, .int 0, .int 0, .int 0, .int 0, .int 0, .int 0, .int 0, .int 0, .long 0, .null, .null])] []) (NFr s_new []) := by
  refine wp1 rfl rfl ?_
  refine wp3 rfl rfl ?_
  refine wp1 rfl rfl ?_
  refine wp0 rfl rfl ?_
  refine wp3 rfl rfl ?_
  refine wpH (h' := HH s_new [.inr (12, [.int 0, .null, .null, .null, .null, .null, .null, .int 0, .int 0, .int 0, .int 0, .int 0, .int 0, .int 0, .int 0, .int 0, .null, .null, .long 0, .long 0, .long 0, .int 0, .int 0, .int 0, .int 0, .int 0, .int 0, .int 0, .long 0, .long 0, .int 0, .int 0, .int 0, .int 0, .int 0, .int 0, .int 0, .int 0, .long 0, .null, .null]), .inl (1, 262144, .inl (fun _ => 0))] []) rfl ?_
  refine wpS (st' := [.ref 25, .ref 24]) rfl ?_
  refine wp3 rfl (am_putf rfl (Nat.le_of_ble_eq_true rfl) rfl rfl) ?_
  refine wpH (h' := HH s_new [.inr (12, [.int 0, .ref 25, .null, .null, .null, .null, .null, .int 0, .int 0, .int 0, .int 0, .int 0, .int 0, .int 0, .int 0, .int 0, .null, .null, .long 0, .long 0, .long 0, .int 0, .int 0, .int 0, .int 0, .int 0, .int 0, .int 0, .long 0, .long 0, .int 0, .int 0, .int 0, .int 0, .int 0, .int 0, .int 0, .int 0, .long 0, .null, .null]), .inl (1, 262144, .inl (fun _ => 0))] []) rfl ?_
  refine wp1 rfl rfl ?_
  refine wp0 rfl rfl ?_
  refine wp3 rfl rfl ?_
  refine wpH (h' := HH s_new [.inr (12, [.int 0, .ref 25, .null, .null, .null, .null, .null, .int 0, .int 0, .int 0, .int 0, .int 0, .int 0, .int 0, .int 0, .int 0, .null, .null, .long 0, .long 0, .long 0, .int 0, .int 0, .int 0, .int 0, .int 0, .int 0, .int 0, .long 0, .long 0, .int 0, .int 0, .int 0, .int 0, .int 0, .int 0, .int 0, .int 0, .long 0, .null, .null]), .inl (1, 262144, .inl (fun _ => 0)), .inl (1, 262144, .inl (fun _ => 0))] []) rfl ?_
  refine wpS (st' := [.ref 26, .ref 24]) rfl ?_
  refine wp3 rfl (am_putf rfl (Nat.le_of_ble_eq_true rfl) rfl rfl) ?_
  refine wpH (h' := HH s_new [.inr (12, [.int 0, .ref 25, .ref 26, .null, .null, .null, .null, .int 0, .int 0, .int 0, .int 0, .int 0, .int 0, .int 0, .int 0, .int 0, .null, .null, .long 0, .long 0, .long 0, .int 0, .int 0, .int 0, .int 0, .int 0, .int 0, .int 0, .long 0, .long 0, .int 0, .int 0, .int 0, .int 0, .int 0, .int 0, .int 0, .int 0, .long 0, .null, .null]), .inl (1, 262144, .inl (fun _ => 0)), .inl (1, 262144, .inl (fun _ => 0))] []) rfl ?_
  refine wp1 rfl rfl ?_
  refine wp0 rfl rfl ?_
  refine wp3 rfl rfl ?_
  refine wpH (h' := HH s_new [.inr (12, [.int 0, .ref 25, .ref 26, .null, .null, .null, .null, .int 0, .int 0, .int 0, .int 0, .int 0, .int 0, .int 0, .int 0, .int 0, .null, .null, .long 0, .long 0, .long 0, .int 0, .int 0, .int 0, .int 0, .int 0, .int 0, .int 0, .long 0, .long 0, .int 0, .int 0, .int 0, .int 0, .int 0, .int 0, .int 0, .int 0, .long 0, .null, .null]), .inl (1, 262144, .inl (fun _ => 0)), .inl (1, 262144, .inl (fun _ => 0)), .inl (1, 65536, .inl (fun _ => 0))] []) rfl ?_
  refine wpS (st' := [.ref 27, .ref 24]) rfl ?_
  refine wp3 rfl (am_putf rfl (Nat.le_of_ble_eq_true rfl) rfl rfl) ?_
  refine wpH (h' := HH s_new [.inr (12, [.int 0, .ref 25, .ref 26, .ref 27, .null, .null, .null, .int 0, .int 0, .int 0, .int 0, .int 0, .int 0, .int 0, .int 0, .int 0, .null, .null, .long 0, .long 0, .long 0, .int 0, .int 0, .int 0, .int 0, .int 0, .int 0, .int 0, .long 0, .long 0, .int 0, .int 0, .int 0, .int 0, .int 0, .int 0, .int 0, .int 0, .long 0, .null, .null]), .inl (1, 262144, .inl (fun _ => 0)), .inl (1, 262144, .inl (fun _ => 0)), .inl (1, 65536, .inl (fun _ => 0))] []) rfl ?_
  refine wp1 rfl rfl ?_
  refine wp0 rfl rfl ?_
  refine wp3 rfl rfl ?_
  refine wpH (h' := HH s_new [.inr (12, [.int 0, .ref 25, .ref 26, .ref 27, .null, .null, .null, .int 0, .int 0, .int 0, .int 0, .int 0, .int 0, .int 0, .int 0, .int 0, .null, .null, .long 0, .long 0, .long 0, .int 0, .int 0, .int 0, .int 0, .int 0, .int 0, .int 0, .long 0, .long 0, .int 0, .int 0, .int 0, .int 0, .int 0, .int 0, .int 0, .int 0, .long 0, .null, .null]), .inl (1, 262144, .inl (fun _ => 0)), .inl (1, 262144, .inl (fun _ => 0)), .inl (1, 65536, .inl (fun _ => 0)), .inl (1, 65536, .inl (fun _ => 0))] []) rfl ?_
  refine wpS (st' := [.ref 28, .ref 24]) rfl ?_
  refine wp3 rfl (am_putf rfl (Nat.le_of_ble_eq_true rfl) rfl rfl) ?_
  refine wpH (h' := HH s_new [.inr (12, [.int 0, .ref 25, .ref 26, .ref 27, .ref 28, .null, .null, .int 0, .int 0, .int 0, .int 0, .int 0, .int 0, .int 0, .int 0, .int 0, .null, .null, .long 0, .long 0, .long 0, .int 0, .int 0, .int 0, .int 0, .int 0, .int 0, .int 0, .long 0, .long 0, .int 0, .int 0, .int 0, .int 0, .int 0, .int 0, .int 0, .int 0, .long 0, .null, .null]), .inl (1, 262144, .inl (fun _ => 0)), .inl (1, 262144, .inl (fun _ => 0)), .inl (1, 65536, .inl (fun _ => 0)), .inl (1, 65536, .inl (fun _ => 0))] []) rfl ?_
  refine wp1 rfl rfl ?_
  refine wp0 rfl rfl ?_
  refine wp3 rfl rfl ?_
  refine wpH (h' := HH s_new [.inr (12, [.int 0, .ref 25, .ref 26, .ref 27, .ref 28, .null, .null, .int 0, .int 0, .int 0, .int 0, .int 0, .int 0, .int 0, .int 0, .int 0, .null, .null, .long 0, .long 0, .long 0, .int 0, .int 0, .int 0, .int 0, .int 0, .int 0, .int 0, .long 0, .long 0, .int 0, .int 0, .int 0, .int 0, .int 0, .int 0, .int 0, .int 0, .long 0, .null, .null]), .inl (1, 262144, .inl (fun _ => 0)), .inl (1, 262144, .inl (fun _ => 0)), .inl (1, 65536, .inl (fun _ => 0)), .inl (1, 65536, .inl (fun _ => 0)), .inl (1, 65536, .inl (fun _ => 0))] []) rfl ?_
  refine wpS (st' := [.ref 29, .ref 24]) rfl ?_
  refine wp3 rfl (am_putf rfl (Nat.le_of_ble_eq_true rfl) rfl rfl) ?_
  refine wpH (h' := HH s_new [.inr (12, [.int 0, .ref 25, .ref 26, .ref 27, .ref 28, .ref 29, .null, .int 0, .int 0, .int 0, .int 0, .int 0, .int 0, .int 0, .int 0, .int 0, .null, .null, .long 0, .long 0, .long 0, .int 0, .int 0, .int 0, .int 0, .int 0, .int 0, .int 0, .long 0, .long 0, .int 0, .int 0, .int 0, .int 0, .int 0, .int 0, .int 0, .int 0, .long 0, .null, .null]), .inl (1, 262144, .inl (fun _ => 0)), .inl (1, 262144, .inl (fun _ => 0)), .inl (1, 65536, .inl (fun _ => 0)), .inl (1, 65536, .inl (fun _ => 0)), .inl (1, 65536, .inl (fun _ => 0))] []) rfl ?_
  refine wp1 rfl rfl ?_
  refine wp0 rfl rfl ?_
  refine wp3 rfl rfl ?_
  refine wpH (h' := HH s_new [.inr (12, [.int 0, .ref 25, .ref 26, .ref 27, .ref 28, .ref 29, .null, .int 0, .int 0, .int 0, .int 0, .int 0, .int 0, .int 0, .int 0, .int 0, .null, .null, .long 0, .long 0, .long 0, .int 0, .int 0, .int 0, .int 0, .int 0, .int 0, .int 0, .long 0, .long 0, .int 0, .int 0, .int 0, .int 0, .int 0, .int 0, .int 0, .int 0, .long 0, .null, .null]), .inl (1, 262144, .inl (fun _ => 0)), .inl (1, 262144, .inl (fun _ => 0)), .inl (1, 65536, .inl (fun _ => 0)), .inl (1, 65536, .inl (fun _ => 0)), .inl (1, 65536, .inl (fun _ => 0)), .inl (1, 65536, .inl (fun _ => 0))] []) rfl ?_
  refine wpS (st' := [.ref 30, .ref 24]) rfl ?_
  refine wp3 rfl (am_putf rfl (Nat.le_of_ble_eq_true rfl) rfl rfl) ?_
  refine wpH (h' := HH s_new [.inr (12, [.int 0, .ref 25, .ref 26, .ref 27, .ref 28, .ref 29, .ref 30, .int 0, .int 0, .int 0, .int 0, .int 0, .int 0, .int 0, .int 0, .int 0, .null, .null, .long 0, .long 0, .long 0, .int 0, .int 0, .int 0, .int 0, .int 0, .int 0, .int 0, .long 0, .long 0, .int 0, .int 0, .int 0, .int 0, .int 0, .int 0, .int 0, .int 0, .long 0, .null, .null]), .inl (1, 262144, .inl (fun _ => 0)), .inl (1, 262144, .inl (fun _ => 0)), .inl (1, 65536, .inl (fun _ => 0)), .inl (1, 65536, .inl (fun _ => 0)), .inl (1, 65536, .inl (fun _ => 0)), .inl (1, 65536, .inl (fun _ => 0))] []) rfl ?_
  refine wp1 rfl rfl ?_
  refine wp0 rfl rfl ?_
  refine wp3 rfl rfl ?_
  refine wpH (h' := HH s_new [.inr (12, [.int 0, .ref 25, .ref 26, .ref 27, .ref 28, .ref 29, .ref 30, .int 0, .int 0, .int 0, .int 0, .int 0, .int 0, .int 0, .int 0, .int 0, .null, .null, .long 0, .long 0, .long 0, .int 0, .int 0, .int 0, .int 0, .int 0, .int 0, .int 0, .long 0, .long 0, .int 0, .int 0, .int 0, .int 0, .int 0, .int 0, .int 0, .int 0, .long 0, .null, .null]), .inl (1, 262144, .inl (fun _ => 0)), .inl (1, 262144, .inl (fun _ => 0)), .inl (1, 65536, .inl (fun _ => 0)), .inl (1, 65536, .inl (fun _ => 0)), .inl (1, 65536, .inl (fun _ => 0)), .inl (1, 65536, .inl (fun _ => 0)), .inl (3, 16, .inr (.inl (fun _ => 0)))] []) rfl ?_
  refine wpS (st' := [.ref 31, .ref 24]) rfl ?_
  refine wp3 rfl (am_putf rfl (Nat.le_of_ble_eq_true rfl) rfl rfl) ?_
  refine wpH (h' := HH s_new [.inr (12, [.int 0, .ref 25, .ref 26, .ref 27, .ref 28, .ref 29, .ref 30, .int 0, .int 0, .int 0, .int 0, .int 0, .int 0, .int 0, .int 0, .int 0, .ref 31, .null, .long 0, .long 0, .long 0, .int 0, .int 0, .int 0, .int 0, .int 0, .int 0, .int 0, .long 0, .long 0, .int 0, .int 0, .int 0, .int 0, .int 0, .int 0, .int 0, .int 0, .long 0, .null, .null]), .inl (1, 262144, .inl (fun _ => 0)), .inl (1, 262144, .inl (fun _ => 0)), .inl (1, 65536, .inl (fun _ => 0)), .inl (1, 65536, .inl (fun _ => 0)), .inl (1, 65536, .inl (fun _ => 0)), .inl (1, 65536, .inl (fun _ => 0)), .inl (3, 16, .inr (.inl (fun _ => 0)))] []) rfl ?_
  refine wp1 rfl rfl ?_
  refine wp0 rfl rfl ?_
  refine wp3 rfl rfl ?_
  refine wpH (h' := HH s_new [.inr (12, [.int 0, .ref 25, .ref 26, .ref 27, .ref 28, .ref 29, .ref 30, .int 0, .int 0, .int 0, .int 0, .int 0, .int 0, .int 0, .int 0, .int 0, .ref 31, .null, .long 0, .long 0, .long 0, .int 0, .int 0, .int 0, .int 0, .int 0, .int 0, .int 0, .long 0, .long 0, .int 0, .int 0, .int 0, .int 0, .int 0, .int 0, .int 0, .int 0, .long 0, .null, .null]), .inl (1, 262144, .inl (fun _ => 0)), .inl (1, 262144, .inl (fun _ => 0)), .inl (1, 65536, .inl (fun _ => 0)), .inl (1, 65536, .inl (fun _ => 0)), .inl (1, 65536, .inl (fun _ => 0)), .inl (1, 65536, .inl (fun _ => 0)), .inl (3, 16, .inr (.inl (fun _ => 0))), .inl (3, 16, .inr (.inl (fun _ => 0)))] []) rfl ?_
  refine wpS (st' := [.ref 32, .ref 24]) rfl ?_
  refine wp3 rfl (am_putf rfl (Nat.le_of_ble_eq_true rfl) rfl rfl) ?_
  refine wpH (h' := HH s_new [.inr (12, [.int 0, .ref 25, .ref 26, .ref 27, .ref 28, .ref 29, .ref 30, .int 0, .int 0, .int 0, .int 0, .int 0, .int 0, .int 0, .int 0, .int 0, .ref 31, .ref 32, .long 0, .long 0, .long 0, .int 0, .int 0, .int 0, .int 0, .int 0, .int 0, .int 0, .long 0, .long 0, .int 0, .int 0, .int 0, .int 0, .int 0, .int 0, .int 0, .int 0, .long 0, .null, .null]), .inl (1, 262144, .inl (fun _ => 0)), .inl (1, 262144, .inl (fun _ => 0)), .inl (1, 65536, .inl (fun _ => 0)), .inl (1, 65536, .inl (fun _ => 0)), .inl (1, 65536, .inl (fun _ => 0)), .inl (1, 65536, .inl (fun _ => 0)), .inl (3, 16, .inr (.inl (fun _ => 0))), .inl (3, 16, .inr (.inl (fun _ => 0)))] []) rfl ?_
  refine wp1 rfl rfl ?_
  refine wp0 rfl rfl ?_
  refine wp3 rfl (am_putf rfl (Nat.le_of_ble_eq_true rfl) rfl rfl) ?_
  refine wpH (h' := HH s_new [.inr (12, [.int 0, .ref 25, .ref 26, .ref 27, .ref 28, .ref 29, .ref 30, .int 0, .int 0, .int 0, .int 0, .int 0, .int 0, .int 0, .int 0, .int 0, .ref 31, .ref 32, .long 0, .long 0, .long 0, .int 0, .int 0, .int 0, .int 0, .int 0, .int 0, .int 0, .long 0, .long 0, .int 39, .int 0, .int 0, .int 0, .int 0, .int 0, .int 0, .int 0, .long 0, .null, .null]), .inl (1, 262144, .inl (fun _ => 0)), .inl (1, 262144, .inl (fun _ => 0)), .inl (1, 65536, .inl (fun _ => 0)), .inl (1, 65536, .inl (fun _ => 0)), .inl (1, 65536, .inl (fun _ => 0)), .inl (1, 65536, .inl (fun _ => 0)), .inl (3, 16, .inr (.inl (fun _ => 0))), .inl (3, 16, .inr (.inl (fun _ => 0)))] []) rfl ?_
  refine wp1 rfl rfl ?_
  refine wp0 rfl rfl ?_
  refine wp3 rfl (am_putf rfl (Nat.le_of_ble_eq_true rfl) rfl rfl) ?_
  refine wpH (h' := HH s_new [.inr (12, [.int 0, .ref 25, .ref 26, .ref 27, .ref 28, .ref 29, .ref 30, .int 0, .int 0, .int 0, .int 0, .int 0, .int 0, .int 0, .int 0, .int 0, .ref 31, .ref 32, .long 0, .long 0, .long 0, .int 0, .int 0, .int 0, .int 0, .int 0, .int 0, .int 0, .long 0, .long 0, .int 39, .int 0, .int 0, .int (-1), .int 0, .int 0, .int 0, .int 0, .long 0, .null, .null]), .inl (1, 262144, .inl (fun _ => 0)), .inl (1, 262144, .inl (fun _ => 0)), .inl (1, 65536, .inl (fun _ => 0)), .inl (1, 65536, .inl (fun _ => 0)), .inl (1, 65536, .inl (fun _ => 0)), .inl (1, 65536, .inl (fun _ => 0)), .inl (3, 16, .inr (.inl (fun _ => 0))), .inl (3, 16, .inr (.inl (fun _ => 0)))] []) rfl ?_
  refine wp1 rfl rfl ?_
  refine wp0 rfl rfl ?_
  refine wp3 rfl (am_putf rfl (Nat.le_of_ble_eq_true rfl) rfl rfl) ?_
  refine wpH (h' := HH s_new [.inr (12, [.int 0, .ref 25, .ref 26, .ref 27, .ref 28, .ref 29, .ref 30, .int 0, .int 0, .int 0, .int 0, .int 0, .int 0, .int 0, .int 0, .int 0, .ref 31, .ref 32, .long 0, .long 0, .long 0, .int 0, .int 0, .int 0, .int 0, .int 0, .int 0, .int 0, .long 0, .long 0, .int 39, .int 0, .int 0, .int (-1), .int (-1), .int 0, .int 0, .int 0, .long 0, .null, .null]), .inl (1, 262144, .inl (fun _ => 0)), .inl (1, 262144, .inl (fun _ => 0)), .inl (1, 65536, .inl (fun _ => 0)), .inl (1, 65536, .inl (fun _ => 0)), .inl (1, 65536, .inl (fun _ => 0)), .inl (1, 65536, .inl (fun _ => 0)), .inl (3, 16, .inr (.inl (fun _ => 0))), .inl (3, 16, .inr (.inl (fun _ => 0)))] []) rfl ?_
  refine wp1 rfl rfl ?_
  refine wp0 rfl rfl ?_
  refine wp3 rfl (am_putf rfl (Nat.le_of_ble_eq_true rfl) rfl rfl) ?_
  refine wpH (h' := HH s_new [.inr (12, [.int 0, .ref 25, .ref 26, .ref 27, .ref 28, .ref 29, .ref 30, .int 0, .int 0, .int 0, .int 0, .int 0, .int 0, .int 0, .int 0, .int 0, .ref 31, .ref 32, .long 0, .long 0, .long 0, .int 0, .int 0, .int 0, .int 0, .int 0, .int 0, .int 0, .long 0, .long 0, .int 39, .int 0, .int 0, .int (-1), .int (-1), .int 1, .int 0, .int 0, .long 0, .null, .null]), .inl (1, 262144, .inl (fun _ => 0)), .inl (1, 262144, .inl (fun _ => 0)), .inl (1, 65536, .inl (fun _ => 0)), .inl (1, 65536, .inl (fun _ => 0)), .inl (1, 65536, .inl (fun _ => 0)), .inl (1, 65536, .inl (fun _ => 0)), .inl (3, 16, .inr (.inl (fun _ => 0))), .inl (3, 16, .inr (.inl (fun _ => 0)))] []) rfl ?_
  refine wp1 rfl rfl ?_
  refine wp0 rfl rfl ?_
  refine wp3 rfl rfl ?_
  refine wpH (h' := HH s_new [.inr (12, [.int 0, .ref 25, .ref 26, .ref 27, .ref 28, .ref 29, .ref 30, .int 0, .int 0, .int 0, .int 0, .int 0, .int 0, .int 0, .int 0, .int 0, .ref 31, .ref 32, .long 0, .long 0, .long 0, .int 0, .int 0, .int 0, .int 0, .int 0, .int 0, .int 0, .long 0, .long 0, .int 39, .int 0, .int 0, .int (-1), .int (-1), .int 1, .int 0, .int 0, .long 0, .null, .null]), .inl (1, 262144, .inl (fun _ => 0)), .inl (1, 262144, .inl (fun _ => 0)), .inl (1, 65536, .inl (fun _ => 0)), .inl (1, 65536, .inl (fun _ => 0)), .inl (1, 65536, .inl (fun _ => 0)), .inl (1, 65536, .inl (fun _ => 0)), .inl (3, 16, .inr (.inl (fun _ => 0))), .inl (3, 16, .inr (.inl (fun _ => 0))), .inl (0, 3, .inl (fun _ => 0))] []) rfl ?_
  refine wpS (st' := [.ref 33, .ref 24]) rfl ?_
  refine wp3 rfl (am_putf rfl (Nat.le_of_ble_eq_true rfl) rfl rfl) ?_
  refine wpH (h' := HH s_new [.inr (12, [.int 0, .ref 25, .ref 26, .ref 27, .ref 28, .ref 29, .ref 30, .int 0, .int 0, .int 0, .int 0, .int 0, .int 0, .int 0, .int 0, .int 0, .ref 31, .ref 32, .long 0, .long 0, .long 0, .int 0, .int 0, .int 0, .int 0, .int 0, .int 0, .int 0, .long 0, .long 0, .int 39, .int 0, .int 0, .int (-1), .int (-1), .int 1, .int 0, .int 0, .long 0, .ref 33, .null]), .inl (1, 262144, .inl (fun _ => 0)), .inl (1, 262144, .inl (fun _ => 0)), .inl (1, 65536, .inl (fun _ => 0)), .inl (1, 65536, .inl (fun _ => 0)), .inl (1, 65536, .inl (fun _ => 0)), .inl (1, 65536, .inl (fun _ => 0)), .inl (3, 16, .inr (.inl (fun _ => 0))), .inl (3, 16, .inr (.inl (fun _ => 0))), .inl (0, 3, .inl (fun _ => 0))] []) rfl ?_
  refine wp1 rfl rfl ?_
  refine wp0 rfl rfl ?_
  refine wp3 rfl rfl ?_
  refine wpH (h' := HH s_new [.inr (12, [.int 0, .ref 25, .ref 26, .ref 27, .ref 28, .ref 29, .ref 30, .int 0, .int 0, .int 0, .int 0, .int 0, .int 0, .int 0, .int 0, .int 0, .ref 31, .ref 32, .long 0, .long 0, .long 0, .int 0, .int 0, .int 0, .int 0, .int 0, .int 0, .int 0, .long 0, .long 0, .int 39, .int 0, .int 0, .int (-1), .int (-1), .int 1, .int 0, .int 0, .long 0, .ref 33, .null]), .inl (1, 262144, .inl (fun _ => 0)), .inl (1, 262144, .inl (fun _ => 0)), .inl (1, 65536, .inl (fun _ => 0)), .inl (1, 65536, .inl (fun _ => 0)), .inl (1, 65536, .inl (fun _ => 0)), .inl (1, 65536, .inl (fun _ => 0)), .inl (3, 16, .inr (.inl (fun _ => 0))), .inl (3, 16, .inr (.inl (fun _ => 0))), .inl (0, 3, .inl (fun _ => 0)), .inl (0, 3, .inl (fun _ => 0))] []) rfl ?_
  refine wpS (st' := [.ref 34, .ref 24]) rfl ?_
  refine wp3 rfl (am_putf rfl (Nat.le_of_ble_eq_true rfl) rfl rfl) ?_
  refine wpH (h' := HH s_new [.inr (12, [.int 0, .ref 25, .ref 26, .ref 27, .ref 28, .ref 29, .ref 30, .int 0, .int 0, .int 0, .int 0, .int 0, .int 0, .int 0, .int 0, .int 0, .ref 31, .ref 32, .long 0, .long 0, .long 0, .int 0, .int 0, .int 0, .int 0, .int 0, .int 0, .int 0, .long 0, .long 0, .int 39, .int 0, .int 0, .int (-1), .int (-1), .int 1, .int 0, .int 0, .long 0, .ref 33, .ref 34]), .inl (1, 262144, .inl (fun _ => 0)), .inl (1, 262144, .inl (fun _ => 0)), .inl (1, 65536, .inl (fun _ => 0)), .inl (1, 65536, .inl (fun _ => 0)), .inl (1, 65536, .inl (fun _ => 0)), .inl (1, 65536, .inl (fun _ => 0)), .inl (3, 16, .inr (.inl (fun _ => 0))), .inl (3, 16, .inr (.inl (fun _ => 0))), .inl (0, 3, .inl (fun _ => 0)), .inl (0, 3, .inl (fun _ => 0))] []) rfl ?_
  refine wp1 rfl rfl ?_
  refine wp0 rfl rfl ?_
  refine wp0 rfl rfl ?_
  refine wp0 rfl rfl ?_
  refine wp0 rfl rfl ?_
  refine wp0 rfl rfl ?_
  refine wp0 rfl rfl ?_
  refine wpH (h' := HH s_new (MC (mA (fun _ => 0) (fun _ => 0) (fun _ => 0) (fun _ => 0))) []) rfl ?_
  refine wp4 rfl rfl anew_new (fun rv h1 hq => ?_)
  obtain ⟨rfl, rg, me, he, sk, hrg, hsk, rfl⟩ := hq
  exact wp5 rfl rfl ⟨rfl, rg, me, he, sk, hrg, hsk, rfl⟩
end MINIT

theorem cmp_self (x : Int64) : lg_cmp x x = 0 := by
  have h1 : ¬ lg_cmp x x < 0 := by
    rw [lg_cmp_lt, Int64.lt_iff_toInt_lt]
    omega
  have h2 : 0 ≤ lg_cmp x x := by
    rw [lg_cmp_ge, Int64.le_iff_toInt_le]
    omega
  unfold lg_cmp at *
  simp
section LAW1
variable {xs : Nat → Int32} {Q : Option Value → am_H → Prop}
set_option maxRecDepth 20000 in
theorem l1_104 {rg : Nat → Int64} {me he sk : Nat → Int32} (hrg : ∀ n, rg n = R0 n) (hsk : ∀ n, sk n = 0) (hk : ∀ {s : cs} {m : ms} {D : List pgT}, J s (MC m) D → K m → tb_wp 7 xs 0 752 [(0, .ref 0), (1, .ref 1), (2, .ref 24), (3, .int 0)] [] (HH s (MC m) D) Q) : tb_wp 7 xs 0 104 [(0, .ref 0), (1, .ref 1), (2, .ref 24), (3, .int 0)] [] (HH s_new (MC (mF rg me he sk)) []) Q := by
  refine wp1 rfl rfl ?_
  refine wp1 rfl rfl ?_
  refine wp1 rfl rfl ?_
  refine wp0 rfl rfl ?_
  refine wp0 rfl rfl ?_
  refine wp3 rfl (am_sald (by decide)) ?_
  refine wp1 rfl rfl ?_
  refine wp1 rfl rfl ?_
  refine wp0 rfl rfl ?_
  refine wp0 rfl rfl ?_
  refine wp3 rfl (am_sald (by decide)) ?_
  refine wp1 rfl rfl ?_
  refine wp1 rfl rfl ?_
  refine wp0 rfl rfl ?_
  refine wp0 rfl rfl ?_
  refine wp3 rfl (am_sald (by decide)) ?_
  refine wp1 rfl rfl ?_
  refine wp1 rfl rfl ?_
  refine wp0 rfl rfl ?_
  refine wp0 rfl rfl ?_
  refine wp3 rfl (am_sald (by decide)) ?_
  refine wp1 rfl rfl ?_
  refine wp1 rfl rfl ?_
  refine wp0 rfl rfl ?_
  refine wp0 rfl rfl ?_
  refine wp3 rfl (am_sald (by decide)) ?_
  refine wp1 rfl rfl ?_
  refine wp1 rfl rfl ?_
  refine wp0 rfl rfl ?_
  refine wp0 rfl rfl ?_
  refine wp3 rfl (am_sald (by decide)) ?_
  refine wp4 rfl rfl (sx_begin (J_new _) _ _ _ _ _ _) (fun rv h1 hq => ?_)
  obtain ⟨s1, D1, hJ1, rfl, rfl⟩ := hq
  refine wp1 rfl rfl ?_
  refine wp1 rfl rfl ?_
  refine wp1 rfl rfl ?_
  refine wp0 rfl rfl ?_
  refine wp0 rfl rfl ?_
  refine wp3 rfl (am_sald (by decide)) ?_
  refine wp1 rfl rfl ?_
  refine wp1 rfl rfl ?_
  refine wp0 rfl rfl ?_
  refine wp0 rfl rfl ?_
  refine wp3 rfl (am_sald (by decide)) ?_
  refine wp1 rfl rfl ?_
  refine wp1 rfl rfl ?_
  refine wp0 rfl rfl ?_
  refine wp0 rfl rfl ?_
  refine wp3 rfl (am_sald (by decide)) ?_
  refine wp1 rfl rfl ?_
  refine wp1 rfl rfl ?_
  refine wp0 rfl rfl ?_
  refine wp0 rfl rfl ?_
  refine wp3 rfl (am_sald (by decide)) ?_
  refine wp1 rfl rfl ?_
  refine wp1 rfl rfl ?_
  refine wp0 rfl rfl ?_
  refine wp0 rfl rfl ?_
  refine wp3 rfl (am_sald (by decide)) ?_
  refine wp1 rfl rfl ?_
  refine wp1 rfl rfl ?_
  refine wp0 rfl rfl ?_
  refine wp0 rfl rfl ?_
  refine wp3 rfl (am_sald (by decide)) ?_
  refine wp4 rfl rfl (mx_begin (K_F rg me he sk) _ _ _ _ _ _) (fun rv h1 hq => ?_)
  obtain ⟨m2, hK2, rfl, rfl⟩ := hq
  have hJ2 := J_mc (m' := m2) hJ1
  refine wp2b rfl rfl (fun c => ?_) (fun c => absurd (bgC_eq _ _ _ _ _ _) c)
  exact wpL rfl rfl (hk hJ2 hK2)
set_option maxRecDepth 20000 in
theorem l1_179 {rg : Nat → Int64} {me he sk : Nat → Int32} (hrg : ∀ n, rg n = R0 n) (hsk : ∀ n, sk n = 0) (hk : ∀ {s : cs} {m : ms} {D : List pgT}, J s (MC m) D → K m → tb_wp 7 xs 0 752 [(0, .ref 0), (1, .ref 1), (2, .ref 24), (3, .int 0)] [] (HH s (MC m) D) Q) : tb_wp 7 xs 0 179 [(0, .ref 0), (1, .ref 1), (2, .ref 24), (3, .int 0)] [] (HH s_new (MC (mF rg me he sk)) []) Q := by
  refine wp1 rfl rfl ?_
  refine wp1 rfl rfl ?_
  refine wp1 rfl rfl ?_
  refine wp0 rfl rfl ?_
  refine wp0 rfl rfl ?_
  refine wp3 rfl (am_sald (by decide)) ?_
  refine wp1 rfl rfl ?_
  refine wp1 rfl rfl ?_
  refine wp0 rfl rfl ?_
  refine wp0 rfl rfl ?_
  refine wp3 rfl (am_sald (by decide)) ?_
  refine wp0 rfl rfl ?_
  refine wp0 rfl rfl ?_
  refine wp0 rfl rfl ?_
  refine wp1 rfl rfl ?_
  refine wp1 rfl rfl ?_
  refine wp0 rfl rfl ?_
  refine wp0 rfl rfl ?_
  refine wp3 rfl (am_sald (by decide)) ?_
  refine wp0 rfl rfl ?_
  refine wp0 rfl rfl ?_
  refine wp0 rfl rfl ?_
  refine wp0 rfl rfl ?_
  refine wp4 rfl rfl (sf_4 (J_new _) _ _) (fun rv h1 hq => ?_)
  obtain ⟨s1, D1, hJ1, rfl, rfl⟩ := hq
  refine wp1 rfl rfl ?_
  refine wp1 rfl rfl ?_
  refine wp1 rfl rfl ?_
  refine wp0 rfl rfl ?_
  refine wp0 rfl rfl ?_
  refine wp3 rfl (am_sald (by decide)) ?_
  refine wp1 rfl rfl ?_
  refine wp1 rfl rfl ?_
  refine wp0 rfl rfl ?_
  refine wp0 rfl rfl ?_
  refine wp3 rfl (am_sald (by decide)) ?_
  refine wp0 rfl rfl ?_
  refine wp0 rfl rfl ?_
  refine wp0 rfl rfl ?_
  refine wp1 rfl rfl ?_
  refine wp1 rfl rfl ?_
  refine wp0 rfl rfl ?_
  refine wp0 rfl rfl ?_
  refine wp3 rfl (am_sald (by decide)) ?_
  refine wp0 rfl rfl ?_
  refine wp0 rfl rfl ?_
  refine wp0 rfl rfl ?_
  refine wp0 rfl rfl ?_
  refine wp4 rfl rfl (mf_138 (K_F rg me he sk) _ _) (fun rv h1 hq => ?_)
  obtain ⟨m2, hK2, hR2, rfl, rfl⟩ := hq
  have hJ2 := J_mc (m' := m2) hJ1
  refine wp2 rfl rfl ?_
  exact wpL rfl rfl (hk hJ2 hK2)
set_option maxRecDepth 20000 in
theorem l1_240 {rg : Nat → Int64} {me he sk : Nat → Int32} (hrg : ∀ n, rg n = R0 n) (hsk : ∀ n, sk n = 0) (hk : ∀ {s : cs} {m : ms} {D : List pgT}, J s (MC m) D → K m → tb_wp 7 xs 0 752 [(0, .ref 0), (1, .ref 1), (2, .ref 24), (3, .int 0)] [] (HH s (MC m) D) Q) : tb_wp 7 xs 0 240 [(0, .ref 0), (1, .ref 1), (2, .ref 24), (3, .int 0)] [] (HH s_new (MC (mF rg me he sk)) []) Q := by
  refine wp1 rfl rfl ?_
  refine wp1 rfl rfl ?_
  refine wp1 rfl rfl ?_
  refine wp0 rfl rfl ?_
  refine wp0 rfl rfl ?_
  refine wp3 rfl (am_sald (by decide)) ?_
  refine wp1 rfl rfl ?_
  refine wp1 rfl rfl ?_
  refine wp0 rfl rfl ?_
  refine wp0 rfl rfl ?_
  refine wp3 rfl (am_sald (by decide)) ?_
  refine wp1 rfl rfl ?_
  refine wp1 rfl rfl ?_
  refine wp0 rfl rfl ?_
  refine wp0 rfl rfl ?_
  refine wp3 rfl (am_sald (by decide)) ?_
  refine wp4 rfl rfl (sf_10 (J_new _) _ _ _) (fun rv h1 hq => ?_)
  obtain ⟨s1, D1, hJ1, rfl, rfl⟩ := hq
  refine wp1 rfl rfl ?_
  refine wp1 rfl rfl ?_
  refine wp1 rfl rfl ?_
  refine wp0 rfl rfl ?_
  refine wp0 rfl rfl ?_
  refine wp3 rfl (am_sald (by decide)) ?_
  refine wp1 rfl rfl ?_
  refine wp1 rfl rfl ?_
  refine wp0 rfl rfl ?_
  refine wp0 rfl rfl ?_
  refine wp3 rfl (am_sald (by decide)) ?_
  refine wp1 rfl rfl ?_
  refine wp1 rfl rfl ?_
  refine wp0 rfl rfl ?_
  refine wp0 rfl rfl ?_
  refine wp3 rfl (am_sald (by decide)) ?_
  refine wp4 rfl rfl (mf_159 (K_F rg me he sk) _ _ _) (fun rv h1 hq => ?_)
  obtain ⟨m2, hK2, hR2, rfl, rfl⟩ := hq
  have hJ2 := J_mc (m' := m2) hJ1
  refine wp2 rfl rfl ?_
  exact wpL rfl rfl (hk hJ2 hK2)
set_option maxRecDepth 20000 in
theorem l1_281 {rg : Nat → Int64} {me he sk : Nat → Int32} (hrg : ∀ n, rg n = R0 n) (hsk : ∀ n, sk n = 0) (hk : ∀ {s : cs} {m : ms} {D : List pgT}, J s (MC m) D → K m → tb_wp 7 xs 0 752 [(0, .ref 0), (1, .ref 1), (2, .ref 24), (3, .int 0)] [] (HH s (MC m) D) Q) : tb_wp 7 xs 0 281 [(0, .ref 0), (1, .ref 1), (2, .ref 24), (3, .int 0)] [] (HH s_new (MC (mF rg me he sk)) []) Q := by
  refine wp1 rfl rfl ?_
  refine wp1 rfl rfl ?_
  refine wp1 rfl rfl ?_
  refine wp0 rfl rfl ?_
  refine wp0 rfl rfl ?_
  refine wp3 rfl (am_sald (by decide)) ?_
  refine wp1 rfl rfl ?_
  refine wp1 rfl rfl ?_
  refine wp0 rfl rfl ?_
  refine wp0 rfl rfl ?_
  refine wp3 rfl (am_sald (by decide)) ?_
  refine wp1 rfl rfl ?_
  refine wp1 rfl rfl ?_
  refine wp0 rfl rfl ?_
  refine wp0 rfl rfl ?_
  refine wp3 rfl (am_sald (by decide)) ?_
  refine wp4 rfl rfl (sx_operand (J_new _) _ _ _) (fun rv h1 hq => ?_)
  obtain ⟨s1, D1, hJ1, rfl, rfl⟩ := hq
  refine wp1 rfl rfl ?_
  refine wp1 rfl rfl ?_
  refine wp1 rfl rfl ?_
  refine wp0 rfl rfl ?_
  refine wp0 rfl rfl ?_
  refine wp3 rfl (am_sald (by decide)) ?_
  refine wp1 rfl rfl ?_
  refine wp1 rfl rfl ?_
  refine wp0 rfl rfl ?_
  refine wp0 rfl rfl ?_
  refine wp3 rfl (am_sald (by decide)) ?_
  refine wp1 rfl rfl ?_
  refine wp1 rfl rfl ?_
  refine wp0 rfl rfl ?_
  refine wp0 rfl rfl ?_
  refine wp3 rfl (am_sald (by decide)) ?_
  refine wp4 rfl rfl (mx_operand (K_F rg me he sk) _ _ _) (fun rv h1 hq => ?_)
  obtain ⟨m2, hK2, rfl, rfl⟩ := hq
  have hJ2 := J_mc (m' := m2) hJ1
  refine wp2b rfl rfl (fun c => ?_) (fun c => absurd (opC_eq _ _ _) c)
  exact wpL rfl rfl (hk hJ2 hK2)
set_option maxRecDepth 20000 in
theorem l1_324 {rg : Nat → Int64} {me he sk : Nat → Int32} (hrg : ∀ n, rg n = R0 n) (hsk : ∀ n, sk n = 0) (hk : ∀ {s : cs} {m : ms} {D : List pgT}, J s (MC m) D → K m → tb_wp 7 xs 0 752 [(0, .ref 0), (1, .ref 1), (2, .ref 24), (3, .int 0)] [] (HH s (MC m) D) Q) : tb_wp 7 xs 0 324 [(0, .ref 0), (1, .ref 1), (2, .ref 24), (3, .int 0)] [] (HH s_new (MC (mF rg me he sk)) []) Q := by
  refine wp1 rfl rfl ?_
  refine wp1 rfl rfl ?_
  refine wp1 rfl rfl ?_
  refine wp0 rfl rfl ?_
  refine wp0 rfl rfl ?_
  refine wp3 rfl (am_sald (by decide)) ?_
  refine wp1 rfl rfl ?_
  refine wp1 rfl rfl ?_
  refine wp0 rfl rfl ?_
  refine wp0 rfl rfl ?_
  refine wp3 rfl (am_sald (by decide)) ?_
  refine wp1 rfl rfl ?_
  refine wp1 rfl rfl ?_
  refine wp0 rfl rfl ?_
  refine wp0 rfl rfl ?_
  refine wp3 rfl (am_sald (by decide)) ?_
  refine wp1 rfl rfl ?_
  refine wp1 rfl rfl ?_
  refine wp0 rfl rfl ?_
  refine wp0 rfl rfl ?_
  refine wp3 rfl (am_sald (by decide)) ?_
  refine wp4 rfl rfl (sf_8 (J_new _) _ _ _ _) (fun rv h1 hq => ?_)
  obtain ⟨s1, D1, hJ1, rfl, rfl⟩ := hq
  refine wp1 rfl rfl ?_
  refine wp1 rfl rfl ?_
  refine wp1 rfl rfl ?_
  refine wp0 rfl rfl ?_
  refine wp0 rfl rfl ?_
  refine wp3 rfl (am_sald (by decide)) ?_
  refine wp1 rfl rfl ?_
  refine wp1 rfl rfl ?_
  refine wp0 rfl rfl ?_
  refine wp0 rfl rfl ?_
  refine wp3 rfl (am_sald (by decide)) ?_
  refine wp1 rfl rfl ?_
  refine wp1 rfl rfl ?_
  refine wp0 rfl rfl ?_
  refine wp0 rfl rfl ?_
  refine wp3 rfl (am_sald (by decide)) ?_
  refine wp1 rfl rfl ?_
  refine wp1 rfl rfl ?_
  refine wp0 rfl rfl ?_
  refine wp0 rfl rfl ?_
  refine wp3 rfl (am_sald (by decide)) ?_
  refine wp4 rfl rfl (mf_154 (K_F rg me he sk) _ _ _ _) (fun rv h1 hq => ?_)
  obtain ⟨m2, hK2, hR2, rfl, rfl⟩ := hq
  have hJ2 := J_mc (m' := m2) hJ1
  refine wp2 rfl rfl ?_
  exact wpL rfl rfl (hk hJ2 hK2)
set_option maxRecDepth 20000 in
theorem l1_375 {rg : Nat → Int64} {me he sk : Nat → Int32} (hrg : ∀ n, rg n = R0 n) (hsk : ∀ n, sk n = 0) (hk : ∀ {s : cs} {m : ms} {D : List pgT}, J s (MC m) D → K m → tb_wp 7 xs 0 752 [(0, .ref 0), (1, .ref 1), (2, .ref 24), (3, .int 0)] [] (HH s (MC m) D) Q) : tb_wp 7 xs 0 375 [(0, .ref 0), (1, .ref 1), (2, .ref 24), (3, .int 0)] [] (HH s_new (MC (mF rg me he sk)) []) Q := by
  refine wp1 rfl rfl ?_
  refine wp1 rfl rfl ?_
  refine wp1 rfl rfl ?_
  refine wp0 rfl rfl ?_
  refine wp0 rfl rfl ?_
  refine wp3 rfl (am_sald (by decide)) ?_
  refine wp0 rfl rfl ?_
  refine wp0 rfl rfl ?_
  refine wp0 rfl rfl ?_
  refine wp1 rfl rfl ?_
  refine wp1 rfl rfl ?_
  refine wp0 rfl rfl ?_
  refine wp0 rfl rfl ?_
  refine wp3 rfl (am_sald (by decide)) ?_
  refine wp0 rfl rfl ?_
  refine wp0 rfl rfl ?_
  refine wp0 rfl rfl ?_
  refine wp0 rfl rfl ?_
  refine wp4 rfl rfl (sf_9 (J_new _) _) (fun rv h1 hq => ?_)
  obtain ⟨s1, D1, hJ1, rfl, rfl⟩ := hq
  refine wp1 rfl rfl ?_
  refine wp1 rfl rfl ?_
  refine wp1 rfl rfl ?_
  refine wp0 rfl rfl ?_
  refine wp0 rfl rfl ?_
  refine wp3 rfl (am_sald (by decide)) ?_
  refine wp0 rfl rfl ?_
  refine wp0 rfl rfl ?_
  refine wp0 rfl rfl ?_
  refine wp1 rfl rfl ?_
  refine wp1 rfl rfl ?_
  refine wp0 rfl rfl ?_
  refine wp0 rfl rfl ?_
  refine wp3 rfl (am_sald (by decide)) ?_
  refine wp0 rfl rfl ?_
  refine wp0 rfl rfl ?_
  refine wp0 rfl rfl ?_
  refine wp0 rfl rfl ?_
  refine wp4 rfl rfl (mf_158 (K_F rg me he sk) _) (fun rv h1 hq => ?_)
  obtain ⟨m2, hK2, hR2, rfl, rfl⟩ := hq
  have hJ2 := J_mc (m' := m2) hJ1
  refine wp2 rfl rfl ?_
  exact wpL rfl rfl (hk hJ2 hK2)
set_option maxRecDepth 20000 in
theorem l1_426 {rg : Nat → Int64} {me he sk : Nat → Int32} (hrg : ∀ n, rg n = R0 n) (hsk : ∀ n, sk n = 0) (hk : ∀ {s : cs} {m : ms} {D : List pgT}, J s (MC m) D → K m → tb_wp 7 xs 0 752 [(0, .ref 0), (1, .ref 1), (2, .ref 24), (3, .int 0)] [] (HH s (MC m) D) Q) : tb_wp 7 xs 0 426 [(0, .ref 0), (1, .ref 1), (2, .ref 24), (3, .int 0)] [] (HH s_new (MC (mF rg me he sk)) []) Q := by
  refine wp1 rfl rfl ?_
  refine wp1 rfl rfl ?_
  refine wp1 rfl rfl ?_
  refine wp0 rfl rfl ?_
  refine wp0 rfl rfl ?_
  refine wp3 rfl (am_sald (by decide)) ?_
  refine wp4 rfl rfl (x1_step _ _) (fun rv h1 hq => ?_)
  obtain ⟨s1, D1, hJ1, rfl, rfl⟩ := hq
  refine wp1 rfl rfl ?_
  refine wp1 rfl rfl ?_
  refine wp1 rfl rfl ?_
  refine wp0 rfl rfl ?_
  refine wp0 rfl rfl ?_
  refine wp3 rfl (am_sald (by decide)) ?_
  refine wp4 rfl rfl (y1_step rg me he sk _) (fun rv h1 hq => ?_)
  obtain ⟨m2, hK2, rfl, rfl⟩ := hq
  have hJ2 := J_mc (m' := m2) hJ1
  refine wp2b rfl rfl (fun c => ?_) (fun c => absurd rfl c)
  exact wpL rfl rfl (hk hJ2 hK2)
set_option maxRecDepth 20000 in
theorem l1_449 {rg : Nat → Int64} {me he sk : Nat → Int32} (hrg : ∀ n, rg n = R0 n) (hsk : ∀ n, sk n = 0) (hk : ∀ {s : cs} {m : ms} {D : List pgT}, J s (MC m) D → K m → tb_wp 7 xs 0 752 [(0, .ref 0), (1, .ref 1), (2, .ref 24), (3, .int 0)] [] (HH s (MC m) D) Q) : tb_wp 7 xs 0 449 [(0, .ref 0), (1, .ref 1), (2, .ref 24), (3, .int 0)] [] (HH s_new (MC (mF rg me he sk)) []) Q := by
  refine wp1 rfl rfl ?_
  refine wp4 rfl rfl (x1_value _) (fun rv h1 hq => ?_)
  obtain ⟨s1, D1, hJ1, rfl, rfl⟩ := hq
  refine wp1 rfl rfl ?_
  refine wp4 rfl rfl (y1_value rg me he sk) (fun rv h1 hq => ?_)
  obtain ⟨m2, hK2, rfl, rfl⟩ := hq
  have hJ2 := J_mc (m' := m2) hJ1
  refine wp0 rfl rfl ?_
  refine wp2b rfl rfl (fun c => ?_) (fun c => absurd (cmp_self _) c)
  exact wpL rfl rfl (hk hJ2 hK2)
set_option maxRecDepth 20000 in
theorem l1_463 {rg : Nat → Int64} {me he sk : Nat → Int32} (hrg : ∀ n, rg n = R0 n) (hsk : ∀ n, sk n = 0) (hk : ∀ {s : cs} {m : ms} {D : List pgT}, J s (MC m) D → K m → tb_wp 7 xs 0 752 [(0, .ref 0), (1, .ref 1), (2, .ref 24), (3, .int 0)] [] (HH s (MC m) D) Q) : tb_wp 7 xs 0 463 [(0, .ref 0), (1, .ref 1), (2, .ref 24), (3, .int 0)] [] (HH s_new (MC (mF rg me he sk)) []) Q := by
  refine wp1 rfl rfl ?_
  refine wp1 rfl rfl ?_
  refine wp1 rfl rfl ?_
  refine wp0 rfl rfl ?_
  refine wp0 rfl rfl ?_
  refine wp3 rfl (am_sald (by decide)) ?_
  refine wp4 rfl rfl (x1_register _ _) (fun rv h1 hq => ?_)
  obtain ⟨s1, D1, hJ1, rfl, rfl⟩ := hq
  refine wp1 rfl rfl ?_
  refine wp1 rfl rfl ?_
  refine wp1 rfl rfl ?_
  refine wp0 rfl rfl ?_
  refine wp0 rfl rfl ?_
  refine wp3 rfl (am_sald (by decide)) ?_
  refine wp4 rfl rfl (y1_register rg me he sk hrg _) (fun rv h1 hq => ?_)
  obtain ⟨m2, hK2, rfl, rfl⟩ := hq
  have hJ2 := J_mc (m' := m2) hJ1
  refine wp0 rfl rfl ?_
  refine wp2b rfl rfl (fun c => ?_) (fun c => absurd (by rw [rgC_eq]; exact cmp_self _) c)
  exact wpL rfl rfl (hk hJ2 hK2)
set_option maxRecDepth 20000 in
theorem l1_487 {rg : Nat → Int64} {me he sk : Nat → Int32} (hrg : ∀ n, rg n = R0 n) (hsk : ∀ n, sk n = 0) (hk : ∀ {s : cs} {m : ms} {D : List pgT}, J s (MC m) D → K m → tb_wp 7 xs 0 752 [(0, .ref 0), (1, .ref 1), (2, .ref 24), (3, .int 0)] [] (HH s (MC m) D) Q) : tb_wp 7 xs 0 487 [(0, .ref 0), (1, .ref 1), (2, .ref 24), (3, .int 0)] [] (HH s_new (MC (mF rg me he sk)) []) Q := by
  refine wp1 rfl rfl ?_
  refine wp1 rfl rfl ?_
  refine wp1 rfl rfl ?_
  refine wp0 rfl rfl ?_
  refine wp0 rfl rfl ?_
  refine wp3 rfl (am_sald (by decide)) ?_
  refine wp1 rfl rfl ?_
  refine wp1 rfl rfl ?_
  refine wp0 rfl rfl ?_
  refine wp0 rfl rfl ?_
  refine wp3 rfl (am_sald (by decide)) ?_
  refine wp0 rfl rfl ?_
  refine wp0 rfl rfl ?_
  refine wp0 rfl rfl ?_
  refine wp1 rfl rfl ?_
  refine wp1 rfl rfl ?_
  refine wp0 rfl rfl ?_
  refine wp0 rfl rfl ?_
  refine wp3 rfl (am_sald (by decide)) ?_
  refine wp0 rfl rfl ?_
  refine wp0 rfl rfl ?_
  refine wp0 rfl rfl ?_
  refine wp0 rfl rfl ?_
  refine wp4 rfl rfl (sx_set (J_new _) _ _) (fun rv h1 hq => ?_)
  obtain ⟨s1, D1, hJ1, rfl, rfl⟩ := hq
  refine wp1 rfl rfl ?_
  refine wp1 rfl rfl ?_
  refine wp1 rfl rfl ?_
  refine wp0 rfl rfl ?_
  refine wp0 rfl rfl ?_
  refine wp3 rfl (am_sald (by decide)) ?_
  refine wp1 rfl rfl ?_
  refine wp1 rfl rfl ?_
  refine wp0 rfl rfl ?_
  refine wp0 rfl rfl ?_
  refine wp3 rfl (am_sald (by decide)) ?_
  refine wp0 rfl rfl ?_
  refine wp0 rfl rfl ?_
  refine wp0 rfl rfl ?_
  refine wp1 rfl rfl ?_
  refine wp1 rfl rfl ?_
  refine wp0 rfl rfl ?_
  refine wp0 rfl rfl ?_
  refine wp3 rfl (am_sald (by decide)) ?_
  refine wp0 rfl rfl ?_
  refine wp0 rfl rfl ?_
  refine wp0 rfl rfl ?_
  refine wp0 rfl rfl ?_
  refine wp4 rfl rfl (mx_set (K_F rg me he sk) _ _) (fun rv h1 hq => ?_)
  obtain ⟨m2, hK2, rfl, rfl⟩ := hq
  have hJ2 := J_mc (m' := m2) hJ1
  refine wp2b rfl rfl (fun c => ?_) (fun c => absurd (seC_eq _) c)
  exact wpL rfl rfl (hk hJ2 hK2)
set_option maxRecDepth 20000 in
theorem l1_550 {rg : Nat → Int64} {me he sk : Nat → Int32} (hrg : ∀ n, rg n = R0 n) (hsk : ∀ n, sk n = 0) (hk : ∀ {s : cs} {m : ms} {D : List pgT}, J s (MC m) D → K m → tb_wp 7 xs 0 752 [(0, .ref 0), (1, .ref 1), (2, .ref 24), (3, .int 0)] [] (HH s (MC m) D) Q) : tb_wp 7 xs 0 550 [(0, .ref 0), (1, .ref 1), (2, .ref 24), (3, .int 0)] [] (HH s_new (MC (mF rg me he sk)) []) Q := by
  refine wp1 rfl rfl ?_
  refine wp1 rfl rfl ?_
  refine wp1 rfl rfl ?_
  refine wp0 rfl rfl ?_
  refine wp0 rfl rfl ?_
  refine wp3 rfl (am_sald (by decide)) ?_
  refine wp0 rfl rfl ?_
  refine wp0 rfl rfl ?_
  refine wp0 rfl rfl ?_
  refine wp1 rfl rfl ?_
  refine wp1 rfl rfl ?_
  refine wp0 rfl rfl ?_
  refine wp0 rfl rfl ?_
  refine wp3 rfl (am_sald (by decide)) ?_
  refine wp0 rfl rfl ?_
  refine wp0 rfl rfl ?_
  refine wp0 rfl rfl ?_
  refine wp0 rfl rfl ?_
  refine wp1 rfl rfl ?_
  refine wp1 rfl rfl ?_
  refine wp0 rfl rfl ?_
  refine wp0 rfl rfl ?_
  refine wp3 rfl (am_sald (by decide)) ?_
  refine wp4 rfl rfl (x1_input _ _ _) (fun rv h1 hq => ?_)
  obtain ⟨s1, D1, hJ1, rfl, rfl⟩ := hq
  refine wp1 rfl rfl ?_
  refine wp1 rfl rfl ?_
  refine wp1 rfl rfl ?_
  refine wp0 rfl rfl ?_
  refine wp0 rfl rfl ?_
  refine wp3 rfl (am_sald (by decide)) ?_
  refine wp0 rfl rfl ?_
  refine wp0 rfl rfl ?_
  refine wp0 rfl rfl ?_
  refine wp1 rfl rfl ?_
  refine wp1 rfl rfl ?_
  refine wp0 rfl rfl ?_
  refine wp0 rfl rfl ?_
  refine wp3 rfl (am_sald (by decide)) ?_
  refine wp0 rfl rfl ?_
  refine wp0 rfl rfl ?_
  refine wp0 rfl rfl ?_
  refine wp0 rfl rfl ?_
  refine wp1 rfl rfl ?_
  refine wp1 rfl rfl ?_
  refine wp0 rfl rfl ?_
  refine wp0 rfl rfl ?_
  refine wp3 rfl (am_sald (by decide)) ?_
  refine wp4 rfl rfl (y1_input (K_F rg me he sk) rfl _ _) (fun rv h1 hq => ?_)
  obtain ⟨m2, hK2, rfl, rfl⟩ := hq
  have hJ2 := J_mc (m' := m2) hJ1
  refine wp2b rfl rfl (fun c => ?_) (fun c => absurd rfl c)
  exact wpL rfl rfl (hk hJ2 hK2)
set_option maxRecDepth 20000 in
theorem l1_613 {rg : Nat → Int64} {me he sk : Nat → Int32} (hrg : ∀ n, rg n = R0 n) (hsk : ∀ n, sk n = 0) (hk : ∀ {s : cs} {m : ms} {D : List pgT}, J s (MC m) D → K m → tb_wp 7 xs 0 752 [(0, .ref 0), (1, .ref 1), (2, .ref 24), (3, .int 0)] [] (HH s (MC m) D) Q) : tb_wp 7 xs 0 613 [(0, .ref 0), (1, .ref 1), (2, .ref 24), (3, .int 0)] [] (HH s_new (MC (mF rg me he sk)) []) Q := by
  refine wp1 rfl rfl ?_
  refine wp1 rfl rfl ?_
  refine wp1 rfl rfl ?_
  refine wp0 rfl rfl ?_
  refine wp0 rfl rfl ?_
  refine wp3 rfl (am_sald (by decide)) ?_
  refine wp4 rfl rfl (x1_output _ _) (fun rv h1 hq => ?_)
  obtain ⟨s1, D1, hJ1, rfl, rfl⟩ := hq
  refine wp1 rfl rfl ?_
  refine wp1 rfl rfl ?_
  refine wp1 rfl rfl ?_
  refine wp0 rfl rfl ?_
  refine wp0 rfl rfl ?_
  refine wp3 rfl (am_sald (by decide)) ?_
  refine wp4 rfl rfl (y1_output rg me he sk _) (fun rv h1 hq => ?_)
  obtain ⟨m2, hK2, rfl, rfl⟩ := hq
  have hJ2 := J_mc (m' := m2) hJ1
  refine wp2b rfl rfl (fun c => ?_) (fun c => absurd rfl c)
  exact wpL rfl rfl (hk hJ2 hK2)
set_option maxRecDepth 20000 in
theorem l1_636 {rg : Nat → Int64} {me he sk : Nat → Int32} (hrg : ∀ n, rg n = R0 n) (hsk : ∀ n, sk n = 0) (hk : ∀ {s : cs} {m : ms} {D : List pgT}, J s (MC m) D → K m → tb_wp 7 xs 0 752 [(0, .ref 0), (1, .ref 1), (2, .ref 24), (3, .int 0)] [] (HH s (MC m) D) Q) : tb_wp 7 xs 0 636 [(0, .ref 0), (1, .ref 1), (2, .ref 24), (3, .int 0)] [] (HH s_new (MC (mF rg me he sk)) []) Q := by
  refine wp1 rfl rfl ?_
  refine wp1 rfl rfl ?_
  refine wp1 rfl rfl ?_
  refine wp0 rfl rfl ?_
  refine wp0 rfl rfl ?_
  refine wp3 rfl (am_sald (by decide)) ?_
  refine wp0 rfl rfl ?_
  refine wp0 rfl rfl ?_
  refine wp0 rfl rfl ?_
  refine wp1 rfl rfl ?_
  refine wp1 rfl rfl ?_
  refine wp0 rfl rfl ?_
  refine wp0 rfl rfl ?_
  refine wp3 rfl (am_sald (by decide)) ?_
  refine wp0 rfl rfl ?_
  refine wp0 rfl rfl ?_
  refine wp0 rfl rfl ?_
  refine wp0 rfl rfl ?_
  refine wpTl (fun a1 ea1 => ?_)
  obtain ⟨x, hx, hc⟩ := x1_peek (L := 7) (xs := xs) (mF rg me he sk) a1
  refine wp4 rfl rfl hx (fun rv h1 hq => ?_)
  obtain ⟨s1, D1, hJ1, rfl, rfl⟩ := hq
  refine wp1 rfl rfl ?_
  refine wp1 rfl rfl ?_
  refine wp1 rfl rfl ?_
  refine wp0 rfl rfl ?_
  refine wp0 rfl rfl ?_
  refine wp3 rfl (am_sald (by decide)) ?_
  refine wp0 rfl rfl ?_
  refine wp0 rfl rfl ?_
  refine wp0 rfl rfl ?_
  refine wp1 rfl rfl ?_
  refine wp1 rfl rfl ?_
  refine wp0 rfl rfl ?_
  refine wp0 rfl rfl ?_
  refine wp3 rfl (am_sald (by decide)) ?_
  refine wp0 rfl rfl ?_
  refine wp0 rfl rfl ?_
  refine wp0 rfl rfl ?_
  refine wp0 rfl rfl ?_
  refine wpTl (fun a2 ea2 => ?_)
  have ea3 : a1 = a2 := ea1.symm.trans ea2
  subst ea3
  rcases hc with ⟨ha, rfl⟩ | ⟨ha, rfl⟩
  · refine wp4 rfl rfl (y1_peek_in (K_F rg me he sk) rfl hsk ha) (fun rv h1 hq => ?_)
    obtain ⟨m2, hK2, rfl, rfl⟩ := hq
    have hJ2 := J_mc (m' := m2) hJ1
    refine wp2b rfl rfl (fun c => ?_) (fun c => absurd rfl c)
    exact wpL rfl rfl (hk hJ2 hK2)
  · refine wp4 rfl rfl (y1_peek_out (K_F rg me he sk) rfl ha) (fun rv h1 hq => ?_)
    obtain ⟨m2, hK2, rfl, rfl⟩ := hq
    have hJ2 := J_mc (m' := m2) hJ1
    refine wp2b rfl rfl (fun c => ?_) (fun c => absurd rfl c)
    exact wpL rfl rfl (hk hJ2 hK2)
set_option maxRecDepth 20000 in
theorem l1_689 {rg : Nat → Int64} {me he sk : Nat → Int32} (hrg : ∀ n, rg n = R0 n) (hsk : ∀ n, sk n = 0) (hk : ∀ {s : cs} {m : ms} {D : List pgT}, J s (MC m) D → K m → tb_wp 7 xs 0 752 [(0, .ref 0), (1, .ref 1), (2, .ref 24), (3, .int 0)] [] (HH s (MC m) D) Q) : tb_wp 7 xs 0 689 [(0, .ref 0), (1, .ref 1), (2, .ref 24), (3, .int 0)] [] (HH s_new (MC (mF rg me he sk)) []) Q := by
  refine wp1 rfl rfl ?_
  refine wp1 rfl rfl ?_
  refine wp1 rfl rfl ?_
  refine wp0 rfl rfl ?_
  refine wp0 rfl rfl ?_
  refine wp3 rfl (am_sald (by decide)) ?_
  refine wp0 rfl rfl ?_
  refine wp0 rfl rfl ?_
  refine wp0 rfl rfl ?_
  refine wp1 rfl rfl ?_
  refine wp1 rfl rfl ?_
  refine wp0 rfl rfl ?_
  refine wp0 rfl rfl ?_
  refine wp3 rfl (am_sald (by decide)) ?_
  refine wp0 rfl rfl ?_
  refine wp0 rfl rfl ?_
  refine wp0 rfl rfl ?_
  refine wp0 rfl rfl ?_
  refine wpTl (fun a1 ea1 => ?_)
  refine wp1 rfl rfl ?_
  refine wp1 rfl rfl ?_
  refine wp0 rfl rfl ?_
  refine wp0 rfl rfl ?_
  refine wp3 rfl (am_sald (by decide)) ?_
  obtain ⟨x, hx, hc⟩ := x1_poke (L := 7) (xs := xs) (mF rg me he sk) a1 (xs (Int32.toNatClampNeg (0 + 3)))
  refine wp4 rfl rfl hx (fun rv h1 hq => ?_)
  obtain ⟨s1, D1, hJ1, rfl, rfl⟩ := hq
  refine wp1 rfl rfl ?_
  refine wp1 rfl rfl ?_
  refine wp1 rfl rfl ?_
  refine wp0 rfl rfl ?_
  refine wp0 rfl rfl ?_
  refine wp3 rfl (am_sald (by decide)) ?_
  refine wp0 rfl rfl ?_
  refine wp0 rfl rfl ?_
  refine wp0 rfl rfl ?_
  refine wp1 rfl rfl ?_
  refine wp1 rfl rfl ?_
  refine wp0 rfl rfl ?_
  refine wp0 rfl rfl ?_
  refine wp3 rfl (am_sald (by decide)) ?_
  refine wp0 rfl rfl ?_
  refine wp0 rfl rfl ?_
  refine wp0 rfl rfl ?_
  refine wp0 rfl rfl ?_
  refine wpTl (fun a2 ea2 => ?_)
  have ea3 : a1 = a2 := ea1.symm.trans ea2
  subst ea3
  refine wp1 rfl rfl ?_
  refine wp1 rfl rfl ?_
  refine wp0 rfl rfl ?_
  refine wp0 rfl rfl ?_
  refine wp3 rfl (am_sald (by decide)) ?_
  rcases hc with ⟨ha, rfl⟩ | ⟨ha, rfl⟩
  · refine wp4 rfl rfl (y1_poke_in (K_F rg me he sk) rfl _ ha) (fun rv h1 hq => ?_)
    obtain ⟨m2, hK2, rfl, rfl⟩ := hq
    have hJ2 := J_mc (m' := m2) hJ1
    refine wp2b rfl rfl (fun c => ?_) (fun c => absurd rfl c)
    exact wpL rfl rfl (hk hJ2 hK2)
  · refine wp4 rfl rfl (y1_poke_out (K_F rg me he sk) rfl _ ha) (fun rv h1 hq => ?_)
    obtain ⟨m2, hK2, rfl, rfl⟩ := hq
    have hJ2 := J_mc (m' := m2) hJ1
    refine wp2b rfl rfl (fun c => ?_) (fun c => absurd rfl c)
    exact wpL rfl rfl (hk hJ2 hK2)
set_option maxRecDepth 20000 in
theorem l1_750 {s : cs} {m : ms} {D : List pgT} (hJ : J s (MC m) D) (hK : K m) : tb_wp 7 xs 0 752 [(0, .ref 0), (1, .ref 1), (2, .ref 24), (3, .int 0)] [] (HH s (MC m) D) QL := by
  refine wp1 rfl rfl ?_
  refine wpV (lv' := [(0, .ref 0), (1, .ref 1), (2, .ref 24), (3, .int 7)]) rfl ?_
  refine wp2 rfl rfl ?_
  refine wp1 rfl rfl ?_
  refine wp1 rfl rfl ?_
  refine wp3 rfl rfl ?_
  refine wp0 rfl rfl ?_
  refine wp0 rfl rfl ?_
  refine wp2 (pc' := 758) rfl rfl ?_
  refine wp0 rfl rfl ?_
  exact wp5z rfl rfl b1 ⟨rfl, lw_room hJ⟩
set_option maxRecDepth 20000 in
theorem l1_18 {L : Nat} (hL : L ≤ 7) {rg : Nat → Int64} {me he sk : Nat → Int32} (hrg : ∀ n, rg n = R0 n) (hsk : ∀ n, sk n = 0) : tb_wp L xs 0 18 [(0, .ref 0), (1, .ref 1), (2, .ref 24), (3, .int 0)] [] (HH s_new (MC (mF rg me he sk)) []) QL := by
  refine wp1 rfl rfl ?_
  refine wp1 rfl rfl ?_
  refine wp3 rfl rfl ?_
  refine wp0 rfl rfl ?_
  refine wp0 rfl rfl ?_
  refine wp2b rfl rfl (fun c1 => ?_) (fun c1 => ?_)
  · refine wp0 rfl rfl ?_
    exact wp5z rfl rfl b1 ⟨rfl, lw_room (J_new _)⟩
  · have hb := lw_bnd (L := L) (i := 0) (by omega) (by decide) c1
    have e7 : L = 7 := by
      have e0 : (0 : Int32).toInt = 0 := rfl
      omega
    subst e7
    refine wp1 rfl rfl ?_
    refine wp1 rfl rfl ?_
    refine wp3 rfl (am_sald (by decide)) ?_
    refine wp0 rfl rfl ?_
    refine wp0 rfl rfl ?_
    refine wp2s [104, 179, 240, 281, 324, 375, 426, 449, 463, 487, 550, 613, 636, 689, 752] rfl rfl rfl rfl (am_fa1 ?_ (am_fa1 ?_ (am_fa1 ?_ (am_fa1 ?_ (am_fa1 ?_ (am_fa1 ?_ (am_fa1 ?_ (am_fa1 ?_ (am_fa1 ?_ (am_fa1 ?_ (am_fa1 ?_ (am_fa1 ?_ (am_fa1 ?_ (am_fa1 ?_ (am_fa1 ?_ (am_fa0))))))))))))))))
    · exact wpL rfl rfl (l1_104 hrg hsk l1_750)
    · exact wpL rfl rfl (l1_179 hrg hsk l1_750)
    · exact wpL rfl rfl (l1_240 hrg hsk l1_750)
    · exact wpL rfl rfl (l1_281 hrg hsk l1_750)
    · exact wpL rfl rfl (l1_324 hrg hsk l1_750)
    · exact wpL rfl rfl (l1_375 hrg hsk l1_750)
    · exact wpL rfl rfl (l1_426 hrg hsk l1_750)
    · exact wpL rfl rfl (l1_449 hrg hsk l1_750)
    · exact wpL rfl rfl (l1_463 hrg hsk l1_750)
    · exact wpL rfl rfl (l1_487 hrg hsk l1_750)
    · exact wpL rfl rfl (l1_550 hrg hsk l1_750)
    · exact wpL rfl rfl (l1_613 hrg hsk l1_750)
    · exact wpL rfl rfl (l1_636 hrg hsk l1_750)
    · exact wpL rfl rfl (l1_689 hrg hsk l1_750)
    · exact wpL rfl rfl (l1_750 (J_new _) (K_F rg me he sk))
set_option maxRecDepth 20000 in
theorem main_law {L : Nat} (hL : L ≤ 7) : tb_law L xs := by
  have h : tb_wp L xs 0 0 (lv_args 0 [.ref 0]) [] [] QL := by
    refine wp3 rfl rfl ?_
    refine wpH (h' := [.inr (0, [.null, .null, .null, .null, .null, .null, .null, .null, .int 0, .long 0])]) rfl ?_
    refine wpS (st' := [.ref 1]) rfl ?_
    refine wp0 rfl rfl ?_
    refine am_ev_at rfl rfl c_new ?_
    refine wp1 rfl rfl ?_
    refine wpV (lv' := [(0, .ref 0), (1, .ref 1)]) rfl ?_
    refine wp3 rfl rfl ?_
    refine wpH (h' := HH s_new [.inr (12, [.int 0, .null, .null, .null, .null, .null, .null, .int 0, .int 0, .int 0, .int 0, .int 0, .int 0, .int 0, .int 0, .int 0, .null, .null, .long 0, .long 0, .long 0, .int 0, .int 0, .int 0, .int 0, .int 0, .int 0, .int 0, .long 0, .long 0, .int 0, .int 0, .int 0, .int 0, .int 0, .int 0, .int 0, .int 0, .long 0, .null, .null])] []) rfl ?_
    refine wpS (st' := [.ref 24]) rfl ?_
    refine wp0 rfl rfl ?_
    refine wp4 rfl rfl m_new_ok1 (fun rv h1 hq => ?_)
    obtain ⟨rfl, rg, me, he, sk, hrg, hsk, rfl⟩ := hq
    refine wp1 rfl rfl ?_
    refine wpV (lv' := [(0, .ref 0), (1, .ref 1), (2, .ref 24)]) rfl ?_
    refine wp0 rfl rfl ?_
    refine wp1 rfl rfl ?_
    refine wpV (lv' := [(0, .ref 0), (1, .ref 1), (2, .ref 24), (3, .int 0)]) rfl ?_
    exact wpL rfl rfl (l1_18 hL hrg hsk)
  obtain ⟨v, h', ⟨rfl, h1, h2⟩, N, hN⟩ := h
  exact ⟨h', ⟨N, hN⟩, h1, h2⟩
end LAW1

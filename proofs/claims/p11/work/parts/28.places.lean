/-! the model's bytes: byteAtPlace, setPlace, stopWith, store -/
section PLACES
variable {L : Nat} {xs : Nat → Int32} {s : cs} {D : List pgT}
theorem and16_in (x : Int32) : am_in (x &&& 65535) 65536 = true := by
  obtain ⟨a, ha, e⟩ := pk_andE x (m := 65535) 16 rfl
  rw [e]
  exact am_in_of (by rw [show (nI a).toInt = a from by simp only [nI]; rw [Int32.toInt_ofNat_of_lt (by omega)]]; omega) (by rw [show (nI a).toInt = a from by simp only [nI]; rw [Int32.toInt_ofNat_of_lt (by omega)]]; omega)
theorem okP_in {p : Int32} (h0 : 0 ≤ p.toInt) (h1 : okP p) (c : ¬ (1048576 : Int32) ≤ p) : am_in p 262144 = true := by
  have h2 := i32_nle c
  have e : (1048576 : Int32).toInt = 1048576 := rfl
  refine am_in_of h0 ?_
  rcases h1 with h1 | h1 <;> omega
set_option maxRecDepth 20000 in
theorem pl_byte {m : ms} (p : Int32) (h0 : 0 ≤ p.toInt) (h1 : okP p) : tb_wp L xs 133 0 (lv_args 0 [.ref 24, .int p]) [] (HH s (MC m) D) (fun v h => h = HH s (MC m) D ∧ ∃ x : Int32, v = some (.int (x &&& 255))) := by
  refine wp1 rfl rfl ?_
  refine wp0 rfl rfl ?_
  refine wp2b rfl rfl (fun c1 => ?_) (fun c1 => ?_)
  · refine wp1 rfl rfl ?_
    refine wp0 rfl rfl ?_
    refine wp2b rfl rfl (fun c2 => ?_) (fun c2 => ?_)
    · refine wp1 rfl rfl ?_
      refine wp3 rfl (am_getf rfl rfl) ?_
      refine wp1 rfl rfl ?_
      refine wp0 rfl rfl ?_
      refine wp0 rfl rfl ?_
      refine wp3 rfl (am_bald rfl (and16_in p)) ?_
      refine wp0 rfl rfl ?_
      refine wp0 rfl rfl ?_
      exact wp5i rfl rfl ⟨rfl, _, rfl⟩
    · refine wp1 rfl rfl ?_
      refine wp3 rfl (am_getf rfl rfl) ?_
      refine wp1 rfl rfl ?_
      refine wp0 rfl rfl ?_
      refine wp0 rfl rfl ?_
      refine wp3 rfl (am_bald rfl (and16_in p)) ?_
      refine wp2 rfl rfl ?_
      refine wp0 rfl rfl ?_
      refine wp0 rfl rfl ?_
      exact wp5i rfl rfl ⟨rfl, _, rfl⟩
  · refine wp1 rfl rfl ?_
    refine wp3 rfl (am_getf rfl rfl) ?_
    refine wp1 rfl rfl ?_
    refine wp3 rfl (am_bald rfl (okP_in h0 h1 c1)) ?_
    refine wp2 rfl rfl ?_
    refine wp0 rfl rfl ?_
    refine wp0 rfl rfl ?_
    exact wp5i rfl rfl ⟨rfl, _, rfl⟩
set_option maxRecDepth 20000 in
theorem pl_set {m : ms} (hJ : K m) (p y : Int32) (h0 : 0 ≤ p.toInt) (h1 : okP p) : tb_wp L xs 175 0 (lv_args 0 [.ref 24, .int p, .int y]) [] (HH s (MC m) D) (NV 2 m s D) := by
  refine wp1 rfl rfl ?_
  refine wp0 rfl rfl ?_
  refine wp2b rfl rfl (fun c1 => ?_) (fun c1 => ?_)
  · refine wp1 rfl rfl ?_
    refine wp0 rfl rfl ?_
    refine wp2b rfl rfl (fun c2 => ?_) (fun c2 => ?_)
    · refine wp1 rfl rfl ?_
      refine wp3 rfl (am_getf rfl rfl) ?_
      refine wp1 rfl rfl ?_
      refine wp0 rfl rfl ?_
      refine wp0 rfl rfl ?_
      refine wp1 rfl rfl ?_
      refine wp0 rfl rfl ?_
      refine wp3 rfl (am_bast rfl (and16_in p)) ?_
      refine wpH (h' := HH s (MC (t_stack m (upd (q_stack m) (p &&& 65535).toNatClampNeg (vp_nar .byte y.toInt8.toInt32)))) D) rfl ?_
      exact wp5 rfl rfl ⟨(t_stack m (upd (q_stack m) (p &&& 65535).toNatClampNeg (vp_nar .byte y.toInt8.toInt32))), hJ, RLr (m := m), rfl, rfl⟩
    · refine wp1 rfl rfl ?_
      refine wp3 rfl (am_getf rfl rfl) ?_
      refine wp1 rfl rfl ?_
      refine wp0 rfl rfl ?_
      refine wp0 rfl rfl ?_
      refine wp1 rfl rfl ?_
      refine wp0 rfl rfl ?_
      refine wp3 rfl (am_bast rfl (and16_in p)) ?_
      refine wpH (h' := HH s (MC (t_heap m (upd (q_heap m) (p &&& 65535).toNatClampNeg (vp_nar .byte y.toInt8.toInt32)))) D) rfl ?_
      refine wp2 rfl rfl ?_
      exact wp5 rfl rfl ⟨(t_heap m (upd (q_heap m) (p &&& 65535).toNatClampNeg (vp_nar .byte y.toInt8.toInt32))), hJ, RLr (m := m), rfl, rfl⟩
  · refine wp1 rfl rfl ?_
    refine wp3 rfl (am_getf rfl rfl) ?_
    refine wp1 rfl rfl ?_
    refine wp1 rfl rfl ?_
    refine wp0 rfl rfl ?_
    refine wp3 rfl (am_bast rfl (okP_in h0 h1 c1)) ?_
    refine wpH (h' := HH s (MC (t_memory m (upd (q_memory m) p.toNatClampNeg (vp_nar .byte y.toInt8.toInt32)))) D) rfl ?_
    refine wp2 rfl rfl ?_
    exact wp5 rfl rfl ⟨(t_memory m (upd (q_memory m) p.toNatClampNeg (vp_nar .byte y.toInt8.toInt32))), hJ, RLr (m := m), rfl, rfl⟩
/-- stopWith: halt isn't 0 afterwards -/
def NH (m : ms) (s : cs) (D : List pgT) (v : Option Value) (h : am_H) : Prop := ∃ m', K m' ∧ RL 2 m m' ∧ q_halt m' ≠ 0 ∧ h = HH s (MC m') D ∧ v = none
set_option maxRecDepth 20000 in
theorem pl_stop {m : ms} (hJ : K m) (y : Int32) (v : Int64) (hy : y ≠ 0) : tb_wp L xs 183 0 (lv_args 0 [.ref 24, .int y, .long v]) [] (HH s (MC m) D) (NH m s D) := by
  refine wp1 rfl rfl ?_
  refine wp3 rfl (am_getf rfl rfl) ?_
  refine wp2b rfl rfl (fun c1 => ?_) (fun c1 => ?_)
  · refine wp1 rfl rfl ?_
    refine wp1 rfl rfl ?_
    refine wp3 rfl (am_putf rfl (Nat.le_of_ble_eq_true rfl) rfl rfl) ?_
    refine wpH (h' := HH s (MC (t_halt m y)) D) rfl ?_
    refine wp1 rfl rfl ?_
    refine wp1 rfl rfl ?_
    refine wp3 rfl (am_putf rfl (Nat.le_of_ble_eq_true rfl) rfl rfl) ?_
    refine wpH (h' := HH s (MC (t_haltValue (t_halt m y) v)) D) rfl ?_
    exact wp5 rfl rfl ⟨(t_haltValue (t_halt m y) v), hJ, RLr (m := m), hy, rfl, rfl⟩
  · exact wp5 rfl rfl ⟨_, hJ, RLr, c1, rfl, rfl⟩
set_option maxRecDepth 20000 in
theorem st_loop2 (n : Nat) : ∀ {m m0 : ms} (hJ : K m) (hR : RL 2 m0 m) (a v : Int64) (z k : Int32) (hk : 0 ≤ k.toInt) (hall : q_halt m ≠ 0 ∨ ∀ j : Int32, 0 ≤ j.toInt → j.toInt < z.toInt → 0 ≤ (fd m.2.1 (a + Int32.toInt64 j) 1).toInt) (hm : (z.toInt - k.toInt).toNat < n), tb_wp L xs 184 37 [(0, .ref 24), (1, .long a), (3, .int z), (4, .long v), (6, .int k)] [] (HH s (MC m) D) (NV 2 m0 s D) := by
  induction n with
  | zero => intro m m0 hJ hR a v z k hk hall hm; exact absurd hm (Nat.not_lt_zero _)
  | succ n ih =>
    intro m m0 hJ hR a v z k hk hall hm
    refine wp1 rfl rfl ?_
    refine wp1 rfl rfl ?_
    refine wp2b rfl rfl (fun c1 => ?_) (fun c1 => ?_)
    · exact wp5 rfl rfl ⟨_, hJ, hR, rfl, rfl⟩
    · refine wp1 rfl rfl ?_
      refine wp3 rfl (am_getf rfl rfl) ?_
      refine wp2b rfl rfl (fun c2 => ?_) (fun c2 => ?_)
      · have ha : ∀ j : Int32, 0 ≤ j.toInt → j.toInt < z.toInt → 0 ≤ (fd m.2.1 (a + Int32.toInt64 j) 1).toInt := by
          rcases hall with h | h
          · exact absurd c2 h
          · exact h
        refine wp1 rfl rfl ?_
        refine wp1 rfl rfl ?_
        refine wp1 rfl rfl ?_
        refine wp1 rfl rfl ?_
        refine wp0 rfl rfl ?_
        refine wp0 rfl rfl ?_
        refine wp0 rfl rfl ?_
        refine am_ev_at rfl rfl (ev_find _ _) ?_
        refine wp1 rfl rfl ?_
        refine wp0 rfl rfl ?_
        refine wp1 rfl rfl ?_
        refine wp0 rfl rfl ?_
        refine wp0 rfl rfl ?_
        refine wp0 rfl rfl ?_
        refine wp4 rfl rfl (pl_set hJ _ _ (ha k hk (i32_nle c1)) (fd_ok hJ _ _)) (fun rv h1 hq => ?_)
        obtain ⟨m2, hJ2, hR2, rfl, rfl⟩ := hq
        refine wp1 rfl rfl ?_
        refine wpV (lv' := [(0, .ref 24), (1, .long a), (3, .int z), (4, .long v), (6, .int (k + 1))]) rfl ?_
        refine wp2 rfl rfl ?_
        exact wpL rfl rfl (ih hJ2 (RLt hR hR2) a v z (k + 1) (i32_upp c1 hk) (Or.inr (by rw [hR2.2 (by decide)]; exact ha)) (i32_up c1 hm))
      · exact wp5 rfl rfl ⟨_, hJ, hR, rfl, rfl⟩
set_option maxRecDepth 20000 in
theorem st_loop1 (n : Nat) : ∀ {m m0 : ms} (hJ : K m) (hR : RL 2 m0 m) (a v : Int64) (z k : Int32) (hk : 0 ≤ k.toInt) (hall : q_halt m ≠ 0 ∨ ∀ j : Int32, 0 ≤ j.toInt → j.toInt < k.toInt → 0 ≤ (fd m.2.1 (a + Int32.toInt64 j) 1).toInt) (hm : (z.toInt - k.toInt).toNat < n), tb_wp L xs 184 3 [(0, .ref 24), (1, .long a), (3, .int z), (4, .long v), (6, .int k)] [] (HH s (MC m) D) (NV 2 m0 s D) := by
  induction n with
  | zero => intro m m0 hJ hR a v z k hk hall hm; exact absurd hm (Nat.not_lt_zero _)
  | succ n ih =>
    intro m m0 hJ hR a v z k hk hall hm
    refine wp1 rfl rfl ?_
    refine wp1 rfl rfl ?_
    refine wp2b rfl rfl (fun c1 => ?_) (fun c1 => ?_)
    · refine wp0 rfl rfl ?_
      refine wp1 rfl rfl ?_
      refine wpV (lv' := [(0, .ref 24), (1, .long a), (3, .int z), (4, .long v), (6, .int 0)]) rfl ?_
      have c1' := Int32.le_iff_toInt_le.mp c1
      exact wpL rfl rfl (st_loop2 _ hJ hR a v z 0 (by decide) (hall.imp id (fun h j h1 h2 => h j h1 (by omega))) (Nat.lt_succ_self _))
    · have hz := i32_nle c1
      have hz2 := Int32.toInt_lt z
      have e1 : (k + 1).toInt = k.toInt + 1 := i32_addI (a := k) (b := 1) (by show -2147483648 ≤ k.toInt + 1; omega) (by show k.toInt + 1 < 2147483648; omega)
      refine wp1 rfl rfl ?_
      refine wp1 rfl rfl ?_
      refine wp1 rfl rfl ?_
      refine wp0 rfl rfl ?_
      refine wp0 rfl rfl ?_
      refine wp0 rfl rfl ?_
      refine am_ev_at rfl rfl (ev_find _ _) ?_
      refine wp2b rfl rfl (fun c2 => ?_) (fun c2 => ?_)
      · refine wp1 rfl rfl ?_
        refine wpV (lv' := [(0, .ref 24), (1, .long a), (3, .int z), (4, .long v), (6, .int (k + 1))]) rfl ?_
        refine wp2 rfl rfl ?_
        refine wpL rfl rfl (ih hJ hR a v z (k + 1) (i32_upp c1 hk) (hall.imp id (fun h j h1 h2 => ?_)) (i32_up c1 hm))
        by_cases hj : j.toInt = k.toInt
        · rw [Int32.toInt_inj.mp hj]
          exact Int32.le_iff_toInt_le.mp c2
        · exact h j h1 (by omega)
      · refine wp1 rfl rfl ?_
        refine wp0 rfl rfl ?_
        refine wp1 rfl rfl ?_
        refine wp4 rfl rfl (pl_stop hJ 3 a (by decide)) (fun rv h1 hq => ?_)
        obtain ⟨m2, hJ2, hR2, hh, rfl, rfl⟩ := hq
        refine wp1 rfl rfl ?_
        refine wpV (lv' := [(0, .ref 24), (1, .long a), (3, .int z), (4, .long v), (6, .int (k + 1))]) rfl ?_
        refine wp2 rfl rfl ?_
        exact wpL rfl rfl (ih hJ2 (RLt hR hR2) a v z (k + 1) (i32_upp c1 hk) (Or.inl hh) (i32_up c1 hm))
set_option maxRecDepth 20000 in
theorem mf_184 {m : ms} (hJ : K m) (a : Int64) (z : Int32) (v : Int64) : tb_wp L xs 184 0 (lv_args 0 [.ref 24, .long a, .int z, .long v]) [] (HH s (MC m) D) (NV 2 m s D) := by
  refine wp0 rfl rfl ?_
  refine wp1 rfl rfl ?_
  refine wpV (lv' := [(0, .ref 24), (1, .long a), (3, .int z), (4, .long v), (6, .int 0)]) rfl ?_
  exact wpL rfl rfl (st_loop1 _ hJ RLr a v z 0 (by decide) (Or.inr (fun j h1 h2 => absurd h2 (by show ¬ j.toInt < 0; omega))) (Nat.lt_succ_self _))
end PLACES

/-! the model's may -/
theorem i64_addI {a b : Int64} (h1 : -9223372036854775808 ≤ a.toInt + b.toInt) (h2 : a.toInt + b.toInt < 9223372036854775808) : (a + b).toInt = a.toInt + b.toInt := by
  rw [Int64.toInt_add]
  exact Int.bmod_eq_of_le (by omega) (by omega)
/-- every place from a on, n of them, is there -/
def allP (m : ms) (a : Int64) (n : Int) (w : Int32) : Prop := ∀ j : Int64, 0 ≤ j.toInt → j.toInt < n → 0 ≤ (fd m.2.1 (a + j) w).toInt
def NM (m : ms) (a n : Int64) (w : Int32) (s : cs) (D : List pgT) (v : Option Value) (h : am_H) : Prop := h = HH s (MC m) D ∧ ((v = some (.int 0)) ∨ (v = some (.int 1) ∧ 0 ≤ n.toInt ∧ n.toInt ≤ 1048576 ∧ allP m a n.toInt w))
section MAY
variable {L : Nat} {xs : Nat → Int32} {s : cs} {D : List pgT}
set_option maxRecDepth 20000 in
theorem may_loop {m : ms} (a n : Int64) (w : Int32) (hn : 0 ≤ n.toInt) (hn2 : n.toInt ≤ 1048576) (f : Nat) : ∀ (k : Int64) (hk : 0 ≤ k.toInt) (hk2 : k.toInt ≤ n.toInt) (hall : allP m a k.toInt w) (hm : (n.toInt - k.toInt).toNat < f), tb_wp L xs 153 19 [(0, .ref 24), (1, .long a), (3, .long n), (5, .int w), (6, .long k)] [] (HH s (MC m) D) (NM m a n w s D) := by
  induction f with
  | zero => intro k hk hk2 hall hm; exact absurd hm (Nat.not_lt_zero _)
  | succ f ih =>
    intro k hk hk2 hall hm
    refine wp1 rfl rfl ?_
    refine wp1 rfl rfl ?_
    refine wp0 rfl rfl ?_
    refine wp2b rfl rfl (fun c1 => ?_) (fun c1 => ?_)
    · have g := Int64.le_iff_toInt_le.mp ((lg_cmp_ge _ _).mp c1)
      have e : k.toInt = n.toInt := by omega
      refine wp0 rfl rfl ?_
      exact wp5z rfl rfl b1 ⟨rfl, Or.inr ⟨rfl, hn, hn2, e ▸ hall⟩⟩
    · have g := nge c1
      have e1 : (k + 1).toInt = k.toInt + 1 := i64_addI (b := 1) (by show -9223372036854775808 ≤ k.toInt + 1; omega) (by show k.toInt + 1 < 9223372036854775808; omega)
      refine wp1 rfl rfl ?_
      refine wp1 rfl rfl ?_
      refine wp1 rfl rfl ?_
      refine wp0 rfl rfl ?_
      refine wp1 rfl rfl ?_
      refine am_ev_at rfl rfl (ev_find _ _) ?_
      refine wp2b rfl rfl (fun c2 => ?_) (fun c2 => ?_)
      · refine wp1 rfl rfl ?_
        refine wp0 rfl rfl ?_
        refine wp0 rfl rfl ?_
        refine wp1 rfl rfl ?_
        refine wpV (lv' := [(0, .ref 24), (1, .long a), (3, .long n), (5, .int w), (6, .long (k + 1))]) rfl ?_
        refine wp2 rfl rfl ?_
        refine wpL rfl rfl (ih (k + 1) (by omega) (by omega) (fun j h1 h2 => ?_) (by omega))
        by_cases hj : j.toInt = k.toInt
        · rw [Int64.toInt_inj.mp hj]
          exact Int32.le_iff_toInt_le.mp c2
        · exact hall j h1 (by omega)
      · refine wp0 rfl rfl ?_
        exact wp5z rfl rfl b0 ⟨rfl, Or.inl rfl⟩
set_option maxRecDepth 20000 in
theorem may_no {m : ms} (a n : Int64) (w : Int32) : tb_wp L xs 153 14 [] [] (HH s (MC m) D) (NM m a n w s D) := by
  refine wp0 rfl rfl ?_
  exact wp5z rfl rfl b0 ⟨rfl, Or.inl rfl⟩
set_option maxRecDepth 20000 in
theorem may_at {m : ms} (a n : Int64) (w : Int32) : tb_wp L xs 153 0 (lv_args 0 [.ref 24, .long a, .long n, .int w]) [] (HH s (MC m) D) (NM m a n w s D) := by
  refine wp1 rfl rfl ?_
  refine wp0 rfl rfl ?_
  refine wp0 rfl rfl ?_
  refine wp2b rfl rfl (fun c1 => ?_) (fun c1 => ?_)
  · exact wpL rfl rfl (may_no a n w)
  · refine wp1 rfl rfl ?_
    refine wp0 rfl rfl ?_
    refine wp0 rfl rfl ?_
    refine wp2b rfl rfl (fun c2 => ?_) (fun c2 => ?_)
    · have g1 := nlt0 c1
      have g2 : n.toInt ≤ 1048576 := Int64.le_iff_toInt_le.mp ((lg_cmp_le _ _).mp c2)
      refine wp0 rfl rfl ?_
      refine wp1 rfl rfl ?_
      refine wpV (lv' := [(0, .ref 24), (1, .long a), (3, .long n), (5, .int w), (6, .long 0)]) rfl ?_
      exact wpL rfl rfl (may_loop a n w g1 g2 _ 0 (by decide) g1 (fun j h1 h2 => absurd h2 (by show ¬ j.toInt < 0; omega)) (Nat.lt_succ_self _))
    · exact wpL rfl rfl (may_no a n w)
end MAY

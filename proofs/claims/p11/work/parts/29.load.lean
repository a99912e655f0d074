/-! the model's load: its answer's bounds -/
def okV (z : Int32) (x : Int64) : Prop := (z = 1 → 0 ≤ x.toInt ∧ x.toInt < 256) ∧ (z = 4 → 0 ≤ x.toInt ∧ x.toInt < 4294967296)
def NL (z : Int32) (m : ms) (s : cs) (D : List pgT) (v : Option Value) (h : am_H) : Prop := ∃ m', K m' ∧ RL 2 m m' ∧ h = HH s (MC m') D ∧ ∃ x : Int64, v = some (.long x) ∧ okV z x
theorem i64_nat {y : Int64} (h : 0 ≤ y.toInt) : y.toInt = y.toBitVec.toNat := by
  have h1 : y.toInt = y.toBitVec.toInt := rfl
  have h2 := BitVec.toInt_eq_toNat_cond y.toBitVec
  have h3 := y.toBitVec.isLt
  rw [h1] at h ⊢
  split at h2 <;> omega
theorem i64_small {y : Int64} (h : y.toBitVec.toNat < 2 ^ 63) : y.toInt = y.toBitVec.toNat := by
  have h1 : y.toInt = y.toBitVec.toInt := rfl
  have h2 := BitVec.toInt_eq_toNat_cond y.toBitVec
  rw [h1]
  split at h2 <;> omega
theorem shl_nat {b c : Int64} {n : Nat} (hb : b.toBitVec.toNat < 256) (hc : (c.toBitVec.smod 64).toNat = n) : (b <<< c).toBitVec.toNat < 2 ^ (n + 8) := by
  rw [Int64.toBitVec_shiftLeft, BitVec.shiftLeft_eq', hc, BitVec.toNat_shiftLeft, Nat.shiftLeft_eq]
  refine Nat.lt_of_le_of_lt (Nat.mod_le _ _) ?_
  rw [Nat.pow_add, Nat.mul_comm (2 ^ n)]
  exact Nat.mul_lt_mul_of_pos_right hb (Nat.two_pow_pos n)
theorem or_nat {a b : Int64} {n : Nat} (ha : a.toBitVec.toNat < 2 ^ n) (hb : b.toBitVec.toNat < 2 ^ n) : (a ||| b).toBitVec.toNat < 2 ^ n := by
  have e : (a ||| b).toBitVec.toNat = a.toBitVec.toNat ||| b.toBitVec.toNat := BitVec.toNat_or ..
  rw [e]
  exact Nat.or_lt_two_pow ha hb
theorem ld_step {x : Int64} {k y : Int32} (hk : 0 ≤ k.toInt) (hk2 : k.toInt + 1 ≤ 4) (hx : x.toBitVec.toNat < 2 ^ (8 * k.toInt.toNat)) : (x ||| (Int32.toInt64 (y &&& 255) <<< (Int32.toInt64 (8 * k) &&& 63))).toBitVec.toNat < 2 ^ (8 * (k.toInt + 1).toNat) := by
  have hb := and255I y
  have hb2 : (Int32.toInt64 (y &&& 255)).toBitVec.toNat < 256 := by
    have e := i2lI (y &&& 255)
    have e2 := i64_nat (y := Int32.toInt64 (y &&& 255)) (by omega)
    omega
  have hx2 : x.toBitVec.toNat < 2 ^ (8 * (k.toInt + 1).toNat) := Nat.lt_of_lt_of_le hx (Nat.pow_le_pow_right (by decide) (by omega))
  refine or_nat hx2 ?_
  have hc : k = 0 ∨ k = 1 ∨ k = 2 ∨ k = 3 := by
    have h4 : k.toInt = 0 ∨ k.toInt = 1 ∨ k.toInt = 2 ∨ k.toInt = 3 := by omega
    rcases h4 with h | h | h | h
    · exact Or.inl (Int32.toInt_inj.mp h)
    · exact Or.inr (Or.inl (Int32.toInt_inj.mp h))
    · exact Or.inr (Or.inr (Or.inl (Int32.toInt_inj.mp h)))
    · exact Or.inr (Or.inr (Or.inr (Int32.toInt_inj.mp h)))
  rcases hc with rfl | rfl | rfl | rfl
  · exact shl_nat (n := 0) hb2 (by decide)
  · exact shl_nat (n := 8) hb2 (by decide)
  · exact shl_nat (n := 16) hb2 (by decide)
  · exact shl_nat (n := 24) hb2 (by decide)
section LOAD
variable {L : Nat} {xs : Nat → Int32} {s : cs} {D : List pgT}
theorem okV0 (z : Int32) : okV z 0 := ⟨fun _ => by decide, fun _ => by decide⟩
theorem okV_of {x : Int64} {z k : Int32} (h1 : z ≤ k) (h2 : k.toInt ≤ z.toInt ∨ k = 0) (hx : k.toInt ≤ 4 → x.toBitVec.toNat < 2 ^ (8 * k.toInt.toNat)) : okV z x := by
  have g := Int32.le_iff_toInt_le.mp h1
  constructor
  · intro hz
    have e : z.toInt = 1 := by rw [hz]; rfl
    have hk : k.toInt = 1 := by
      rcases h2 with h | h
      · omega
      · have : k.toInt = 0 := by rw [h]; rfl
        omega
    have hx1 := hx (by omega)
    rw [hk] at hx1
    have hx2 : x.toBitVec.toNat < 256 := hx1
    have := i64_small (y := x) (by omega)
    omega
  · intro hz
    have e : z.toInt = 4 := by rw [hz]; rfl
    have hk : k.toInt = 4 := by
      rcases h2 with h | h
      · omega
      · have : k.toInt = 0 := by rw [h]; rfl
        omega
    have hx1 := hx (by omega)
    rw [hk] at hx1
    have hx2 : x.toBitVec.toNat < 4294967296 := hx1
    have := i64_small (y := x) (by omega)
    omega
set_option maxRecDepth 20000 in
theorem ld_loop (n : Nat) : ∀ {m m0 : ms} (hJ : K m) (hR : RL 2 m0 m) (a x : Int64) (z k : Int32) (hk : 0 ≤ k.toInt) (hkz : k.toInt ≤ z.toInt ∨ k = 0) (hx : k.toInt ≤ 4 → x.toBitVec.toNat < 2 ^ (8 * k.toInt.toNat)) (hm : (z.toInt - k.toInt).toNat < n), tb_wp L xs 152 6 [(0, .ref 24), (1, .long a), (3, .int z), (4, .long x), (6, .int k)] [] (HH s (MC m) D) (NL z m0 s D) := by
  induction n with
  | zero => intro m m0 hJ hR a x z k hk hkz hx hm; exact absurd hm (Nat.not_lt_zero _)
  | succ n ih =>
    intro m m0 hJ hR a x z k hk hkz hx hm
    refine wp1 rfl rfl ?_
    refine wp1 rfl rfl ?_
    refine wp2b rfl rfl (fun c1 => ?_) (fun c1 => ?_)
    · refine wp1 rfl rfl ?_
      exact wp5 rfl rfl ⟨_, hJ, hR, rfl, _, rfl, okV_of c1 hkz hx⟩
    · have hz := i32_nle c1
      have hz2 := Int32.toInt_lt z
      have e1 : (k + 1).toInt = k.toInt + 1 := i32_addI (a := k) (b := 1) (by show -2147483648 ≤ k.toInt + 1; omega) (by show k.toInt + 1 < 2147483648; omega)
      refine wp1 rfl rfl ?_
      refine wp1 rfl rfl ?_
      refine wp1 rfl rfl ?_
      refine wp0 rfl rfl ?_
      refine wp0 rfl rfl ?_
      refine wp0 rfl rfl ?_
      refine am_ev_at rfl rfl (ev_find _ _) ?_
      have hok := fd_ok hJ (a + Int32.toInt64 k) 0
      refine wpTi (fun p ep => ?_)
      rw [ep] at hok
      refine wp1 rfl rfl ?_
      refine wpV (lv' := [(0, .ref 24), (1, .long a), (3, .int z), (4, .long x), (6, .int k), (7, .int p)]) rfl ?_
      refine wp1 rfl rfl ?_
      refine wp2b rfl rfl (fun c2 => ?_) (fun c2 => ?_)
      · refine wp1 rfl rfl ?_
        refine wp1 rfl rfl ?_
        refine wp1 rfl rfl ?_
        refine wp4 rfl rfl (pl_byte p (Int32.le_iff_toInt_le.mp c2) hok) (fun rv h1 hq => ?_)
        obtain ⟨rfl, y, rfl⟩ := hq
        refine wp0 rfl rfl ?_
        refine wp0 rfl rfl ?_
        refine wp1 rfl rfl ?_
        refine wp0 rfl rfl ?_
        refine wp0 rfl rfl ?_
        refine wp0 rfl rfl ?_
        have hs : (k + 1).toInt ≤ 4 → (x ||| (Int32.toInt64 (y &&& 255) <<< (Int32.toInt64 (8 * k) &&& 63))).toBitVec.toNat < 2 ^ (8 * (k + 1).toInt.toNat) := fun h4 => by
          rw [e1] at h4 ⊢
          exact ld_step hk h4 (hx (by omega))
        refine wpTl (fun x' ex => ?_)
        rw [ex] at hs
        refine wp1 rfl rfl ?_
        refine wpV (lv' := [(0, .ref 24), (1, .long a), (3, .int z), (4, .long x'), (6, .int k), (7, .int p)]) rfl ?_
        refine wp1 rfl rfl ?_
        refine wpV (lv' := [(0, .ref 24), (1, .long a), (3, .int z), (4, .long x'), (6, .int (k + 1)), (7, .int p)]) rfl ?_
        refine wp2 rfl rfl ?_
        exact wpL rfl rfl (ih hJ hR a x' z (k + 1) (i32_upp c1 hk) (Or.inl (by omega)) hs (i32_up c1 hm))
      · refine wp1 rfl rfl ?_
        refine wp0 rfl rfl ?_
        refine wp1 rfl rfl ?_
        refine wp4 rfl rfl (pl_stop hJ 3 a (by decide)) (fun rv h1 hq => ?_)
        obtain ⟨m2, hJ2, hR2, hh, rfl, rfl⟩ := hq
        refine wp0 rfl rfl ?_
        exact wp5 rfl rfl ⟨_, hJ2, RLt hR hR2, rfl, _, rfl, okV0 z⟩
set_option maxRecDepth 20000 in
theorem ml_load {m : ms} (hJ : K m) (a : Int64) (z : Int32) : tb_wp L xs 152 0 (lv_args 0 [.ref 24, .long a, .int z]) [] (HH s (MC m) D) (NL z m s D) := by
  refine wp0 rfl rfl ?_
  refine wp1 rfl rfl ?_
  refine wpV (lv' := [(0, .ref 24), (1, .long a), (3, .int z), (4, .long 0)]) rfl ?_
  refine wp0 rfl rfl ?_
  refine wp1 rfl rfl ?_
  refine wpV (lv' := [(0, .ref 24), (1, .long a), (3, .int z), (4, .long 0), (6, .int 0)]) rfl ?_
  exact wpL rfl rfl (ld_loop _ hJ RLr a 0 z 0 (by decide) (Or.inr rfl) (fun _ => by decide) (Nat.lt_succ_self _))
theorem mf_152 {m : ms} (hJ : K m) (a : Int64) (z : Int32) : tb_wp L xs 152 0 (lv_args 0 [.ref 24, .long a, .int z]) [] (HH s (MC m) D) (NJ 2 m s D) := am_wp_mono (ml_load hJ a z) (fun v h q => by
  obtain ⟨m2, h1, h2, h3, x, h4, _⟩ := q
  exact ⟨m2, h1, h2, h3, x, h4⟩)
end LOAD

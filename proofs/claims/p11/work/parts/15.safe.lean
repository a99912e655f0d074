/-! SAFETY of the class: what holds of its cells between instructions (J), and what a method that was called leaves (SV, SI, SZ, SJ) -/
abbrev pgT : Type := Int32 × Option Nat × (Nat → Int32)
/-- pages: b cells stand between the class's and them -/
def pgF (b : Nat) : Nat → List pgT → am_H
  | _, [] => []
  | j, p :: r => .inr (11, [.int p.1, am_rf p.2.1, .ref (25 + b + 2 * j)]) :: .inl (1, 256, .inl p.2.2) :: pgF b (j + 1) r
def HH (s : cs) (mc : am_H) (D : List pgT) : am_H := CH s (mc ++ pgF mc.length 0 D)
def okp (b len : Nat) (o : Option Nat) : Prop := ∀ q, o = some q → ∃ j, j < len ∧ q = 24 + b + 2 * j
def cnt (T : Nat → Option Nat) : Nat → Nat
  | 0 => 0
  | n + 1 => cnt T n + (if T n = none then 0 else 1)
def b01 (x : Int32) : Prop := x = 0 ∨ x = 1
/-- the four stretches -/
def sR (i : Nat) : Nat := match i with
  | 0 => 5
  | 1 => 11
  | 2 => 20
  | _ => 22
def sN (i : Nat) : Nat := match i with
  | 0 => 1024
  | 1 => 1537
  | _ => 256
def sT (s : cs) (i : Nat) : Nat → Option Nat := match i with
  | 0 => g_fpages s
  | 1 => g_mpages s
  | 2 => g_ipages s
  | _ => g_opages s
def sW (s : cs) (i : Nat) : Option Nat := match i with
  | 0 => g_fnew s
  | 1 => g_mnew s
  | 2 => g_inew s
  | _ => g_onew s
def sT' (s : cs) (i : Nat) (v : Nat → Option Nat) : cs := match i with
  | 0 => s_fpages s v
  | 1 => s_mpages s v
  | 2 => s_ipages s v
  | _ => s_opages s v
def sW' (s : cs) (i : Nat) (v : Option Nat) : cs := match i with
  | 0 => s_fnew s v
  | 1 => s_mnew s v
  | 2 => s_inew s v
  | _ => s_onew s v
/-- the pages -/
def JP (s : cs) (mc : am_H) (D : List pgT) : Prop := (∀ i k, i < 4 → k < sN i → okp mc.length D.length (sT s i k)) ∧ (∀ i, i < 4 → okp mc.length D.length (sW s i)) ∧ (∀ (j : Nat) (p : pgT), D[j]? = some p → okp mc.length j p.2.1 ∧ (∃ k, k < 1537 ∧ p.1 = nI k) ∧ ∀ i, fits .byte (.int (p.2.2 i)) = true) ∧ D.length = cnt (sT s 0) 1024 + cnt (sT s 1) 1537 + cnt (sT s 2) 256 + cnt (sT s 3) 256
def J (s : cs) (mc : am_H) (D : List pgT) : Prop := b01 (g_ended s) ∧ b01 (g_carry s) ∧ b01 (g_parity s) ∧ b01 (g_zero s) ∧ b01 (g_sign s) ∧ b01 (g_over s) ∧ (∀ i, i < 3 → am_in (g_hregs s i) 16 = true) ∧ JP s mc D
theorem J_ended {s : cs} {mc : am_H} {D : List pgT} {v : Int32} (h : J s mc D) (hv : b01 v) : J (s_ended s v) mc D := ⟨hv, h.2⟩
theorem J_carry {s : cs} {mc : am_H} {D : List pgT} {v : Int32} (h : J s mc D) (hv : b01 v) : J (s_carry s v) mc D := ⟨h.1, hv, h.2.2⟩
theorem J_parity {s : cs} {mc : am_H} {D : List pgT} {v : Int32} (h : J s mc D) (hv : b01 v) : J (s_parity s v) mc D := ⟨h.1, h.2.1, hv, h.2.2.2⟩
theorem J_zero {s : cs} {mc : am_H} {D : List pgT} {v : Int32} (h : J s mc D) (hv : b01 v) : J (s_zero s v) mc D := ⟨h.1, h.2.1, h.2.2.1, hv, h.2.2.2.2⟩
theorem J_sign {s : cs} {mc : am_H} {D : List pgT} {v : Int32} (h : J s mc D) (hv : b01 v) : J (s_sign s v) mc D := ⟨h.1, h.2.1, h.2.2.1, h.2.2.2.1, hv, h.2.2.2.2.2⟩
theorem J_over {s : cs} {mc : am_H} {D : List pgT} {v : Int32} (h : J s mc D) (hv : b01 v) : J (s_over s v) mc D := ⟨h.1, h.2.1, h.2.2.1, h.2.2.2.1, h.2.2.2.2.1, hv, h.2.2.2.2.2.2⟩
theorem J_hregs {s : cs} {mc : am_H} {D : List pgT} {k v : Int32} (h : J s mc D) (hv : am_in v 16 = true) : J (s_hregs s (upd (g_hregs s) k.toNatClampNeg v)) mc D := ⟨h.1, h.2.1, h.2.2.1, h.2.2.2.1, h.2.2.2.2.1, h.2.2.2.2.2.1, fun i hi => by
  show am_in (upd (g_hregs s) k.toNatClampNeg v i) 16 = true
  unfold upd
  split
  · exact hv
  · exact h.2.2.2.2.2.2.1 i hi, h.2.2.2.2.2.2.2⟩
theorem am_in_lt {j : Int32} {n : Nat} (h : am_in j n = true) : j.toNatClampNeg < n := by
  simp only [am_in, Bool.and_eq_true, decide_eq_true_eq] at h
  exact h.2
theorem J_hreg {s : cs} {mc : am_H} {D : List pgT} {k : Int32} (h : J s mc D) (hk : am_in k 3 = true) : am_in (g_hregs s k.toNatClampNeg) 16 = true := h.2.2.2.2.2.2.1 _ (am_in_lt hk)
theorem am_in_of {j : Int32} {n : Nat} (h1 : 0 ≤ j.toInt) (h2 : j.toInt < n) : am_in j n = true := by
  have e : ¬ j < 0 := fun z => by
    have := Int32.lt_iff_toInt_lt.mp z
    have e0 : (0 : Int32).toInt = 0 := rfl
    omega
  have e2 : j.toNatClampNeg < n := by
    show j.toInt.toNat < n
    omega
  simp [am_in, e, e2]
def SV (mc : am_H) (v : Option Value) (h : am_H) : Prop := ∃ (s : cs) (D : List pgT), J s mc D ∧ h = HH s mc D ∧ v = none
def SI (mc : am_H) (v : Option Value) (h : am_H) : Prop := ∃ (s : cs) (D : List pgT), J s mc D ∧ h = HH s mc D ∧ ∃ x : Int32, v = some (.int x)
def SZ (mc : am_H) (v : Option Value) (h : am_H) : Prop := ∃ (s : cs) (D : List pgT), J s mc D ∧ h = HH s mc D ∧ ∃ x : Int32, v = some (.int x) ∧ b01 x
def SJ (mc : am_H) (v : Option Value) (h : am_H) : Prop := ∃ (s : cs) (D : List pgT), J s mc D ∧ h = HH s mc D ∧ ∃ x : Int64, v = some (.long x)
theorem b0 : b01 0 := Or.inl rfl
theorem b1 : b01 1 := Or.inr rfl
theorem b01_nar {x : Int32} (h : b01 x) : narrow .boolean (.int x) = .int x := by rcases h with rfl | rfl <;> rfl
theorem b01_fit {x : Int32} (h : b01 x) : fits .boolean (.int x) = true := by rcases h with rfl | rfl <;> rfl
section SAFE
variable {P : am_P} {T : Nat → Nat → Option am_I} {mt : Nat → am_M} {L : Nat} {xs : Nat → Int32} {mi pc : Nat} {lv : am_L} {st st' : List Value} {h h' : am_H} {Q : Option Value → am_H → Prop} {ins : Jvm.ClassFile.Instr} {len a1 a2 : Nat} {v : Value} {sw : List (Int32 × Nat)} {lm : Option (List Nat)}
theorem wpH (e : h = h') (k : am_wp P T mt L xs mi pc lv st h' Q) : am_wp P T mt L xs mi pc lv st h Q := e ▸ k
theorem wpV {lv' : am_L} (e : lv = lv') (k : am_wp P T mt L xs mi pc lv' st h Q) : am_wp P T mt L xs mi pc lv st h Q := e ▸ k
theorem wpS (e : st = st') (k : am_wp P T mt L xs mi pc lv st' h Q) : am_wp P T mt L xs mi pc lv st h Q := e ▸ k
theorem wpTi {x : Int32} (k : ∀ y : Int32, x = y → am_wp P T mt L xs mi pc lv (.int y :: st) h Q) : am_wp P T mt L xs mi pc lv (.int x :: st) h Q := k x rfl
theorem wpTl {x : Int64} (k : ∀ y : Int64, x = y → am_wp P T mt L xs mi pc lv (.long y :: st) h Q) : am_wp P T mt L xs mi pc lv (.long x :: st) h Q := k x rfl
theorem wp5i {x : Int32} (hT : T mi pc = some (5, .ireturn, len, a1, a2, v, sw, lm)) (hr : (mt mi).2.2.2.1 = some .int) (q : Q (some (.int x)) h) : am_wp P T mt L xs mi pc lv [.int x] h Q := wp5 hT (by rw [hr]; simp [am_ret, narrow]) q
theorem wp5z {x : Int32} (hT : T mi pc = some (5, .ireturn, len, a1, a2, v, sw, lm)) (hr : (mt mi).2.2.2.1 = some .boolean) (hx : b01 x) (q : Q (some (.int x)) h) : am_wp P T mt L xs mi pc lv [.int x] h Q := wp5 hT (by rw [hr]; simp [am_ret, b01_nar hx]) q
theorem am_sw_in (d : Nat) (x : Int32) (tg : List Nat) : ∀ sw : List (Int32 × Nat), tg.contains d = true → sw.all (fun q => tg.contains q.2) = true → am_sw d x sw ∈ tg
  | [], h1, _ => by simpa [am_sw] using h1
  | q :: r, h1, h2 => by
    simp only [List.all_cons, Bool.and_eq_true] at h2
    unfold am_sw
    split
    · simpa using h2.1
    · exact am_sw_in d x tg r h1 h2.2
theorem i32_up {i b : Int32} {n : Nat} (h : ¬ b ≤ i) (hm : (b.toInt - i.toInt).toNat < n + 1) : (b.toInt - (i + 1).toInt).toNat < n := by
  have h1 : ¬ b.toInt ≤ i.toInt := fun z => h (Int32.le_iff_toInt_le.mpr z)
  have h2 := Int32.toInt_lt b
  have h3 := Int32.le_toInt i
  have e : (i + 1).toInt = i.toInt + 1 := by
    rw [Int32.toInt_add]
    have e1 : (1 : Int32).toInt = 1 := rfl
    rw [e1]
    exact Int.bmod_eq_of_le (by omega) (by omega)
  omega
theorem i32_upp {i b : Int32} (h : ¬ b ≤ i) (h0 : 0 ≤ i.toInt) : 0 ≤ (i + 1).toInt := by
  have h1 : ¬ b.toInt ≤ i.toInt := fun z => h (Int32.le_iff_toInt_le.mpr z)
  have h2 := Int32.toInt_lt b
  have e : (i + 1).toInt = i.toInt + 1 := by
    rw [Int32.toInt_add]
    have e1 : (1 : Int32).toInt = 1 := rfl
    rw [e1]
    exact Int.bmod_eq_of_le (by omega) (by omega)
  omega
theorem b01_nn {x : Int32} (h : b01 x) : 0 ≤ x.toInt := by rcases h with rfl | rfl <;> decide
theorem i32_down {i : Int32} {n : Nat} (h : ¬ i < 0) (hm : (i.toInt + 1).toNat < n + 1) : ((i + -1).toInt + 1).toNat < n := by
  have h1 : ¬ i.toInt < 0 := fun z => h (Int32.lt_iff_toInt_lt.mpr z)
  have h2 := Int32.toInt_lt i
  have e : (i + -1).toInt = i.toInt - 1 := by
    rw [Int32.toInt_add]
    have e1 : (-1 : Int32).toInt = -1 := rfl
    rw [e1]
    exact Int.bmod_eq_of_le (by omega) (by omega)
  omega
theorem i32_downe {i : Int32} {n : Nat} (h : ¬ i ≤ 0) (hm : (i.toInt + 1).toNat < n + 1) : ((i + -1).toInt + 1).toNat < n := i32_down (fun z => h (Int32.le_iff_toInt_le.mpr (by
  have := Int32.lt_iff_toInt_lt.mp z
  omega))) hm
/-- a switch: each of its targets -/
theorem wp2s {x : Int32} (tg : List Nat) (hT : T mi pc = some (2, ins, len, a1, a2, v, sw, lm)) (hp : am_jump ins a1 (pc + len) sw (.int x :: st) = some (am_sw a1 x sw, st)) (h1 : tg.contains a1 = true) (h2 : sw.all (fun q => tg.contains q.2) = true) (k : ∀ q ∈ tg, am_wp P T mt L xs mi q (am_live lm lv) st h Q) : am_wp P T mt L xs mi pc lv (.int x :: st) h Q := wp2 hT hp (k _ (am_sw_in a1 x tg sw h1 h2))
end SAFE

/-! SAFETY of the class: what holds of its cells between instructions (J), and what a method that was called leaves (SV, SI, SZ, SJ) -/
abbrev pgT : Type := Int32 × Option Nat × (Nat → Int32)
def pgF : Nat → List pgT → am_H
  | _, [] => []
  | j, p :: r => .inr (11, [.int p.1, am_rf p.2.1, .ref (36 + 2 * j)]) :: .inl (1, 256, .inl p.2.2) :: pgF (j + 1) r
def HH (s : cs) (mc : am_H) (D : List pgT) : am_H := CH s (mc ++ pgF 0 D)
def okp (len : Nat) (o : Option Nat) : Prop := ∀ q, o = some q → ∃ j, j < len ∧ q = 35 + 2 * j
def cnt (T : Nat → Option Nat) : Nat → Nat
  | 0 => 0
  | n + 1 => cnt T n + (if T n = none then 0 else 1)
def b01 (x : Int32) : Prop := x = 0 ∨ x = 1
/-- the pages -/
def JP (fp : Nat → Option Nat) (fn : Option Nat) (mp : Nat → Option Nat) (mn : Option Nat) (ip : Nat → Option Nat) (en : Option Nat) (op : Nat → Option Nat) (on : Option Nat) (mc : am_H) (D : List pgT) : Prop := mc.length = 11 ∧ (∀ k, k < 1024 → okp D.length (fp k)) ∧ (∀ k, k < 1537 → okp D.length (mp k)) ∧ (∀ k, k < 256 → okp D.length (ip k)) ∧ (∀ k, k < 256 → okp D.length (op k)) ∧ okp D.length fn ∧ okp D.length mn ∧ okp D.length en ∧ okp D.length on ∧ (∀ (j : Nat) (p : pgT), D[j]? = some p → okp j p.2.1 ∧ (∃ k, k < 1537 ∧ p.1 = nI k) ∧ ∀ i, fits .byte (.int (p.2.2 i)) = true) ∧ D.length = cnt fp 1024 + cnt mp 1537 + cnt ip 256 + cnt op 256
def J (s : cs) (mc : am_H) (D : List pgT) : Prop := b01 (g_ended s) ∧ b01 (g_carry s) ∧ b01 (g_parity s) ∧ b01 (g_zero s) ∧ b01 (g_sign s) ∧ b01 (g_over s) ∧ (∀ i, i < 3 → am_in (g_hregs s i) 16 = true) ∧ JP (g_fpages s) (g_fnew s) (g_mpages s) (g_mnew s) (g_ipages s) (g_inew s) (g_opages s) (g_onew s) mc D
theorem J_ended {s : cs} {mc : am_H} {D : List pgT} {v : Int32} (h : J s mc D) (hv : b01 v) : J (s_ended s v) mc D := ⟨hv, h.2⟩
theorem J_carry {s : cs} {mc : am_H} {D : List pgT} {v : Int32} (h : J s mc D) (hv : b01 v) : J (s_carry s v) mc D := ⟨h.1, hv, h.2.2⟩
theorem J_parity {s : cs} {mc : am_H} {D : List pgT} {v : Int32} (h : J s mc D) (hv : b01 v) : J (s_parity s v) mc D := ⟨h.1, h.2.1, hv, h.2.2.2⟩
theorem J_zero {s : cs} {mc : am_H} {D : List pgT} {v : Int32} (h : J s mc D) (hv : b01 v) : J (s_zero s v) mc D := ⟨h.1, h.2.1, h.2.2.1, hv, h.2.2.2.2⟩
theorem J_sign {s : cs} {mc : am_H} {D : List pgT} {v : Int32} (h : J s mc D) (hv : b01 v) : J (s_sign s v) mc D := ⟨h.1, h.2.1, h.2.2.1, h.2.2.2.1, hv, h.2.2.2.2.2⟩
theorem J_over {s : cs} {mc : am_H} {D : List pgT} {v : Int32} (h : J s mc D) (hv : b01 v) : J (s_over s v) mc D := ⟨h.1, h.2.1, h.2.2.1, h.2.2.2.1, h.2.2.2.2.1, hv, h.2.2.2.2.2.2⟩
theorem J_hregs {s : cs} {mc : am_H} {D : List pgT} {k v : Int32} (h : J s mc D) (hv : am_in v 16 = true) : J (s_hregs s (upd (g_hregs s) k.toNatClampNeg v)) mc D := ⟨h.1, h.2.1, h.2.2.1, h.2.2.2.1, h.2.2.2.2.1, h.2.2.2.2.2.1, fun i hi => by
  show am_in (upd (g_hregs s) k.toNatClampNeg v i) 16 = true
  unfold upd
  split
  · exact hv
  · exact h.2.2.2.2.2.2.1 i hi, h.2.2.2.2.2.2.2⟩
theorem am_in_lt {j : Int32} {n : Nat} (h : am_in j n = true) : j.toNatClampNeg < n := by
  simp only [am_in, Bool.and_eq_true, decide_eq_true_eq] at h
  exact h.2
theorem J_hreg {s : cs} {mc : am_H} {D : List pgT} {k : Int32} (h : J s mc D) (hk : am_in k 3 = true) : am_in (g_hregs s k.toNatClampNeg) 16 = true := h.2.2.2.2.2.2.1 _ (am_in_lt hk)
theorem am_in_of {j : Int32} {n : Nat} (h1 : 0 ≤ j.toInt) (h2 : j.toInt < n) : am_in j n = true := by
  have e : ¬ j < 0 := fun z => by
    have := Int32.lt_iff_toInt_lt.mp z
    have e0 : (0 : Int32).toInt = 0 := rfl
    omega
  have e2 : j.toNatClampNeg < n := by
    show j.toInt.toNat < n
    omega
  simp [am_in, e, e2]
def SV (mc : am_H) (v : Option Value) (h : am_H) : Prop := ∃ (s : cs) (D : List pgT), J s mc D ∧ h = HH s mc D ∧ v = none
def SI (mc : am_H) (v : Option Value) (h : am_H) : Prop := ∃ (s : cs) (D : List pgT), J s mc D ∧ h = HH s mc D ∧ ∃ x : Int32, v = some (.int x)
def SZ (mc : am_H) (v : Option Value) (h : am_H) : Prop := ∃ (s : cs) (D : List pgT), J s mc D ∧ h = HH s mc D ∧ ∃ x : Int32, v = some (.int x) ∧ b01 x
def SJ (mc : am_H) (v : Option Value) (h : am_H) : Prop := ∃ (s : cs) (D : List pgT), J s mc D ∧ h = HH s mc D ∧ ∃ x : Int64, v = some (.long x)
theorem b0 : b01 0 := Or.inl rfl
theorem b1 : b01 1 := Or.inr rfl
theorem b01_nar {x : Int32} (h : b01 x) : narrow .boolean (.int x) = .int x := by rcases h with rfl | rfl <;> rfl
theorem b01_fit {x : Int32} (h : b01 x) : fits .boolean (.int x) = true := by rcases h with rfl | rfl <;> rfl
section SAFE
variable {P : am_P} {T : Nat → Nat → Option am_I} {mt : Nat → am_M} {L : Nat} {xs : Nat → Int32} {mi pc : Nat} {lv : am_L} {st st' : List Value} {h h' : am_H} {Q : Option Value → am_H → Prop} {ins : Jvm.ClassFile.Instr} {len a1 a2 : Nat} {v : Value} {sw : List (Int32 × Nat)} {lm : Option (List Nat)}
theorem wpH (e : h = h') (k : am_wp P T mt L xs mi pc lv st h' Q) : am_wp P T mt L xs mi pc lv st h Q := e ▸ k
theorem wp5i {x : Int32} (hT : T mi pc = some (5, .ireturn, len, a1, a2, v, sw, lm)) (hr : (mt mi).2.2.2.1 = some .int) (q : Q (some (.int x)) h) : am_wp P T mt L xs mi pc lv [.int x] h Q := wp5 hT (by rw [hr]; simp [am_ret, narrow]) q
theorem wp5z {x : Int32} (hT : T mi pc = some (5, .ireturn, len, a1, a2, v, sw, lm)) (hr : (mt mi).2.2.2.1 = some .boolean) (hx : b01 x) (q : Q (some (.int x)) h) : am_wp P T mt L xs mi pc lv [.int x] h Q := wp5 hT (by rw [hr]; simp [am_ret, b01_nar hx]) q
theorem am_sw_in (d : Nat) (x : Int32) (tg : List Nat) : ∀ sw : List (Int32 × Nat), tg.contains d = true → sw.all (fun q => tg.contains q.2) = true → am_sw d x sw ∈ tg
  | [], h1, _ => by simpa [am_sw] using h1
  | q :: r, h1, h2 => by
    simp only [List.all_cons, Bool.and_eq_true] at h2
    unfold am_sw
    split
    · simpa using h2.1
    · exact am_sw_in d x tg r h1 h2.2
/-- a switch: each of its targets -/
theorem wp2s {x : Int32} (tg : List Nat) (hT : T mi pc = some (2, ins, len, a1, a2, v, sw, lm)) (hp : am_jump ins a1 (pc + len) sw (.int x :: st) = some (am_sw a1 x sw, st)) (h1 : tg.contains a1 = true) (h2 : sw.all (fun q => tg.contains q.2) = true) (k : ∀ q ∈ tg, am_wp P T mt L xs mi q (am_live lm lv) st h Q) : am_wp P T mt L xs mi pc lv (.int x :: st) h Q := wp2 hT hp (k _ (am_sw_in a1 x tg sw h1 h2))
end SAFE

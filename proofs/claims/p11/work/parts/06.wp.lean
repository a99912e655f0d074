/-! RUNS, said of the function alone: am_ev (a method's answer), am_wp (from a place on) -/
section AMP
variable (P : am_P) (T : Nat → Nat → Option am_I) (mt : Nat → am_M) (L : Nat) (xs : Nat → Int32)
/-- from here on the run ends, with Q -/
def am_wp (mi pc : Nat) (lv : am_L) (st : List Value) (h : am_H) (Q : Option Value → am_H → Prop) : Prop := ∃ (v : Option Value) (h' : am_H), Q v h' ∧ ∃ N, ∀ n, N ≤ n → am_run P T mt L xs n mi pc lv st h = some (v, h')
/-- the method mi, with these arguments, answers v and leaves h' -/
def am_ev (mi : Nat) (as : List Value) (h : am_H) (v : Option Value) (h' : am_H) : Prop := ∃ N, ∀ n, N ≤ n → am_run P T mt L xs n mi 0 (lv_args 0 as) [] h = some (v, h')
end AMP
section AMQ
variable {P : am_P} {T : Nat → Nat → Option am_I} {mt : Nat → am_M} {L : Nat} {xs : Nat → Int32}
variable {mi pc : Nat} {lv : am_L} {st st' : List Value} {h : am_H} {Q : Option Value → am_H → Prop} {ins : Jvm.ClassFile.Instr} {len a1 a2 : Nat} {v : Value} {sw : List (Int32 × Nat)} {lm : Option (List Nat)}
theorem am_wp_step {mi2 pc2 : Nat} {lv2 : am_L} {st2 : List Value} {h2 : am_H} (hs : ∀ n, am_run P T mt L xs (n + 1) mi pc lv st h = am_run P T mt L xs n mi2 pc2 lv2 st2 h2) (k : am_wp P T mt L xs mi2 pc2 lv2 st2 h2 Q) : am_wp P T mt L xs mi pc lv st h Q := by
  obtain ⟨v, h', q, N, hN⟩ := k
  refine ⟨v, h', q, N + 1, fun n hn => ?_⟩
  obtain ⟨n', rfl⟩ : ∃ n', n = n' + 1 := ⟨n - 1, by omega⟩
  rw [hs]
  exact hN n' (by omega)
theorem am_wp_ev {as : List Value} {v : Option Value} {h' : am_H} (k : am_wp P T mt L xs mi 0 (lv_args 0 as) [] h (fun v1 h1 => v1 = v ∧ h1 = h')) : am_ev P T mt L xs mi as h v h' := by
  obtain ⟨v1, h1, ⟨rfl, rfl⟩, N, hN⟩ := k
  exact ⟨N, hN⟩
theorem am_wp_mono {Q' : Option Value → am_H → Prop} (k : am_wp P T mt L xs mi pc lv st h Q) (hq : ∀ v h, Q v h → Q' v h) : am_wp P T mt L xs mi pc lv st h Q' := by
  obtain ⟨v1, h1, q, N, hN⟩ := k
  exact ⟨v1, h1, hq _ _ q, N, hN⟩
/-- a value from the stack -/
theorem wp0 (hT : T mi pc = some (0, ins, len, a1, a2, v, sw, lm)) (hp : am_pure ins v st = some st') (k : am_wp P T mt L xs mi (pc + len) (am_live lm lv) st' h Q) : am_wp P T mt L xs mi pc lv st h Q :=
  am_wp_step (fun n => by simp only [am_run, hT, hp]) k
/-- locals -/
theorem wp1 {lv' : am_L} (hT : T mi pc = some (1, ins, len, a1, a2, v, sw, lm)) (hp : am_loc ins v (mt mi).2.2.1 (am_live lm lv) st = some (lv', st')) (k : am_wp P T mt L xs mi (pc + len) lv' st' h Q) : am_wp P T mt L xs mi pc lv st h Q :=
  am_wp_step (fun n => by simp only [am_run, hT, hp]) k
/-- jumps -/
theorem wp2 {pc' : Nat} (hT : T mi pc = some (2, ins, len, a1, a2, v, sw, lm)) (hp : am_jump ins a1 (pc + len) sw st = some (pc', st')) (k : am_wp P T mt L xs mi pc' (am_live lm lv) st' h Q) : am_wp P T mt L xs mi pc lv st h Q :=
  am_wp_step (fun n => by simp only [am_run, hT, hp]) k
/-- a branch: both ways -/
theorem wp2b {c : Prop} [Decidable c] {t1 t2 : Nat} (hT : T mi pc = some (2, ins, len, a1, a2, v, sw, lm)) (hp : am_jump ins a1 (pc + len) sw st = some (if c then t1 else t2, st')) (k1 : c → am_wp P T mt L xs mi t1 (am_live lm lv) st' h Q) (k2 : ¬ c → am_wp P T mt L xs mi t2 (am_live lm lv) st' h Q) : am_wp P T mt L xs mi pc lv st h Q := by
  refine wp2 hT hp ?_
  by_cases hc : c
  · rw [if_pos hc]; exact k1 hc
  · rw [if_neg hc]; exact k2 hc
/-- the heap -/
theorem wp3 {h' : am_H} (hT : T mi pc = some (3, ins, len, a1, a2, v, sw, lm)) (hp : am_heap P L xs ins a1 a2 st h = some (st', h')) (k : am_wp P T mt L xs mi (pc + len) (am_live lm lv) st' h' Q) : am_wp P T mt L xs mi pc lv st h Q :=
  am_wp_step (fun n => by simp only [am_run, hT, hp]) k
theorem am_ev_at {as rest : List Value} {rv : Option Value} {h1 : am_H} (hT : T mi pc = some (4, ins, len, a1, a2, v, sw, lm)) (hp : am_call ins (mt a1).2.2.2.2.2 (mt a1).2.2.1 a2 st h = some (as, rest)) (hc : am_ev P T mt L xs a1 as h rv h1) (k : am_wp P T mt L xs mi (pc + len) (am_live lm lv) (rv.toList ++ rest) h1 Q) : am_wp P T mt L xs mi pc lv st h Q := by
  obtain ⟨v2, h2, q, N, hN⟩ := k
  obtain ⟨N1, hN1⟩ := hc
  refine ⟨v2, h2, q, N + N1 + 1, fun n hn => ?_⟩
  obtain ⟨n', rfl⟩ : ∃ n', n = n' + 1 := ⟨n - 1, by omega⟩
  simp only [am_run, hT, hp, hN1 n' (by omega)]
  exact hN n' (by omega)
/-- a call whose callee has such an answer -/
theorem wp4 {as rest : List Value} {Qc : Option Value → am_H → Prop} (hT : T mi pc = some (4, ins, len, a1, a2, v, sw, lm)) (hp : am_call ins (mt a1).2.2.2.2.2 (mt a1).2.2.1 a2 st h = some (as, rest)) (hc : am_wp P T mt L xs a1 0 (lv_args 0 as) [] h Qc) (k : ∀ rv h1, Qc rv h1 → am_wp P T mt L xs mi (pc + len) (am_live lm lv) (rv.toList ++ rest) h1 Q) : am_wp P T mt L xs mi pc lv st h Q := by
  obtain ⟨rv, h1, q, hN⟩ := hc
  exact am_ev_at hT hp hN (k rv h1 q)
/-- the end -/
theorem wp5 {rv : Option Value} (hT : T mi pc = some (5, ins, len, a1, a2, v, sw, lm)) (hp : am_ret ins (mt mi).2.2.2.1 st = some rv) (q : Q rv h) : am_wp P T mt L xs mi pc lv st h Q := by
  refine ⟨rv, h, q, 1, fun n hn => ?_⟩
  obtain ⟨n', rfl⟩ : ∃ n', n = n' + 1 := ⟨n - 1, by omega⟩
  simp only [am_run, hT, hp]
/-- where the table names what lives, no more is looked at -/
theorem am_live_live (lm : Option (List Nat)) (lv : am_L) : am_live lm (am_live lm lv) = am_live lm lv := by
  cases lm with
  | none => rfl
  | some m => simp [am_live, List.filter_filter]
theorem am_run_live {en : am_I} (hT : T mi pc = some en) (n : Nat) : am_run P T mt L xs n mi pc (am_live en.2.2.2.2.2.2.2 lv) st h = am_run P T mt L xs n mi pc lv st h := by
  obtain ⟨k, ins, len, a1, a2, v, sw, lm⟩ := en
  cases n with
  | zero => rfl
  | succ n => simp only [am_run, hT, am_live_live]
theorem wpL {en : am_I} {lv' : am_L} (hT : T mi pc = some en) (hl : am_live en.2.2.2.2.2.2.2 lv = lv') (k : am_wp P T mt L xs mi pc lv' st h Q) : am_wp P T mt L xs mi pc lv st h Q := by
  subst hl
  obtain ⟨v1, h1, q, N, hN⟩ := k
  exact ⟨v1, h1, q, N, fun n hn => by rw [← am_run_live hT]; exact hN n hn⟩
/-- heap rows with what they need of the heap -/
theorem am_getf {P : am_P} {i0 i ci k : Nat} {fs : List Value} {v : Value} (hg : am_get h i = some (.inr (ci, fs))) (hv : fs[k]? = some v) : am_heap P L xs (.getfield i0) ci k (.ref i :: st) h = some (v :: st, h) := by
  simp only [am_heap, hg, if_true, hv]
theorem am_putf {P : am_P} {i0 i ci k : Nat} {fs : List Value} {v : Value} (hg : am_get h i = some (.inr (ci, fs))) (hl : k < fs.length) (hn : narrow (P.1 ci k) v = v) (hf : fits (P.1 ci k) v = true) : am_heap P L xs (.putfield i0) ci k (v :: .ref i :: st) h = some (st, am_set h i (.inr (ci, fs.set k v))) := by
  simp only [am_heap, hg]
  rw [if_pos ⟨trivial, hl, hn, hf⟩]
theorem am_iald {i a1 a2 n : Nat} {f : Nat → Int32} {j : Int32} (hg : am_get h i = some (.inl (0, n, .inl f))) (hj : am_in j n = true) : am_heap P L xs .iaload a1 a2 (.int j :: .ref i :: st) h = some (.int (f j.toNatClampNeg) :: st, h) := by
  cases i with
  | zero => simp [am_get] at hg
  | succ i => simp [am_heap, hg, hj]
theorem am_sald {a1 a2 : Nat} {j : Int32} (hj : am_in j L = true) : am_heap P L xs .iaload a1 a2 (.int j :: .ref 0 :: st) h = some (.int (xs j.toNatClampNeg) :: st, h) := by
  simp [am_heap, hj]
theorem am_bald {i a1 a2 n : Nat} {f : Nat → Int32} {j : Int32} (hg : am_get h i = some (.inl (a1, n, .inl f))) (hj : am_in j n = true) : am_heap P L xs .baload a1 a2 (.int j :: .ref i :: st) h = some (.int (f j.toNatClampNeg) :: st, h) := by
  simp [am_heap, hg, hj]
theorem am_lald {i a1 a2 n : Nat} {f : Nat → Int64} {j : Int32} (hg : am_get h i = some (.inl (3, n, .inr (.inl f)))) (hj : am_in j n = true) : am_heap P L xs .laload a1 a2 (.int j :: .ref i :: st) h = some (.long (f j.toNatClampNeg) :: st, h) := by
  simp [am_heap, hg, hj]
theorem am_aald {i a1 a2 n : Nat} {f : Nat → Option Nat} {j : Int32} (hg : am_get h i = some (.inl (a1 + 4, n, .inr (.inr f)))) (hj : am_in j n = true) : am_heap P L xs .aaload a1 a2 (.int j :: .ref i :: st) h = some (am_rf (f j.toNatClampNeg) :: st, h) := by
  simp [am_heap, hg, hj]
theorem am_iast {i a1 a2 n : Nat} {f : Nat → Int32} {j x : Int32} (hg : am_get h i = some (.inl (0, n, .inl f))) (hj : am_in j n = true) : am_heap P L xs .iastore a1 a2 (.int x :: .int j :: .ref i :: st) h = some (st, am_set h i (.inl (0, n, .inl (upd f j.toNatClampNeg x)))) := by
  simp [am_heap, hg, hj]
theorem am_bast {i a2 n : Nat} {f : Nat → Int32} {j x : Int32} (hg : am_get h i = some (.inl (1, n, .inl f))) (hj : am_in j n = true) : am_heap P L xs .bastore 1 a2 (.int x :: .int j :: .ref i :: st) h = some (st, am_set h i (.inl (1, n, .inl (upd f j.toNatClampNeg (vp_nar .byte x))))) := by
  simp [am_heap, hg, hj]
theorem am_zast {i a2 n : Nat} {f : Nat → Int32} {j x : Int32} (hg : am_get h i = some (.inl (2, n, .inl f))) (hj : am_in j n = true) : am_heap P L xs .bastore 2 a2 (.int x :: .int j :: .ref i :: st) h = some (st, am_set h i (.inl (2, n, .inl (upd f j.toNatClampNeg (vp_nar .boolean x))))) := by
  simp [am_heap, hg, hj]
theorem am_last {i a1 a2 n : Nat} {f : Nat → Int64} {j : Int32} {x : Int64} (hg : am_get h i = some (.inl (3, n, .inr (.inl f)))) (hj : am_in j n = true) : am_heap P L xs .lastore a1 a2 (.long x :: .int j :: .ref i :: st) h = some (st, am_set h i (.inl (3, n, .inr (.inl (vp_updL f j.toNatClampNeg x))))) := by
  simp [am_heap, hg, hj]
theorem am_aast {i w ci a2 n : Nat} {f : Nat → Option Nat} {j : Int32} {fs : List Value} (hg : am_get h i = some (.inl (ci + 4, n, .inr (.inr f)))) (hw : am_get h w = some (.inr (ci, fs))) (hj : am_in j n = true) : am_heap P L xs .aastore ci a2 (.ref w :: .int j :: .ref i :: st) h = some (st, am_set h i (.inl (ci + 4, n, .inr (.inr (va_up f j.toNatClampNeg (some w)))))) := by
  simp [am_heap, hg, hw, hj]
theorem am_alen {i a1 a2 n : Nat} {f : (Nat → Int32) ⊕ ((Nat → Int64) ⊕ (Nat → Option Nat))} (hg : am_get h i = some (.inl (a1, n, f))) : am_heap P L xs .arraylength a1 a2 (.ref i :: st) h = some (.int (Int32.ofNat n) :: st, h) := by
  cases i with
  | zero => simp [am_get] at hg
  | succ i => simp [am_heap, hg]
theorem am_acpy {i0 sr d a2 n0 n1 : Nat} {f g : Nat → Int32} {sp dp n : Int32} (hg : am_get h sr = some (.inl (1, n0, .inl f))) (hg2 : am_get h d = some (.inl (1, n1, .inl g))) (h1 : ¬ sp < 0) (h2 : ¬ dp < 0) (h3 : ¬ n < 0) (h4 : sp.toNatClampNeg + n.toNatClampNeg ≤ n0) (h5 : dp.toNatClampNeg + n.toNatClampNeg ≤ n1) (h6 : (st.map fun v => v.category).sum ≤ 8) (h7 : ∀ i, i < n.toNatClampNeg → fits .byte (.int (f (sp.toNatClampNeg + i))) = true) : am_heap P L xs (.invokestatic i0) 0 a2 (.int n :: .int dp :: .ref d :: .int sp :: .ref sr :: st) h = some (st, am_set h d (.inl (1, n1, .inl (va_cpy f g sp.toNatClampNeg dp.toNatClampNeg n.toNatClampNeg)))) := by
  have e0 : ¬ (0 : Nat) = 1 := by decide
  have e1 : ¬ (0 : Nat) = 2 := by decide
  simp only [am_heap, if_neg e0, if_neg e1, hg, hg2]
  rw [if_pos ⟨trivial, trivial, h1, h2, h3, h4, h5, h6, h7⟩]
theorem am_mmax {i0 a2 : Nat} {x y : Int32} (h6 : (st.map fun v => v.category).sum ≤ 8) : am_heap P L xs (.invokestatic i0) 1 a2 (.int y :: .int x :: st) h = some (.int (if x < y then y else x) :: st, h) := by
  simp only [am_heap, if_true, if_pos h6]
theorem am_mmin {i0 a2 : Nat} {x y : Int32} (h6 : (st.map fun v => v.category).sum ≤ 8) : am_heap P L xs (.invokestatic i0) 2 a2 (.int y :: .int x :: st) h = some (.int (if y < x then y else x) :: st, h) := by
  have e0 : ¬ (2 : Nat) = 1 := by decide
  simp only [am_heap, if_neg e0, if_true, if_pos h6]
end AMQ

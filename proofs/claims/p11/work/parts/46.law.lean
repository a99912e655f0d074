/-! the law: a script of calls, one after another -/
def QL (v : Option Value) (h : am_H) : Prop := v = some (.int 1) ∧ h.length ≤ tb_cells ∧ am_sl h ≤ tb_slots
theorem J_mc {s : cs} {m m' : ms} {D : List pgT} (h : J s (MC m) D) : J s (MC m') D := h
theorem cnt_none : ∀ n, cnt (fun _ => none) n = 0
  | 0 => rfl
  | n + 1 => by simp [cnt, cnt_none n]
theorem J_new (m : ms) : J s_new (MC m) [] := by
  refine ⟨b0, b0, b0, b0, b0, b0, fun _ _ => (by decide : am_in 0 16 = true), ?_, ?_, ?_, ?_⟩
  · intro i k hi hk q hq
    have e : sT s_new i k = none := by
      match i with
      | 0 => rfl
      | 1 => rfl
      | 2 => rfl
      | n + 3 => rfl
    rw [e] at hq
    cases hq
  · intro i hi q hq
    have e : sW s_new i = none := by
      match i with
      | 0 => rfl
      | 1 => rfl
      | 2 => rfl
      | n + 3 => rfl
    rw [e] at hq
    cases hq
  · intro j p hp
    simp at hp
  · have e0 : sT s_new 0 = fun _ => none := rfl
    have e1 : sT s_new 1 = fun _ => none := rfl
    have e2 : sT s_new 2 = fun _ => none := rfl
    have e3 : sT s_new 3 = fun _ => none := rfl
    rw [e0, e1, e2, e3]
    simp only [cnt_none]
    rfl
theorem pgF_len (b : Nat) : ∀ (D : List pgT) (j : Nat), (pgF b j D).length = 2 * D.length
  | [], _ => rfl
  | p :: r, j => by
    simp only [pgF, List.length_cons, pgF_len b r (j + 1)]
    omega
theorem pgF_sl (b : Nat) : ∀ (D : List pgT) (j : Nat), am_sl (pgF b j D) = 259 * D.length
  | [], _ => rfl
  | p :: r, j => by
    simp only [pgF, am_sl, am_cs, List.length_cons, List.length_nil, pgF_sl b r (j + 1)]
    omega
theorem lw_room {s : cs} {m : ms} {D : List pgT} (hJ : J s (MC m) D) : (HH s (MC m) D).length ≤ tb_cells ∧ am_sl (HH s (MC m) D) ≤ tb_slots := by
  have h0 : D.length = cnt (sT s 0) 1024 + cnt (sT s 1) 1537 + cnt (sT s 2) 256 + cnt (sT s 3) 256 := hJ.2.2.2.2.2.2.2.2.2.2
  have hd : D.length ≤ 1024 + 1537 + 256 + 256 := Nat.le_trans (Nat.le_of_eq h0) (Nat.add_le_add (Nat.add_le_add (Nat.add_le_add (cnt_le (sT s 0) 1024) (cnt_le (sT s 1) 1537)) (cnt_le (sT s 2) 256)) (cnt_le (sT s 3) 256))
  have e1 := pgF_len 11 D 0
  have e2 := pgF_sl 11 D 0
  have e3 : HH s (MC m) D = CH s (MC m ++ pgF 11 0 D) := rfl
  rw [e3]
  clear h0 e3 hJ
  generalize pgF 11 0 D = t at e1 e2
  generalize D.length = d at e1 e2 hd
  constructor
  · refine Nat.le_trans (m := 500000) ?_ (by decide)
    simp only [CH, MC, List.length_cons, List.cons_append, List.nil_append]
    omega
  · refine Nat.le_trans (m := 7000000) ?_ (by decide)
    simp only [CH, MC, List.length_cons, List.length_nil, List.cons_append, List.nil_append, am_sl, am_cs]
    rw [e2]
    simp only [← Nat.add_assoc, Nat.zero_add, Nat.reduceAdd]
    omega
theorem lw_k {L : Nat} {i k : Int32} (hL : L ≤ 3584) (hi : 0 ≤ i.toInt) (hb : i.toInt + 7 ≤ L) (h0 : 0 ≤ k.toInt) (h1 : k.toInt ≤ 7) : (i + k).toInt = i.toInt + k.toInt := by
  rw [Int32.toInt_add]
  exact Int.bmod_eq_of_le (by omega) (by omega)
theorem lw_in {L : Nat} {i : Int32} (hL : L ≤ 3584) (hi : 0 ≤ i.toInt) (hb : i.toInt + 7 ≤ L) (k : Int32) (h0 : 0 ≤ k.toInt) (h1 : k.toInt ≤ 6) : am_in (i + k) L = true := by
  have e := lw_k hL hi hb h0 (by omega)
  exact am_in_of (by omega) (by omega)
theorem lw_in0 {L : Nat} {i : Int32} (hi : 0 ≤ i.toInt) (hb : i.toInt + 7 ≤ L) : am_in i L = true := am_in_of hi (by omega)
theorem lw_7 {L : Nat} {i : Int32} (hL : L ≤ 3584) (hi : 0 ≤ i.toInt) (hb : i.toInt + 7 ≤ L) : (i + 7).toInt = i.toInt + 7 := lw_k hL hi hb (by decide) (by decide)
theorem lw_bnd {L : Nat} {i : Int32} (hL : L ≤ 3584) (hi : 0 ≤ i.toInt) (c : ¬ Int32.ofNat L - 7 < i) : i.toInt + 7 ≤ L := by
  have e1 : (Int32.ofNat L).toInt = L := Int32.toInt_ofNat_of_lt (by omega)
  have e2 : (Int32.ofNat L - 7).toInt = L - 7 := by
    rw [Int32.toInt_sub, e1]
    exact Int.bmod_eq_of_le (by show -((2 : Int) ^ 32 / 2) ≤ (L : Int) - 7; omega) (by show (L : Int) - 7 < ((2 : Int) ^ 32 + 1) / 2; omega)
  have h : ¬ (Int32.ofNat L - 7).toInt < i.toInt := fun z => c (Int32.lt_iff_toInt_lt.mpr z)
  omega

section LAW
variable {L : Nat} {xs : Nat → Int32} {Q : Option Value → am_H → Prop}
set_option maxRecDepth 20000 in
theorem lw_104 {s : cs} {m : ms} {D : List pgT} (hL : L ≤ 3584) {i : Int32} (hi : 0 ≤ i.toInt) (hb : i.toInt + 7 ≤ L) (hk : ∀ {s : cs} {m : ms} {D : List pgT}, J s (MC m) D → K m → tb_wp L xs 0 750 [(0, .ref 0), (1, .ref 1), (2, .ref 24), (3, .int i)] [] (HH s (MC m) D) Q) (hJ : J s (MC m) D) (hK : K m) : tb_wp L xs 0 104 [(0, .ref 0), (1, .ref 1), (2, .ref 24), (3, .int i)] [] (HH s (MC m) D) Q := by
  refine wp1 rfl rfl ?_
  refine wp1 rfl rfl ?_
  refine wp1 rfl rfl ?_
  refine wp0 rfl rfl ?_
  refine wp0 rfl rfl ?_
  refine wp3 rfl (am_sald (lw_in hL hi hb 1 (by decide) (by decide))) ?_
  refine wp1 rfl rfl ?_
  refine wp1 rfl rfl ?_
  refine wp0 rfl rfl ?_
  refine wp0 rfl rfl ?_
  refine wp3 rfl (am_sald (lw_in hL hi hb 2 (by decide) (by decide))) ?_
  refine wp1 rfl rfl ?_
  refine wp1 rfl rfl ?_
  refine wp0 rfl rfl ?_
  refine wp0 rfl rfl ?_
  refine wp3 rfl (am_sald (lw_in hL hi hb 3 (by decide) (by decide))) ?_
  refine wp1 rfl rfl ?_
  refine wp1 rfl rfl ?_
  refine wp0 rfl rfl ?_
  refine wp0 rfl rfl ?_
  refine wp3 rfl (am_sald (lw_in hL hi hb 4 (by decide) (by decide))) ?_
  refine wp1 rfl rfl ?_
  refine wp1 rfl rfl ?_
  refine wp0 rfl rfl ?_
  refine wp0 rfl rfl ?_
  refine wp3 rfl (am_sald (lw_in hL hi hb 5 (by decide) (by decide))) ?_
  refine wp1 rfl rfl ?_
  refine wp1 rfl rfl ?_
  refine wp0 rfl rfl ?_
  refine wp0 rfl rfl ?_
  refine wp3 rfl (am_sald (lw_in hL hi hb 6 (by decide) (by decide))) ?_
  refine wp4 rfl rfl (sf_2 hJ _ _ _ _ _ _) (fun rv h1 hq => ?_)
  obtain ⟨s1, D1, hJ1, rfl, x1, rfl, hb1⟩ := hq
  refine wp0 rfl rfl ?_
  refine wp1 rfl rfl ?_
  refine wp1 rfl rfl ?_
  refine wp1 rfl rfl ?_
  refine wp0 rfl rfl ?_
  refine wp0 rfl rfl ?_
  refine wp3 rfl (am_sald (lw_in hL hi hb 1 (by decide) (by decide))) ?_
  refine wp1 rfl rfl ?_
  refine wp1 rfl rfl ?_
  refine wp0 rfl rfl ?_
  refine wp0 rfl rfl ?_
  refine wp3 rfl (am_sald (lw_in hL hi hb 2 (by decide) (by decide))) ?_
  refine wp1 rfl rfl ?_
  refine wp1 rfl rfl ?_
  refine wp0 rfl rfl ?_
  refine wp0 rfl rfl ?_
  refine wp3 rfl (am_sald (lw_in hL hi hb 3 (by decide) (by decide))) ?_
  refine wp1 rfl rfl ?_
  refine wp1 rfl rfl ?_
  refine wp0 rfl rfl ?_
  refine wp0 rfl rfl ?_
  refine wp3 rfl (am_sald (lw_in hL hi hb 4 (by decide) (by decide))) ?_
  refine wp1 rfl rfl ?_
  refine wp1 rfl rfl ?_
  refine wp0 rfl rfl ?_
  refine wp0 rfl rfl ?_
  refine wp3 rfl (am_sald (lw_in hL hi hb 5 (by decide) (by decide))) ?_
  refine wp1 rfl rfl ?_
  refine wp1 rfl rfl ?_
  refine wp0 rfl rfl ?_
  refine wp0 rfl rfl ?_
  refine wp3 rfl (am_sald (lw_in hL hi hb 6 (by decide) (by decide))) ?_
  refine wp4 rfl rfl (mx_begin hK _ _ _ _ _ _) (fun rv h1 hq => ?_)
  obtain ⟨m2, hK2, rfl, rfl⟩ := hq
  have hJ2 := J_mc (m' := m2) hJ1
  refine wp0 rfl rfl ?_
  refine wp2 rfl rfl ?_
  exact wpL rfl rfl (hk hJ2 hK2)
set_option maxRecDepth 20000 in
theorem lw_179 {s : cs} {m : ms} {D : List pgT} (hL : L ≤ 3584) {i : Int32} (hi : 0 ≤ i.toInt) (hb : i.toInt + 7 ≤ L) (hk : ∀ {s : cs} {m : ms} {D : List pgT}, J s (MC m) D → K m → tb_wp L xs 0 750 [(0, .ref 0), (1, .ref 1), (2, .ref 24), (3, .int i)] [] (HH s (MC m) D) Q) (hJ : J s (MC m) D) (hK : K m) : tb_wp L xs 0 179 [(0, .ref 0), (1, .ref 1), (2, .ref 24), (3, .int i)] [] (HH s (MC m) D) Q := by
  refine wp1 rfl rfl ?_
  refine wp1 rfl rfl ?_
  refine wp1 rfl rfl ?_
  refine wp0 rfl rfl ?_
  refine wp0 rfl rfl ?_
  refine wp3 rfl (am_sald (lw_in hL hi hb 1 (by decide) (by decide))) ?_
  refine wp1 rfl rfl ?_
  refine wp1 rfl rfl ?_
  refine wp0 rfl rfl ?_
  refine wp0 rfl rfl ?_
  refine wp3 rfl (am_sald (lw_in hL hi hb 2 (by decide) (by decide))) ?_
  refine wp0 rfl rfl ?_
  refine wp0 rfl rfl ?_
  refine wp0 rfl rfl ?_
  refine wp1 rfl rfl ?_
  refine wp1 rfl rfl ?_
  refine wp0 rfl rfl ?_
  refine wp0 rfl rfl ?_
  refine wp3 rfl (am_sald (lw_in hL hi hb 3 (by decide) (by decide))) ?_
  refine wp0 rfl rfl ?_
  refine wp0 rfl rfl ?_
  refine wp0 rfl rfl ?_
  refine wp0 rfl rfl ?_
  refine wp4 rfl rfl (sf_4 hJ _ _) (fun rv h1 hq => ?_)
  obtain ⟨s1, D1, hJ1, rfl, rfl⟩ := hq
  refine wp1 rfl rfl ?_
  refine wp1 rfl rfl ?_
  refine wp1 rfl rfl ?_
  refine wp0 rfl rfl ?_
  refine wp0 rfl rfl ?_
  refine wp3 rfl (am_sald (lw_in hL hi hb 1 (by decide) (by decide))) ?_
  refine wp1 rfl rfl ?_
  refine wp1 rfl rfl ?_
  refine wp0 rfl rfl ?_
  refine wp0 rfl rfl ?_
  refine wp3 rfl (am_sald (lw_in hL hi hb 2 (by decide) (by decide))) ?_
  refine wp0 rfl rfl ?_
  refine wp0 rfl rfl ?_
  refine wp0 rfl rfl ?_
  refine wp1 rfl rfl ?_
  refine wp1 rfl rfl ?_
  refine wp0 rfl rfl ?_
  refine wp0 rfl rfl ?_
  refine wp3 rfl (am_sald (lw_in hL hi hb 3 (by decide) (by decide))) ?_
  refine wp0 rfl rfl ?_
  refine wp0 rfl rfl ?_
  refine wp0 rfl rfl ?_
  refine wp0 rfl rfl ?_
  refine wp4 rfl rfl (mf_138 hK _ _) (fun rv h1 hq => ?_)
  obtain ⟨m2, hK2, hR2, rfl, rfl⟩ := hq
  have hJ2 := J_mc (m' := m2) hJ1
  refine wp2 rfl rfl ?_
  exact wpL rfl rfl (hk hJ2 hK2)
set_option maxRecDepth 20000 in
theorem lw_240 {s : cs} {m : ms} {D : List pgT} (hL : L ≤ 3584) {i : Int32} (hi : 0 ≤ i.toInt) (hb : i.toInt + 7 ≤ L) (hk : ∀ {s : cs} {m : ms} {D : List pgT}, J s (MC m) D → K m → tb_wp L xs 0 750 [(0, .ref 0), (1, .ref 1), (2, .ref 24), (3, .int i)] [] (HH s (MC m) D) Q) (hJ : J s (MC m) D) (hK : K m) : tb_wp L xs 0 240 [(0, .ref 0), (1, .ref 1), (2, .ref 24), (3, .int i)] [] (HH s (MC m) D) Q := by
  refine wp1 rfl rfl ?_
  refine wp1 rfl rfl ?_
  refine wp1 rfl rfl ?_
  refine wp0 rfl rfl ?_
  refine wp0 rfl rfl ?_
  refine wp3 rfl (am_sald (lw_in hL hi hb 1 (by decide) (by decide))) ?_
  refine wp1 rfl rfl ?_
  refine wp1 rfl rfl ?_
  refine wp0 rfl rfl ?_
  refine wp0 rfl rfl ?_
  refine wp3 rfl (am_sald (lw_in hL hi hb 2 (by decide) (by decide))) ?_
  refine wp1 rfl rfl ?_
  refine wp1 rfl rfl ?_
  refine wp0 rfl rfl ?_
  refine wp0 rfl rfl ?_
  refine wp3 rfl (am_sald (lw_in hL hi hb 3 (by decide) (by decide))) ?_
  refine wp4 rfl rfl (sf_10 hJ _ _ _) (fun rv h1 hq => ?_)
  obtain ⟨s1, D1, hJ1, rfl, rfl⟩ := hq
  refine wp1 rfl rfl ?_
  refine wp1 rfl rfl ?_
  refine wp1 rfl rfl ?_
  refine wp0 rfl rfl ?_
  refine wp0 rfl rfl ?_
  refine wp3 rfl (am_sald (lw_in hL hi hb 1 (by decide) (by decide))) ?_
  refine wp1 rfl rfl ?_
  refine wp1 rfl rfl ?_
  refine wp0 rfl rfl ?_
  refine wp0 rfl rfl ?_
  refine wp3 rfl (am_sald (lw_in hL hi hb 2 (by decide) (by decide))) ?_
  refine wp1 rfl rfl ?_
  refine wp1 rfl rfl ?_
  refine wp0 rfl rfl ?_
  refine wp0 rfl rfl ?_
  refine wp3 rfl (am_sald (lw_in hL hi hb 3 (by decide) (by decide))) ?_
  refine wp4 rfl rfl (mf_159 hK _ _ _) (fun rv h1 hq => ?_)
  obtain ⟨m2, hK2, hR2, rfl, rfl⟩ := hq
  have hJ2 := J_mc (m' := m2) hJ1
  refine wp2 rfl rfl ?_
  exact wpL rfl rfl (hk hJ2 hK2)
set_option maxRecDepth 20000 in
theorem lw_281 {s : cs} {m : ms} {D : List pgT} (hL : L ≤ 3584) {i : Int32} (hi : 0 ≤ i.toInt) (hb : i.toInt + 7 ≤ L) (hk : ∀ {s : cs} {m : ms} {D : List pgT}, J s (MC m) D → K m → tb_wp L xs 0 750 [(0, .ref 0), (1, .ref 1), (2, .ref 24), (3, .int i)] [] (HH s (MC m) D) Q) (hJ : J s (MC m) D) (hK : K m) : tb_wp L xs 0 281 [(0, .ref 0), (1, .ref 1), (2, .ref 24), (3, .int i)] [] (HH s (MC m) D) Q := by
  refine wp1 rfl rfl ?_
  refine wp1 rfl rfl ?_
  refine wp1 rfl rfl ?_
  refine wp0 rfl rfl ?_
  refine wp0 rfl rfl ?_
  refine wp3 rfl (am_sald (lw_in hL hi hb 1 (by decide) (by decide))) ?_
  refine wp1 rfl rfl ?_
  refine wp1 rfl rfl ?_
  refine wp0 rfl rfl ?_
  refine wp0 rfl rfl ?_
  refine wp3 rfl (am_sald (lw_in hL hi hb 2 (by decide) (by decide))) ?_
  refine wp1 rfl rfl ?_
  refine wp1 rfl rfl ?_
  refine wp0 rfl rfl ?_
  refine wp0 rfl rfl ?_
  refine wp3 rfl (am_sald (lw_in hL hi hb 3 (by decide) (by decide))) ?_
  refine wp4 rfl rfl (sf_11 hJ _ _ _) (fun rv h1 hq => ?_)
  obtain ⟨s1, D1, hJ1, rfl, x1, rfl, hb1⟩ := hq
  refine wp0 rfl rfl ?_
  refine wp1 rfl rfl ?_
  refine wp1 rfl rfl ?_
  refine wp1 rfl rfl ?_
  refine wp0 rfl rfl ?_
  refine wp0 rfl rfl ?_
  refine wp3 rfl (am_sald (lw_in hL hi hb 1 (by decide) (by decide))) ?_
  refine wp1 rfl rfl ?_
  refine wp1 rfl rfl ?_
  refine wp0 rfl rfl ?_
  refine wp0 rfl rfl ?_
  refine wp3 rfl (am_sald (lw_in hL hi hb 2 (by decide) (by decide))) ?_
  refine wp1 rfl rfl ?_
  refine wp1 rfl rfl ?_
  refine wp0 rfl rfl ?_
  refine wp0 rfl rfl ?_
  refine wp3 rfl (am_sald (lw_in hL hi hb 3 (by decide) (by decide))) ?_
  refine wp4 rfl rfl (mx_operand hK _ _ _) (fun rv h1 hq => ?_)
  obtain ⟨m2, hK2, rfl, rfl⟩ := hq
  have hJ2 := J_mc (m' := m2) hJ1
  refine wp0 rfl rfl ?_
  refine wp2 rfl rfl ?_
  exact wpL rfl rfl (hk hJ2 hK2)
set_option maxRecDepth 20000 in
theorem lw_324 {s : cs} {m : ms} {D : List pgT} (hL : L ≤ 3584) {i : Int32} (hi : 0 ≤ i.toInt) (hb : i.toInt + 7 ≤ L) (hk : ∀ {s : cs} {m : ms} {D : List pgT}, J s (MC m) D → K m → tb_wp L xs 0 750 [(0, .ref 0), (1, .ref 1), (2, .ref 24), (3, .int i)] [] (HH s (MC m) D) Q) (hJ : J s (MC m) D) (hK : K m) : tb_wp L xs 0 324 [(0, .ref 0), (1, .ref 1), (2, .ref 24), (3, .int i)] [] (HH s (MC m) D) Q := by
  refine wp1 rfl rfl ?_
  refine wp1 rfl rfl ?_
  refine wp1 rfl rfl ?_
  refine wp0 rfl rfl ?_
  refine wp0 rfl rfl ?_
  refine wp3 rfl (am_sald (lw_in hL hi hb 1 (by decide) (by decide))) ?_
  refine wp1 rfl rfl ?_
  refine wp1 rfl rfl ?_
  refine wp0 rfl rfl ?_
  refine wp0 rfl rfl ?_
  refine wp3 rfl (am_sald (lw_in hL hi hb 2 (by decide) (by decide))) ?_
  refine wp1 rfl rfl ?_
  refine wp1 rfl rfl ?_
  refine wp0 rfl rfl ?_
  refine wp0 rfl rfl ?_
  refine wp3 rfl (am_sald (lw_in hL hi hb 3 (by decide) (by decide))) ?_
  refine wp1 rfl rfl ?_
  refine wp1 rfl rfl ?_
  refine wp0 rfl rfl ?_
  refine wp0 rfl rfl ?_
  refine wp3 rfl (am_sald (lw_in hL hi hb 4 (by decide) (by decide))) ?_
  refine wp4 rfl rfl (sf_8 hJ _ _ _ _) (fun rv h1 hq => ?_)
  obtain ⟨s1, D1, hJ1, rfl, rfl⟩ := hq
  refine wp1 rfl rfl ?_
  refine wp1 rfl rfl ?_
  refine wp1 rfl rfl ?_
  refine wp0 rfl rfl ?_
  refine wp0 rfl rfl ?_
  refine wp3 rfl (am_sald (lw_in hL hi hb 1 (by decide) (by decide))) ?_
  refine wp1 rfl rfl ?_
  refine wp1 rfl rfl ?_
  refine wp0 rfl rfl ?_
  refine wp0 rfl rfl ?_
  refine wp3 rfl (am_sald (lw_in hL hi hb 2 (by decide) (by decide))) ?_
  refine wp1 rfl rfl ?_
  refine wp1 rfl rfl ?_
  refine wp0 rfl rfl ?_
  refine wp0 rfl rfl ?_
  refine wp3 rfl (am_sald (lw_in hL hi hb 3 (by decide) (by decide))) ?_
  refine wp1 rfl rfl ?_
  refine wp1 rfl rfl ?_
  refine wp0 rfl rfl ?_
  refine wp0 rfl rfl ?_
  refine wp3 rfl (am_sald (lw_in hL hi hb 4 (by decide) (by decide))) ?_
  refine wp4 rfl rfl (mf_154 hK _ _ _ _) (fun rv h1 hq => ?_)
  obtain ⟨m2, hK2, hR2, rfl, rfl⟩ := hq
  have hJ2 := J_mc (m' := m2) hJ1
  refine wp2 rfl rfl ?_
  exact wpL rfl rfl (hk hJ2 hK2)
set_option maxRecDepth 20000 in
theorem lw_375 {s : cs} {m : ms} {D : List pgT} (hL : L ≤ 3584) {i : Int32} (hi : 0 ≤ i.toInt) (hb : i.toInt + 7 ≤ L) (hk : ∀ {s : cs} {m : ms} {D : List pgT}, J s (MC m) D → K m → tb_wp L xs 0 750 [(0, .ref 0), (1, .ref 1), (2, .ref 24), (3, .int i)] [] (HH s (MC m) D) Q) (hJ : J s (MC m) D) (hK : K m) : tb_wp L xs 0 375 [(0, .ref 0), (1, .ref 1), (2, .ref 24), (3, .int i)] [] (HH s (MC m) D) Q := by
  refine wp1 rfl rfl ?_
  refine wp1 rfl rfl ?_
  refine wp1 rfl rfl ?_
  refine wp0 rfl rfl ?_
  refine wp0 rfl rfl ?_
  refine wp3 rfl (am_sald (lw_in hL hi hb 1 (by decide) (by decide))) ?_
  refine wp0 rfl rfl ?_
  refine wp0 rfl rfl ?_
  refine wp0 rfl rfl ?_
  refine wp1 rfl rfl ?_
  refine wp1 rfl rfl ?_
  refine wp0 rfl rfl ?_
  refine wp0 rfl rfl ?_
  refine wp3 rfl (am_sald (lw_in hL hi hb 2 (by decide) (by decide))) ?_
  refine wp0 rfl rfl ?_
  refine wp0 rfl rfl ?_
  refine wp0 rfl rfl ?_
  refine wp0 rfl rfl ?_
  refine wp4 rfl rfl (sf_9 hJ _) (fun rv h1 hq => ?_)
  obtain ⟨s1, D1, hJ1, rfl, rfl⟩ := hq
  refine wp1 rfl rfl ?_
  refine wp1 rfl rfl ?_
  refine wp1 rfl rfl ?_
  refine wp0 rfl rfl ?_
  refine wp0 rfl rfl ?_
  refine wp3 rfl (am_sald (lw_in hL hi hb 1 (by decide) (by decide))) ?_
  refine wp0 rfl rfl ?_
  refine wp0 rfl rfl ?_
  refine wp0 rfl rfl ?_
  refine wp1 rfl rfl ?_
  refine wp1 rfl rfl ?_
  refine wp0 rfl rfl ?_
  refine wp0 rfl rfl ?_
  refine wp3 rfl (am_sald (lw_in hL hi hb 2 (by decide) (by decide))) ?_
  refine wp0 rfl rfl ?_
  refine wp0 rfl rfl ?_
  refine wp0 rfl rfl ?_
  refine wp0 rfl rfl ?_
  refine wp4 rfl rfl (mf_158 hK _) (fun rv h1 hq => ?_)
  obtain ⟨m2, hK2, hR2, rfl, rfl⟩ := hq
  have hJ2 := J_mc (m' := m2) hJ1
  refine wp2 rfl rfl ?_
  exact wpL rfl rfl (hk hJ2 hK2)
set_option maxRecDepth 20000 in
theorem lw_426 {s : cs} {m : ms} {D : List pgT} (hL : L ≤ 3584) {i : Int32} (hi : 0 ≤ i.toInt) (hb : i.toInt + 7 ≤ L) (hk : ∀ {s : cs} {m : ms} {D : List pgT}, J s (MC m) D → K m → tb_wp L xs 0 750 [(0, .ref 0), (1, .ref 1), (2, .ref 24), (3, .int i)] [] (HH s (MC m) D) Q) (hJ : J s (MC m) D) (hK : K m) : tb_wp L xs 0 426 [(0, .ref 0), (1, .ref 1), (2, .ref 24), (3, .int i)] [] (HH s (MC m) D) Q := by
  refine wp1 rfl rfl ?_
  refine wp1 rfl rfl ?_
  refine wp1 rfl rfl ?_
  refine wp0 rfl rfl ?_
  refine wp0 rfl rfl ?_
  refine wp3 rfl (am_sald (lw_in hL hi hb 1 (by decide) (by decide))) ?_
  refine wp4 rfl rfl (sf_18 hJ _) (fun rv h1 hq => ?_)
  obtain ⟨s1, D1, hJ1, rfl, x1, rfl⟩ := hq
  refine wp0 rfl rfl ?_
  refine wp1 rfl rfl ?_
  refine wp1 rfl rfl ?_
  refine wp1 rfl rfl ?_
  refine wp0 rfl rfl ?_
  refine wp0 rfl rfl ?_
  refine wp3 rfl (am_sald (lw_in hL hi hb 1 (by decide) (by decide))) ?_
  refine wp4 rfl rfl (mf_182 hK _) (fun rv h1 hq => ?_)
  obtain ⟨m2, hK2, hR2, rfl, x2, rfl⟩ := hq
  have hJ2 := J_mc (m' := m2) hJ1
  refine wp0 rfl rfl ?_
  refine wp2 rfl rfl ?_
  exact wpL rfl rfl (hk hJ2 hK2)
set_option maxRecDepth 20000 in
theorem lw_449 {s : cs} {m : ms} {D : List pgT} (hL : L ≤ 3584) {i : Int32} (hi : 0 ≤ i.toInt) (hb : i.toInt + 7 ≤ L) (hk : ∀ {s : cs} {m : ms} {D : List pgT}, J s (MC m) D → K m → tb_wp L xs 0 750 [(0, .ref 0), (1, .ref 1), (2, .ref 24), (3, .int i)] [] (HH s (MC m) D) Q) (hJ : J s (MC m) D) (hK : K m) : tb_wp L xs 0 449 [(0, .ref 0), (1, .ref 1), (2, .ref 24), (3, .int i)] [] (HH s (MC m) D) Q := by
  refine wp1 rfl rfl ?_
  refine wp4 rfl rfl (sf_20 hJ ) (fun rv h1 hq => ?_)
  obtain ⟨s1, D1, hJ1, rfl, x1, rfl⟩ := hq
  refine wp0 rfl rfl ?_
  refine wp1 rfl rfl ?_
  refine wp4 rfl rfl (mf_190 hK ) (fun rv h1 hq => ?_)
  obtain ⟨m2, hK2, hR2, rfl, x2, rfl⟩ := hq
  have hJ2 := J_mc (m' := m2) hJ1
  refine wp0 rfl rfl ?_
  refine wp2 rfl rfl ?_
  exact wpL rfl rfl (hk hJ2 hK2)
set_option maxRecDepth 20000 in
theorem lw_462 {s : cs} {m : ms} {D : List pgT} (hL : L ≤ 3584) {i : Int32} (hi : 0 ≤ i.toInt) (hb : i.toInt + 7 ≤ L) (hk : ∀ {s : cs} {m : ms} {D : List pgT}, J s (MC m) D → K m → tb_wp L xs 0 750 [(0, .ref 0), (1, .ref 1), (2, .ref 24), (3, .int i)] [] (HH s (MC m) D) Q) (hJ : J s (MC m) D) (hK : K m) : tb_wp L xs 0 462 [(0, .ref 0), (1, .ref 1), (2, .ref 24), (3, .int i)] [] (HH s (MC m) D) Q := by
  refine wp1 rfl rfl ?_
  refine wp1 rfl rfl ?_
  refine wp1 rfl rfl ?_
  refine wp0 rfl rfl ?_
  refine wp0 rfl rfl ?_
  refine wp3 rfl (am_sald (lw_in hL hi hb 1 (by decide) (by decide))) ?_
  refine wp4 rfl rfl (sf_15 hJ _) (fun rv h1 hq => ?_)
  obtain ⟨s1, D1, hJ1, rfl, x1, rfl⟩ := hq
  refine wp0 rfl rfl ?_
  refine wp1 rfl rfl ?_
  refine wp1 rfl rfl ?_
  refine wp1 rfl rfl ?_
  refine wp0 rfl rfl ?_
  refine wp0 rfl rfl ?_
  refine wp3 rfl (am_sald (lw_in hL hi hb 1 (by decide) (by decide))) ?_
  refine wp4 rfl rfl (mf_170 hK _) (fun rv h1 hq => ?_)
  obtain ⟨m2, hK2, hR2, rfl, x2, rfl⟩ := hq
  have hJ2 := J_mc (m' := m2) hJ1
  refine wp0 rfl rfl ?_
  refine wp2 rfl rfl ?_
  exact wpL rfl rfl (hk hJ2 hK2)
set_option maxRecDepth 20000 in
theorem lw_485 {s : cs} {m : ms} {D : List pgT} (hL : L ≤ 3584) {i : Int32} (hi : 0 ≤ i.toInt) (hb : i.toInt + 7 ≤ L) (hk : ∀ {s : cs} {m : ms} {D : List pgT}, J s (MC m) D → K m → tb_wp L xs 0 750 [(0, .ref 0), (1, .ref 1), (2, .ref 24), (3, .int i)] [] (HH s (MC m) D) Q) (hJ : J s (MC m) D) (hK : K m) : tb_wp L xs 0 485 [(0, .ref 0), (1, .ref 1), (2, .ref 24), (3, .int i)] [] (HH s (MC m) D) Q := by
  refine wp1 rfl rfl ?_
  refine wp1 rfl rfl ?_
  refine wp1 rfl rfl ?_
  refine wp0 rfl rfl ?_
  refine wp0 rfl rfl ?_
  refine wp3 rfl (am_sald (lw_in hL hi hb 1 (by decide) (by decide))) ?_
  refine wp1 rfl rfl ?_
  refine wp1 rfl rfl ?_
  refine wp0 rfl rfl ?_
  refine wp0 rfl rfl ?_
  refine wp3 rfl (am_sald (lw_in hL hi hb 2 (by decide) (by decide))) ?_
  refine wp0 rfl rfl ?_
  refine wp0 rfl rfl ?_
  refine wp0 rfl rfl ?_
  refine wp1 rfl rfl ?_
  refine wp1 rfl rfl ?_
  refine wp0 rfl rfl ?_
  refine wp0 rfl rfl ?_
  refine wp3 rfl (am_sald (lw_in hL hi hb 3 (by decide) (by decide))) ?_
  refine wp0 rfl rfl ?_
  refine wp0 rfl rfl ?_
  refine wp0 rfl rfl ?_
  refine wp0 rfl rfl ?_
  refine wp4 rfl rfl (sx_set hJ _ _) (fun rv h1 hq => ?_)
  obtain ⟨s1, D1, hJ1, rfl, rfl⟩ := hq
  refine wp1 rfl rfl ?_
  refine wp1 rfl rfl ?_
  refine wp1 rfl rfl ?_
  refine wp0 rfl rfl ?_
  refine wp0 rfl rfl ?_
  refine wp3 rfl (am_sald (lw_in hL hi hb 1 (by decide) (by decide))) ?_
  refine wp1 rfl rfl ?_
  refine wp1 rfl rfl ?_
  refine wp0 rfl rfl ?_
  refine wp0 rfl rfl ?_
  refine wp3 rfl (am_sald (lw_in hL hi hb 2 (by decide) (by decide))) ?_
  refine wp0 rfl rfl ?_
  refine wp0 rfl rfl ?_
  refine wp0 rfl rfl ?_
  refine wp1 rfl rfl ?_
  refine wp1 rfl rfl ?_
  refine wp0 rfl rfl ?_
  refine wp0 rfl rfl ?_
  refine wp3 rfl (am_sald (lw_in hL hi hb 3 (by decide) (by decide))) ?_
  refine wp0 rfl rfl ?_
  refine wp0 rfl rfl ?_
  refine wp0 rfl rfl ?_
  refine wp0 rfl rfl ?_
  refine wp4 rfl rfl (mx_set hK _ _) (fun rv h1 hq => ?_)
  obtain ⟨m2, hK2, rfl, rfl⟩ := hq
  have hJ2 := J_mc (m' := m2) hJ1
  refine wp2b rfl rfl (fun c => ?_) (fun c => absurd (seC_eq _) c)
  exact wpL rfl rfl (hk hJ2 hK2)
set_option maxRecDepth 20000 in
theorem lw_548 {s : cs} {m : ms} {D : List pgT} (hL : L ≤ 3584) {i : Int32} (hi : 0 ≤ i.toInt) (hb : i.toInt + 7 ≤ L) (hk : ∀ {s : cs} {m : ms} {D : List pgT}, J s (MC m) D → K m → tb_wp L xs 0 750 [(0, .ref 0), (1, .ref 1), (2, .ref 24), (3, .int i)] [] (HH s (MC m) D) Q) (hJ : J s (MC m) D) (hK : K m) : tb_wp L xs 0 548 [(0, .ref 0), (1, .ref 1), (2, .ref 24), (3, .int i)] [] (HH s (MC m) D) Q := by
  refine wp1 rfl rfl ?_
  refine wp1 rfl rfl ?_
  refine wp1 rfl rfl ?_
  refine wp0 rfl rfl ?_
  refine wp0 rfl rfl ?_
  refine wp3 rfl (am_sald (lw_in hL hi hb 1 (by decide) (by decide))) ?_
  refine wp0 rfl rfl ?_
  refine wp0 rfl rfl ?_
  refine wp0 rfl rfl ?_
  refine wp1 rfl rfl ?_
  refine wp1 rfl rfl ?_
  refine wp0 rfl rfl ?_
  refine wp0 rfl rfl ?_
  refine wp3 rfl (am_sald (lw_in hL hi hb 2 (by decide) (by decide))) ?_
  refine wp0 rfl rfl ?_
  refine wp0 rfl rfl ?_
  refine wp0 rfl rfl ?_
  refine wp0 rfl rfl ?_
  refine wp1 rfl rfl ?_
  refine wp1 rfl rfl ?_
  refine wp0 rfl rfl ?_
  refine wp0 rfl rfl ?_
  refine wp3 rfl (am_sald (lw_in hL hi hb 3 (by decide) (by decide))) ?_
  refine wp4 rfl rfl (sf_6 hJ _ _) (fun rv h1 hq => ?_)
  obtain ⟨s1, D1, hJ1, rfl, x1, rfl, hb1⟩ := hq
  refine wp0 rfl rfl ?_
  refine wp1 rfl rfl ?_
  refine wp1 rfl rfl ?_
  refine wp1 rfl rfl ?_
  refine wp0 rfl rfl ?_
  refine wp0 rfl rfl ?_
  refine wp3 rfl (am_sald (lw_in hL hi hb 1 (by decide) (by decide))) ?_
  refine wp0 rfl rfl ?_
  refine wp0 rfl rfl ?_
  refine wp0 rfl rfl ?_
  refine wp1 rfl rfl ?_
  refine wp1 rfl rfl ?_
  refine wp0 rfl rfl ?_
  refine wp0 rfl rfl ?_
  refine wp3 rfl (am_sald (lw_in hL hi hb 2 (by decide) (by decide))) ?_
  refine wp0 rfl rfl ?_
  refine wp0 rfl rfl ?_
  refine wp0 rfl rfl ?_
  refine wp0 rfl rfl ?_
  refine wp1 rfl rfl ?_
  refine wp1 rfl rfl ?_
  refine wp0 rfl rfl ?_
  refine wp0 rfl rfl ?_
  refine wp3 rfl (am_sald (lw_in hL hi hb 3 (by decide) (by decide))) ?_
  refine wp4 rfl rfl (mf_145 hK _ _) (fun rv h1 hq => ?_)
  obtain ⟨m2, hK2, hR2, rfl, x2, rfl, hb2⟩ := hq
  have hJ2 := J_mc (m' := m2) hJ1
  refine wp0 rfl rfl ?_
  refine wp2 rfl rfl ?_
  exact wpL rfl rfl (hk hJ2 hK2)
set_option maxRecDepth 20000 in
theorem lw_611 {s : cs} {m : ms} {D : List pgT} (hL : L ≤ 3584) {i : Int32} (hi : 0 ≤ i.toInt) (hb : i.toInt + 7 ≤ L) (hk : ∀ {s : cs} {m : ms} {D : List pgT}, J s (MC m) D → K m → tb_wp L xs 0 750 [(0, .ref 0), (1, .ref 1), (2, .ref 24), (3, .int i)] [] (HH s (MC m) D) Q) (hJ : J s (MC m) D) (hK : K m) : tb_wp L xs 0 611 [(0, .ref 0), (1, .ref 1), (2, .ref 24), (3, .int i)] [] (HH s (MC m) D) Q := by
  refine wp1 rfl rfl ?_
  refine wp1 rfl rfl ?_
  refine wp1 rfl rfl ?_
  refine wp0 rfl rfl ?_
  refine wp0 rfl rfl ?_
  refine wp3 rfl (am_sald (lw_in hL hi hb 1 (by decide) (by decide))) ?_
  refine wp4 rfl rfl (sf_12 hJ _) (fun rv h1 hq => ?_)
  obtain ⟨s1, D1, hJ1, rfl, x1, rfl⟩ := hq
  refine wp0 rfl rfl ?_
  refine wp1 rfl rfl ?_
  refine wp1 rfl rfl ?_
  refine wp1 rfl rfl ?_
  refine wp0 rfl rfl ?_
  refine wp0 rfl rfl ?_
  refine wp3 rfl (am_sald (lw_in hL hi hb 1 (by decide) (by decide))) ?_
  refine wp4 rfl rfl (mf_162 hK _) (fun rv h1 hq => ?_)
  obtain ⟨m2, hK2, hR2, rfl, x2, rfl⟩ := hq
  have hJ2 := J_mc (m' := m2) hJ1
  refine wp0 rfl rfl ?_
  refine wp2 rfl rfl ?_
  exact wpL rfl rfl (hk hJ2 hK2)
set_option maxRecDepth 20000 in
theorem lw_634 {s : cs} {m : ms} {D : List pgT} (hL : L ≤ 3584) {i : Int32} (hi : 0 ≤ i.toInt) (hb : i.toInt + 7 ≤ L) (hk : ∀ {s : cs} {m : ms} {D : List pgT}, J s (MC m) D → K m → tb_wp L xs 0 750 [(0, .ref 0), (1, .ref 1), (2, .ref 24), (3, .int i)] [] (HH s (MC m) D) Q) (hJ : J s (MC m) D) (hK : K m) : tb_wp L xs 0 634 [(0, .ref 0), (1, .ref 1), (2, .ref 24), (3, .int i)] [] (HH s (MC m) D) Q := by
  refine wp1 rfl rfl ?_
  refine wp1 rfl rfl ?_
  refine wp1 rfl rfl ?_
  refine wp0 rfl rfl ?_
  refine wp0 rfl rfl ?_
  refine wp3 rfl (am_sald (lw_in hL hi hb 1 (by decide) (by decide))) ?_
  refine wp0 rfl rfl ?_
  refine wp0 rfl rfl ?_
  refine wp0 rfl rfl ?_
  refine wp1 rfl rfl ?_
  refine wp1 rfl rfl ?_
  refine wp0 rfl rfl ?_
  refine wp0 rfl rfl ?_
  refine wp3 rfl (am_sald (lw_in hL hi hb 2 (by decide) (by decide))) ?_
  refine wp0 rfl rfl ?_
  refine wp0 rfl rfl ?_
  refine wp0 rfl rfl ?_
  refine wp0 rfl rfl ?_
  refine wp4 rfl rfl (sf_13 hJ _) (fun rv h1 hq => ?_)
  obtain ⟨s1, D1, hJ1, rfl, x1, rfl⟩ := hq
  refine wp0 rfl rfl ?_
  refine wp1 rfl rfl ?_
  refine wp1 rfl rfl ?_
  refine wp1 rfl rfl ?_
  refine wp0 rfl rfl ?_
  refine wp0 rfl rfl ?_
  refine wp3 rfl (am_sald (lw_in hL hi hb 1 (by decide) (by decide))) ?_
  refine wp0 rfl rfl ?_
  refine wp0 rfl rfl ?_
  refine wp0 rfl rfl ?_
  refine wp1 rfl rfl ?_
  refine wp1 rfl rfl ?_
  refine wp0 rfl rfl ?_
  refine wp0 rfl rfl ?_
  refine wp3 rfl (am_sald (lw_in hL hi hb 2 (by decide) (by decide))) ?_
  refine wp0 rfl rfl ?_
  refine wp0 rfl rfl ?_
  refine wp0 rfl rfl ?_
  refine wp0 rfl rfl ?_
  refine wp4 rfl rfl (mf_163 hK _) (fun rv h1 hq => ?_)
  obtain ⟨m2, hK2, hR2, rfl, x2, rfl⟩ := hq
  have hJ2 := J_mc (m' := m2) hJ1
  refine wp0 rfl rfl ?_
  refine wp2 rfl rfl ?_
  exact wpL rfl rfl (hk hJ2 hK2)
set_option maxRecDepth 20000 in
theorem lw_687 {s : cs} {m : ms} {D : List pgT} (hL : L ≤ 3584) {i : Int32} (hi : 0 ≤ i.toInt) (hb : i.toInt + 7 ≤ L) (hk : ∀ {s : cs} {m : ms} {D : List pgT}, J s (MC m) D → K m → tb_wp L xs 0 750 [(0, .ref 0), (1, .ref 1), (2, .ref 24), (3, .int i)] [] (HH s (MC m) D) Q) (hJ : J s (MC m) D) (hK : K m) : tb_wp L xs 0 687 [(0, .ref 0), (1, .ref 1), (2, .ref 24), (3, .int i)] [] (HH s (MC m) D) Q := by
  refine wp1 rfl rfl ?_
  refine wp1 rfl rfl ?_
  refine wp1 rfl rfl ?_
  refine wp0 rfl rfl ?_
  refine wp0 rfl rfl ?_
  refine wp3 rfl (am_sald (lw_in hL hi hb 1 (by decide) (by decide))) ?_
  refine wp0 rfl rfl ?_
  refine wp0 rfl rfl ?_
  refine wp0 rfl rfl ?_
  refine wp1 rfl rfl ?_
  refine wp1 rfl rfl ?_
  refine wp0 rfl rfl ?_
  refine wp0 rfl rfl ?_
  refine wp3 rfl (am_sald (lw_in hL hi hb 2 (by decide) (by decide))) ?_
  refine wp0 rfl rfl ?_
  refine wp0 rfl rfl ?_
  refine wp0 rfl rfl ?_
  refine wp0 rfl rfl ?_
  refine wp1 rfl rfl ?_
  refine wp1 rfl rfl ?_
  refine wp0 rfl rfl ?_
  refine wp0 rfl rfl ?_
  refine wp3 rfl (am_sald (lw_in hL hi hb 3 (by decide) (by decide))) ?_
  refine wp4 rfl rfl (sf_14 hJ _ _) (fun rv h1 hq => ?_)
  obtain ⟨s1, D1, hJ1, rfl, x1, rfl, hb1⟩ := hq
  refine wp0 rfl rfl ?_
  refine wp1 rfl rfl ?_
  refine wp1 rfl rfl ?_
  refine wp1 rfl rfl ?_
  refine wp0 rfl rfl ?_
  refine wp0 rfl rfl ?_
  refine wp3 rfl (am_sald (lw_in hL hi hb 1 (by decide) (by decide))) ?_
  refine wp0 rfl rfl ?_
  refine wp0 rfl rfl ?_
  refine wp0 rfl rfl ?_
  refine wp1 rfl rfl ?_
  refine wp1 rfl rfl ?_
  refine wp0 rfl rfl ?_
  refine wp0 rfl rfl ?_
  refine wp3 rfl (am_sald (lw_in hL hi hb 2 (by decide) (by decide))) ?_
  refine wp0 rfl rfl ?_
  refine wp0 rfl rfl ?_
  refine wp0 rfl rfl ?_
  refine wp0 rfl rfl ?_
  refine wp1 rfl rfl ?_
  refine wp1 rfl rfl ?_
  refine wp0 rfl rfl ?_
  refine wp0 rfl rfl ?_
  refine wp3 rfl (am_sald (lw_in hL hi hb 3 (by decide) (by decide))) ?_
  refine wp4 rfl rfl (mf_165 hK _ _) (fun rv h1 hq => ?_)
  obtain ⟨m2, hK2, hR2, rfl, x2, rfl, hb2⟩ := hq
  have hJ2 := J_mc (m' := m2) hJ1
  refine wp0 rfl rfl ?_
  refine wp2 rfl rfl ?_
  exact wpL rfl rfl (hk hJ2 hK2)
set_option maxRecDepth 20000 in
theorem lw_loop (hL : L ≤ 3584) (n : Nat) : ∀ {s : cs} {m : ms} {D : List pgT} (hJ : J s (MC m) D) (hK : K m) (i : Int32) (hi : 0 ≤ i.toInt) (hm : ((L : Int) - i.toInt).toNat < n), tb_wp L xs 0 18 [(0, .ref 0), (1, .ref 1), (2, .ref 24), (3, .int i)] [] (HH s (MC m) D) QL := by
  induction n with
  | zero => intro s m D hJ hK i hi hm; exact absurd hm (Nat.not_lt_zero _)
  | succ n ih =>
    intro s m D hJ hK i hi hm
    refine wp1 rfl rfl ?_
    refine wp1 rfl rfl ?_
    refine wp3 rfl rfl ?_
    refine wp0 rfl rfl ?_
    refine wp0 rfl rfl ?_
    refine wp2b rfl rfl (fun c1 => ?_) (fun c1 => ?_)
    · refine wp0 rfl rfl ?_
      exact wp5z rfl rfl b1 ⟨rfl, lw_room hJ⟩
    · have hb := lw_bnd hL hi c1
      have hk : ∀ {s : cs} {m : ms} {D : List pgT}, J s (MC m) D → K m → tb_wp L xs 0 750 [(0, .ref 0), (1, .ref 1), (2, .ref 24), (3, .int i)] [] (HH s (MC m) D) QL := by
        intro s m D hJ hK
        refine wp1 rfl rfl ?_
        refine wpV (lv' := [(0, .ref 0), (1, .ref 1), (2, .ref 24), (3, .int (i + 7))]) rfl ?_
        refine wp2 rfl rfl ?_
        exact wpL rfl rfl (ih hJ hK (i + 7) (by rw [lw_7 hL hi hb]; omega) (by rw [lw_7 hL hi hb]; omega))
      refine wp1 rfl rfl ?_
      refine wp1 rfl rfl ?_
      refine wp3 rfl (am_sald (lw_in0 hi hb)) ?_
      refine wp0 rfl rfl ?_
      refine wp0 rfl rfl ?_
      refine wp2s [104, 179, 240, 281, 324, 375, 426, 449, 462, 485, 548, 611, 634, 687, 750] rfl rfl rfl rfl (am_fa1 ?_ (am_fa1 ?_ (am_fa1 ?_ (am_fa1 ?_ (am_fa1 ?_ (am_fa1 ?_ (am_fa1 ?_ (am_fa1 ?_ (am_fa1 ?_ (am_fa1 ?_ (am_fa1 ?_ (am_fa1 ?_ (am_fa1 ?_ (am_fa1 ?_ (am_fa1 ?_ (am_fa0))))))))))))))))
      · exact wpL rfl rfl (lw_104 hL hi hb hk hJ hK)
      · exact wpL rfl rfl (lw_179 hL hi hb hk hJ hK)
      · exact wpL rfl rfl (lw_240 hL hi hb hk hJ hK)
      · exact wpL rfl rfl (lw_281 hL hi hb hk hJ hK)
      · exact wpL rfl rfl (lw_324 hL hi hb hk hJ hK)
      · exact wpL rfl rfl (lw_375 hL hi hb hk hJ hK)
      · exact wpL rfl rfl (lw_426 hL hi hb hk hJ hK)
      · exact wpL rfl rfl (lw_449 hL hi hb hk hJ hK)
      · exact wpL rfl rfl (lw_462 hL hi hb hk hJ hK)
      · exact wpL rfl rfl (lw_485 hL hi hb hk hJ hK)
      · exact wpL rfl rfl (lw_548 hL hi hb hk hJ hK)
      · exact wpL rfl rfl (lw_611 hL hi hb hk hJ hK)
      · exact wpL rfl rfl (lw_634 hL hi hb hk hJ hK)
      · exact wpL rfl rfl (lw_687 hL hi hb hk hJ hK)
      · exact wpL rfl rfl (hk hJ hK)
set_option maxRecDepth 20000 in
theorem main_law (hL : L ≤ 3584) : tb_law L xs := by
  have h : tb_wp L xs 0 0 (lv_args 0 [.ref 0]) [] [] QL := by
    refine wp3 rfl rfl ?_
    refine wpH (h' := [.inr (0, [.null, .null, .null, .null, .null, .null, .null, .null, .int 0, .long 0])]) rfl ?_
    refine wpS (st' := [.ref 1]) rfl ?_
    refine wp0 rfl rfl ?_
    refine am_ev_at rfl rfl c_new ?_
    refine wp1 rfl rfl ?_
    refine wpV (lv' := [(0, .ref 0), (1, .ref 1)]) rfl ?_
    refine wp3 rfl rfl ?_
    refine wpH (h' := HH s_new [.inr (12, [.int 0, .null, .null, .null, .null, .null, .null, .int 0, .int 0, .int 0, .int 0, .int 0, .int 0, .int 0, .int 0, .int 0, .null, .null, .long 0, .long 0, .long 0, .int 0, .int 0, .int 0, .int 0, .int 0, .int 0, .int 0, .long 0, .long 0, .int 0, .int 0, .int 0, .int 0, .int 0, .int 0, .int 0, .int 0, .long 0, .null, .null])] []) rfl ?_
    refine wpS (st' := [.ref 24]) rfl ?_
    refine wp0 rfl rfl ?_
    refine wp4 rfl rfl m_new_ok (fun rv h1 hq => ?_)
    obtain ⟨m, hK, hR, rfl, rfl⟩ := hq
    refine wp1 rfl rfl ?_
    refine wpV (lv' := [(0, .ref 0), (1, .ref 1), (2, .ref 24)]) rfl ?_
    refine wp0 rfl rfl ?_
    refine wp1 rfl rfl ?_
    refine wpV (lv' := [(0, .ref 0), (1, .ref 1), (2, .ref 24), (3, .int 0)]) rfl ?_
    exact wpL rfl rfl (lw_loop hL _ (J_new m) hK 0 (by decide) (Nat.lt_succ_self _))
  obtain ⟨v, h', ⟨rfl, h1, h2⟩, N, hN⟩ := h
  exact ⟨h', ⟨N, hN⟩, h1, h2⟩
end LAW

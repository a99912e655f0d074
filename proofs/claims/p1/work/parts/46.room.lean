/-! the law: a script of calls, one after another -/
def QL (v : Option Value) (h : am_H) : Prop := v = some (.int 1) ∧ h.length ≤ tb_cells ∧ am_sl h ≤ tb_slots
theorem J_mc {s : cs} {m m' : ms} {D : List pgT} (h : J s (MC m) D) : J s (MC m') D := h
theorem cnt_none : ∀ n, cnt (fun _ => none) n = 0
  | 0 => rfl
  | n + 1 => by simp [cnt, cnt_none n]
theorem J_new (m : ms) : J s_new (MC m) [] := by
  refine ⟨b0, b0, b0, b0, b0, b0, fun _ _ => (by decide : am_in 0 16 = true), ?_, ?_, ?_, ?_⟩
  · intro i k hi hk q hq
    have e : sT s_new i k = none := by
      match i with
      | 0 => rfl
      | 1 => rfl
      | 2 => rfl
      | n + 3 => rfl
    rw [e] at hq
    cases hq
  · intro i hi q hq
    have e : sW s_new i = none := by
      match i with
      | 0 => rfl
      | 1 => rfl
      | 2 => rfl
      | n + 3 => rfl
    rw [e] at hq
    cases hq
  · intro j p hp
    simp at hp
  · have e0 : sT s_new 0 = fun _ => none := rfl
    have e1 : sT s_new 1 = fun _ => none := rfl
    have e2 : sT s_new 2 = fun _ => none := rfl
    have e3 : sT s_new 3 = fun _ => none := rfl
    rw [e0, e1, e2, e3]
    simp only [cnt_none]
    rfl
theorem pgF_len (b : Nat) : ∀ (D : List pgT) (j : Nat), (pgF b j D).length = 2 * D.length
  | [], _ => rfl
  | p :: r, j => by
    simp only [pgF, List.length_cons, pgF_len b r (j + 1)]
    omega
theorem pgF_sl (b : Nat) : ∀ (D : List pgT) (j : Nat), am_sl (pgF b j D) = 259 * D.length
  | [], _ => rfl
  | p :: r, j => by
    simp only [pgF, am_sl, am_cs, List.length_cons, List.length_nil, pgF_sl b r (j + 1)]
    omega
theorem lw_room {s : cs} {m : ms} {D : List pgT} (hJ : J s (MC m) D) : (HH s (MC m) D).length ≤ tb_cells ∧ am_sl (HH s (MC m) D) ≤ tb_slots := by
  have h0 : D.length = cnt (sT s 0) 1024 + cnt (sT s 1) 1537 + cnt (sT s 2) 256 + cnt (sT s 3) 256 := hJ.2.2.2.2.2.2.2.2.2.2
  have hd : D.length ≤ 1024 + 1537 + 256 + 256 := Nat.le_trans (Nat.le_of_eq h0) (Nat.add_le_add (Nat.add_le_add (Nat.add_le_add (cnt_le (sT s 0) 1024) (cnt_le (sT s 1) 1537)) (cnt_le (sT s 2) 256)) (cnt_le (sT s 3) 256))
  have e1 := pgF_len 11 D 0
  have e2 := pgF_sl 11 D 0
  have e3 : HH s (MC m) D = CH s (MC m ++ pgF 11 0 D) := rfl
  rw [e3]
  clear h0 e3 hJ
  generalize pgF 11 0 D = t at e1 e2
  generalize D.length = d at e1 e2 hd
  constructor
  · refine Nat.le_trans (m := 500000) ?_ (by decide)
    simp only [CH, MC, List.length_cons, List.cons_append, List.nil_append]
    omega
  · refine Nat.le_trans (m := 7000000) ?_ (by decide)
    simp only [CH, MC, List.length_cons, List.length_nil, List.cons_append, List.nil_append, am_sl, am_cs]
    rw [e2]
    simp only [← Nat.add_assoc, Nat.zero_add, Nat.reduceAdd]
    omega
theorem lw_k {L : Nat} {i k : Int32} (hL : L ≤ 3584) (hi : 0 ≤ i.toInt) (hb : i.toInt + 7 ≤ L) (h0 : 0 ≤ k.toInt) (h1 : k.toInt ≤ 7) : (i + k).toInt = i.toInt + k.toInt := by
  rw [Int32.toInt_add]
  exact Int.bmod_eq_of_le (by omega) (by omega)
theorem lw_in {L : Nat} {i : Int32} (hL : L ≤ 3584) (hi : 0 ≤ i.toInt) (hb : i.toInt + 7 ≤ L) (k : Int32) (h0 : 0 ≤ k.toInt) (h1 : k.toInt ≤ 6) : am_in (i + k) L = true := by
  have e := lw_k hL hi hb h0 (by omega)
  exact am_in_of (by omega) (by omega)
theorem lw_in0 {L : Nat} {i : Int32} (hi : 0 ≤ i.toInt) (hb : i.toInt + 7 ≤ L) : am_in i L = true := am_in_of hi (by omega)
theorem lw_7 {L : Nat} {i : Int32} (hL : L ≤ 3584) (hi : 0 ≤ i.toInt) (hb : i.toInt + 7 ≤ L) : (i + 7).toInt = i.toInt + 7 := lw_k hL hi hb (by decide) (by decide)
theorem lw_bnd {L : Nat} {i : Int32} (hL : L ≤ 3584) (hi : 0 ≤ i.toInt) (c : ¬ Int32.ofNat L - 7 < i) : i.toInt + 7 ≤ L := by
  have e1 : (Int32.ofNat L).toInt = L := Int32.toInt_ofNat_of_lt (by omega)
  have e2 : (Int32.ofNat L - 7).toInt = L - 7 := by
    rw [Int32.toInt_sub, e1]
    exact Int.bmod_eq_of_le (by show -((2 : Int) ^ 32 / 2) ≤ (L : Int) - 7; omega) (by show (L : Int) - 7 < ((2 : Int) ^ 32 + 1) / 2; omega)
  have h : ¬ (Int32.ofNat L - 7).toInt < i.toInt := fun z => c (Int32.lt_iff_toInt_lt.mpr z)
  omega

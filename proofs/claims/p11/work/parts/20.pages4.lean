/-! bytes are read and written -/
theorem call_v {k ci mL a2 q : Nat} {fs : List Value} {h : am_H} {st as rest : List Value} (hs : st = as.reverse ++ .ref q :: rest) (hl : as.length + 1 = a2) (h8 : (rest.map fun v => v.category).sum ≤ 8) (hm : ((Value.ref q :: as).map fun v => v.category).sum ≤ mL) (hg : am_get h q = some (.inr (ci, fs))) : am_call (.invokevirtual k) ci mL a2 st h = some (.ref q :: as, rest) := by
  subst hs
  subst hl
  have e1 : (as.reverse ++ .ref q :: rest).take (as.length + 1) = as.reverse ++ [.ref q] := by
    rw [show as.reverse ++ Value.ref q :: rest = (as.reverse ++ [.ref q]) ++ rest by simp]
    exact List.take_left' (by simp)
  have e2 : (as.reverse ++ .ref q :: rest).drop (as.length + 1) = rest := by
    rw [show as.reverse ++ Value.ref q :: rest = (as.reverse ++ [.ref q]) ++ rest by simp]
    exact List.drop_left' (by simp)
  have e3 : (as.reverse ++ [Value.ref q]).reverse = .ref q :: as := by simp
  unfold am_call
  rw [e1, e2, e3, if_pos ⟨by simp, h8, hm⟩]
  simp [hg]
theorem and255_in (x : Int32) : am_in (x &&& 255) 256 = true := by
  obtain ⟨j, hj, e⟩ := pk_andE x (m := 255) 8 rfl
  rw [e]
  exact am_in_of (by rw [nI_toInt (by omega)]; omega) (by rw [nI_toInt (by omega)]; omega)
theorem fit_upd {f : Nat → Int32} (hf : ∀ i, fits .byte (.int (f i)) = true) (k : Nat) (x : Int32) : ∀ i, fits .byte (.int (upd f k (vp_nar .byte x) i)) = true := fun i => by
  unfold upd
  split
  · rw [vp_nar_byte]
    exact pk_fb x
  · exact hf i
section PAGES5
variable {s : cs} {mc : am_H} {D : List pgT} {i : Nat} {L : Nat} {xs : Nat → Int32}
theorem J_pg {j : Nat} {p : pgT} (hJ : J s mc D) (h : D[j]? = some p) : okp mc.length j p.2.1 ∧ (∃ k, k < 1537 ∧ p.1 = nI k) ∧ ∀ i, fits .byte (.int (p.2.2 i)) = true := hJ.2.2.2.2.2.2.2.2.2.1 j p h
set_option maxRecDepth 20000 in
theorem pg_byteAt (hi : i < 4) (hJ : J s mc D) (x : Int32) : tb_wp L xs 108 0 (lv_args 0 [.ref (sR i), .int x]) [] (HH s mc D) (SI mc) := by
  refine wp1 rfl rfl ?_
  refine wp1 rfl rfl ?_
  refine wp4 rfl (call_v (as := [.int x]) (rest := []) rfl rfl (Nat.zero_le _) (Nat.le_of_ble_eq_true rfl) (st_obj hi)) (pg_at hi hJ x) (fun rv h1 hq => ?_)
  obtain ⟨rfl, o, rfl, ho⟩ := hq
  cases o with
  | none =>
    refine wp1 rfl rfl ?_
    refine wp1 rfl rfl ?_
    refine wp2 rfl rfl ?_
    refine wp0 rfl rfl ?_
    refine wp2 rfl rfl ?_
    exact wp5i rfl rfl ⟨_, _, hJ, rfl, _, rfl⟩
  | some q =>
    obtain ⟨j, hj, rfl⟩ := ho q rfl
    obtain ⟨p, hp⟩ := D_at rfl hj
    refine wp1 rfl rfl ?_
    refine wp1 rfl rfl ?_
    refine wp2 rfl rfl ?_
    refine wp1 rfl rfl ?_
    refine wp3 rfl (am_getf (hh_pg hp) rfl) ?_
    refine wp1 rfl rfl ?_
    refine wp0 rfl rfl ?_
    refine wp0 rfl rfl ?_
    refine wp3 rfl (am_bald (hh_pc hp) (and255_in _)) ?_
    refine wp0 rfl rfl ?_
    refine wp0 rfl rfl ?_
    exact wp5i rfl rfl ⟨_, _, hJ, rfl, _, rfl⟩
/-- at a page's bytes: the store of putByte, putWord -/
theorem pg_store {mi pc : Nat} {lv : am_L} {st : List Value} {Q : Option Value → am_H → Prop} {len a2 : Nat} {v : Value} {sw : List (Int32 × Nat)} {lm : Option (List Nat)} {j : Nat} {p : pgT} {x y : Int32} (hJ : J s mc D) (hp : D[j]? = some p) (hT : tb_T mi pc = some (3, .bastore, len, 1, a2, v, sw, lm)) (k : ∀ D' : List pgT, J s mc D' → D'.length = D.length → tb_wp L xs mi (pc + len) (am_live lm lv) st (HH s mc D') Q) : tb_wp L xs mi pc lv (.int y :: .int (x &&& 255) :: .ref (25 + mc.length + 2 * j) :: st) (HH s mc D) Q := by
  refine wp3 hT (am_bast (hh_pc hp) (and255_in x)) ?_
  rw [hh_ps hp]
  exact k _ (J_byte hJ hp (fit_upd (J_pg hJ hp).2.2 _ _)) (by rw [List.length_set])
set_option maxRecDepth 20000 in
theorem pg_putByte (hi : i < 4) (hJ : J s mc D) (x y : Int32) : tb_wp L xs 116 0 (lv_args 0 [.ref (sR i), .int x, .int y]) [] (HH s mc D) (SV mc) := by
  have fin : ∀ (s : cs) (D : List pgT) (o : Option Nat), J s mc D → okp mc.length D.length o → tb_wp L xs 116 17 [(1, .int x), (2, .int y)] [am_rf o] (HH s mc D) (SV mc) := by
    intro s D o hJ ho
    cases o with
    | none =>
      refine wp1 rfl rfl ?_
      refine wp1 rfl rfl ?_
      refine wp2 rfl rfl ?_
      exact wp5 rfl rfl ⟨_, _, hJ, rfl, rfl⟩
    | some q =>
      obtain ⟨j, hj, rfl⟩ := ho q rfl
      obtain ⟨p, hp⟩ := D_at rfl hj
      refine wp1 rfl rfl ?_
      refine wp1 rfl rfl ?_
      refine wp2 rfl rfl ?_
      refine wp1 rfl rfl ?_
      refine wp3 rfl (am_getf (hh_pg hp) rfl) ?_
      refine wp1 rfl rfl ?_
      refine wp0 rfl rfl ?_
      refine wp0 rfl rfl ?_
      refine wp1 rfl rfl ?_
      refine wp0 rfl rfl ?_
      refine pg_store hJ hp rfl (fun D' hJ' _ => ?_)
      exact wp5 rfl rfl ⟨_, _, hJ', rfl, rfl⟩
  refine wp1 rfl rfl ?_
  refine wp2b rfl rfl (fun c1 => ?_) (fun c1 => ?_)
  · refine wp1 rfl rfl ?_
    refine wp1 rfl rfl ?_
    refine wp4 rfl (call_v (as := [.int x]) (rest := []) rfl rfl (Nat.zero_le _) (Nat.le_of_ble_eq_true rfl) (st_obj hi)) (pg_at hi hJ x) (fun rv h1 hq => ?_)
    obtain ⟨rfl, o, rfl, ho⟩ := hq
    refine wp2 rfl rfl ?_
    exact wpL rfl rfl (fin s D o hJ ho)
  · refine wp1 rfl rfl ?_
    refine wp1 rfl rfl ?_
    refine wp4 rfl (call_v (as := [.int x]) (rest := []) rfl rfl (Nat.zero_le _) (Nat.le_of_ble_eq_true rfl) (st_obj hi)) (pg_for hi hJ x) (fun rv h1 hq => ?_)
    obtain ⟨s', D', hJ', rfl, hle, o, rfl, ho⟩ := hq
    exact wpL rfl rfl (fin s' D' o hJ' ho)
set_option maxRecDepth 20000 in
theorem pg_word_loop (hi : i < 4) (n : Nat) : ∀ {s : cs} {D : List pgT} (hJ : J s mc D) (x z : Int32) (v : Int64) (hm : (z.toInt + 1).toNat < n), tb_wp L xs 119 7 [(0, .ref (sR i)), (1, .int x), (3, .long v), (5, .int z)] [] (HH s mc D) (SJ mc) := by
  induction n with
  | zero => intro s D hJ x z v hm; exact absurd hm (Nat.not_lt_zero _)
  | succ n ih =>
    intro s D hJ x z v hm
    refine wp1 rfl rfl ?_
    refine wp2b rfl rfl (fun c1 => ?_) (fun c1 => ?_)
    · refine wp1 rfl rfl ?_
      exact wp5 rfl rfl ⟨_, _, hJ, rfl, _, rfl⟩
    · have fin : ∀ (y : Int32) (w : Int64), tb_wp L xs 119 53 [(0, .ref (sR i)), (1, .int x), (5, .int z)] [.int y, .long w] (HH s mc D) (SJ mc) := by
        intro y w
        refine wp0 rfl rfl ?_
        refine wp0 rfl rfl ?_
        refine wpTl (fun u _ => ?_)
        refine wp1 rfl rfl ?_
        refine wp1 rfl rfl ?_
        refine wp2 rfl rfl ?_
        exact wpL rfl rfl (ih hJ x (z + -1) u (i32_down c1 hm))
      refine wp1 rfl rfl ?_
      refine wp1 rfl rfl ?_
      refine wp1 rfl rfl ?_
      refine wp0 rfl rfl ?_
      refine wp4 rfl (call_v (as := [.int (x + z)]) (rest := []) rfl rfl (Nat.zero_le _) (Nat.le_of_ble_eq_true rfl) (st_obj hi)) (pg_at hi hJ (x + z)) (fun rv h1 hq => ?_)
      obtain ⟨rfl, o, rfl, ho⟩ := hq
      cases o with
      | none =>
        refine wp1 rfl rfl ?_
        refine wp1 rfl rfl ?_
        refine wp0 rfl rfl ?_
        refine wp0 rfl rfl ?_
        refine wp1 rfl rfl ?_
        refine wp2 rfl rfl ?_
        refine wp0 rfl rfl ?_
        refine wp2 rfl rfl ?_
        exact wpL rfl rfl (fin _ _)
      | some q =>
        obtain ⟨j, hj, rfl⟩ := ho q rfl
        obtain ⟨p, hp⟩ := D_at rfl hj
        refine wp1 rfl rfl ?_
        refine wp1 rfl rfl ?_
        refine wp0 rfl rfl ?_
        refine wp0 rfl rfl ?_
        refine wp1 rfl rfl ?_
        refine wp2 rfl rfl ?_
        refine wp1 rfl rfl ?_
        refine wp3 rfl (am_getf (hh_pg hp) rfl) ?_
        refine wp1 rfl rfl ?_
        refine wp1 rfl rfl ?_
        refine wp0 rfl rfl ?_
        refine wp0 rfl rfl ?_
        refine wp0 rfl rfl ?_
        refine wp3 rfl (am_bald (hh_pc hp) (and255_in _)) ?_
        refine wp0 rfl rfl ?_
        refine wp0 rfl rfl ?_
        exact wpL rfl rfl (fin _ _)
set_option maxRecDepth 20000 in
theorem pg_wordAt (hi : i < 4) (hJ : J s mc D) (x n : Int32) : tb_wp L xs 119 0 (lv_args 0 [.ref (sR i), .int x, .int n]) [] (HH s mc D) (SJ mc) := by
  refine wp0 rfl rfl ?_
  refine wp1 rfl rfl ?_
  refine wp1 rfl rfl ?_
  refine wp0 rfl rfl ?_
  refine wp0 rfl rfl ?_
  refine wp1 rfl rfl ?_
  exact wpL rfl rfl (pg_word_loop hi _ hJ x (n - 1) 0 (Nat.lt_succ_self _))
set_option maxRecDepth 20000 in
theorem pg_putWord_loop (hi : i < 4) (n : Nat) : ∀ {s : cs} {D : List pgT} (hJ : J s mc D) (x m z : Int32) (v : Int64) (hm : (m.toInt - z.toInt).toNat < n), tb_wp L xs 117 3 [(0, .ref (sR i)), (1, .int x), (2, .int m), (3, .long v), (5, .int z)] [] (HH s mc D) (SV mc) := by
  induction n with
  | zero => intro s D hJ x m z v hm; exact absurd hm (Nat.not_lt_zero _)
  | succ n ih =>
    intro s D hJ x m z v hm
    refine wp1 rfl rfl ?_
    refine wp1 rfl rfl ?_
    refine wp2b rfl rfl (fun c1 => ?_) (fun c1 => ?_)
    · exact wp5 rfl rfl ⟨_, _, hJ, rfl, rfl⟩
    · have fin : ∀ (s : cs) (D : List pgT), J s mc D → tb_wp L xs 117 47 [(0, .ref (sR i)), (1, .int x), (2, .int m), (3, .long v), (5, .int z)] [] (HH s mc D) (SV mc) := by
        intro s D hJ
        refine wp1 rfl rfl ?_
        refine wp2 rfl rfl ?_
        exact wpL rfl rfl (ih hJ x m (z + 1) v (i32_up c1 hm))
      refine wp1 rfl rfl ?_
      refine wp1 rfl rfl ?_
      refine wp1 rfl rfl ?_
      refine wp0 rfl rfl ?_
      refine wp4 rfl (call_v (as := [.int (x + z)]) (rest := []) rfl rfl (Nat.zero_le _) (Nat.le_of_ble_eq_true rfl) (st_obj hi)) (pg_for hi hJ (x + z)) (fun rv h1 hq => ?_)
      obtain ⟨s', D', hJ', rfl, hle, o, rfl, ho⟩ := hq
      cases o with
      | none =>
        refine wp1 rfl rfl ?_
        refine wp1 rfl rfl ?_
        refine wp2 rfl rfl ?_
        exact wpL rfl rfl (fin s' D' hJ')
      | some q =>
        obtain ⟨j, hj, rfl⟩ := ho q rfl
        obtain ⟨p, hp⟩ := D_at rfl hj
        refine wp1 rfl rfl ?_
        refine wp1 rfl rfl ?_
        refine wp2 rfl rfl ?_
        refine wp1 rfl rfl ?_
        refine wp3 rfl (am_getf (hh_pg hp) rfl) ?_
        refine wp1 rfl rfl ?_
        refine wp1 rfl rfl ?_
        refine wp0 rfl rfl ?_
        refine wp0 rfl rfl ?_
        refine wp0 rfl rfl ?_
        refine wp1 rfl rfl ?_
        refine wp0 rfl rfl ?_
        refine wp1 rfl rfl ?_
        refine wp0 rfl rfl ?_
        refine wp0 rfl rfl ?_
        refine wp0 rfl rfl ?_
        refine wp0 rfl rfl ?_
        refine pg_store hJ' hp rfl (fun D2 hJ2 _ => ?_)
        exact wpL rfl rfl (fin s' D2 hJ2)
set_option maxRecDepth 20000 in
theorem pg_putWord (hi : i < 4) (hJ : J s mc D) (x n : Int32) (v : Int64) : tb_wp L xs 117 0 (lv_args 0 [.ref (sR i), .int x, .int n, .long v]) [] (HH s mc D) (SV mc) := by
  refine wp0 rfl rfl ?_
  refine wp1 rfl rfl ?_
  exact wpL rfl rfl (pg_putWord_loop hi _ hJ x n 0 v (Nat.lt_succ_self _))
end PAGES5

/-! stretches: pieces cleared and copied, an image taken over -/
theorem i32_nle {a b : Int32} (h : ¬ b ≤ a) : a.toInt < b.toInt := by
  have h1 : ¬ b.toInt ≤ a.toInt := fun z => h (Int32.le_iff_toInt_le.mpr z)
  omega
theorem i32_addI {a b : Int32} (h1 : -2147483648 ≤ a.toInt + b.toInt) (h2 : a.toInt + b.toInt < 2147483648) : (a + b).toInt = a.toInt + b.toInt := by
  rw [Int32.toInt_add]
  exact Int.bmod_eq_of_le (by omega) (by omega)
theorem i32_subI {a b : Int32} (h1 : -2147483648 ≤ a.toInt - b.toInt) (h2 : a.toInt - b.toInt < 2147483648) : (a - b).toInt = a.toInt - b.toInt := by
  rw [Int32.toInt_sub]
  exact Int.bmod_eq_of_le (by omega) (by omega)
theorem and255I (x : Int32) : 0 ≤ (x &&& 255).toInt ∧ (x &&& 255).toInt < 256 := by
  obtain ⟨a, ha, e⟩ := and255 x
  rw [e, nI_toInt (by omega)]
  omega
theorem restI (x : Int32) : (256 - (x &&& 255)).toInt = 256 - (x &&& 255).toInt := by
  have h := and255I x
  have e : (256 : Int32).toInt = 256 := rfl
  rw [i32_subI (by omega) (by omega), e]
section PAGES7
variable {s : cs} {mc : am_H} {D : List pgT} {i i2 : Nat} {L : Nat} {xs : Nat → Int32}
theorem rest_ev (x : Int32) {h : am_H} : tb_ev L xs 118 [.int x] h (some (.int (256 - (x &&& 255)))) h := by
  refine am_wp_ev ?_
  refine wp0 rfl rfl ?_
  refine wp1 rfl rfl ?_
  refine wp0 rfl rfl ?_
  refine wp0 rfl rfl ?_
  refine wp0 rfl rfl ?_
  exact wp5i rfl rfl ⟨rfl, rfl⟩
theorem minI (a b : Int32) : (if a < b then a else b).toInt = if a.toInt < b.toInt then a.toInt else b.toInt := by
  by_cases h : a < b
  · rw [if_pos h, if_pos (Int32.lt_iff_toInt_lt.mp h)]
  · rw [if_neg h, if_neg (fun z => h (Int32.lt_iff_toInt_lt.mpr z))]
set_option maxRecDepth 20000 in
theorem pg_clearFrom_loop (hi : i < 4) (m : Nat) (n : Nat) : ∀ {D : List pgT} (hJ : J s mc D) (hl : D.length = m) (x k z : Int32) (hz : 0 ≤ z.toInt) (hm : (k.toInt - z.toInt).toNat < n), tb_wp L xs 110 2 [(0, .ref (sR i)), (1, .int x), (2, .int k), (3, .int z)] [] (HH s mc D) (SB s mc m) := by
  induction n with
  | zero => intro D hJ hl x k z hz hm; exact absurd hm (Nat.not_lt_zero _)
  | succ n ih =>
    intro D hJ hl x k z hz hm
    refine wp1 rfl rfl ?_
    refine wp1 rfl rfl ?_
    refine wp2b rfl rfl (fun c1 => ?_) (fun c1 => ?_)
    · exact wp5 rfl rfl ⟨rfl, D, hJ, hl, rfl⟩
    · have hlt : z.toInt < k.toInt := i32_nle c1
      have hk := Int32.toInt_lt k
      refine wp1 rfl rfl ?_
      refine wp1 rfl rfl ?_
      refine wp0 rfl rfl ?_
      refine wp1 rfl rfl ?_
      refine wp1 rfl rfl ?_
      refine wp0 rfl rfl ?_
      refine am_ev_at rfl (call_s (as := [.int (x + z)]) (rest := [.int (k - z)]) rfl rfl (Nat.le_of_ble_eq_true rfl) (Nat.le_of_ble_eq_true rfl)) (rest_ev (x + z)) ?_
      refine wp3 rfl (am_mmin (Nat.le_of_ble_eq_true rfl)) ?_
      refine wpTi (fun w ew => ?_)
      have e1 : (k - z).toInt = k.toInt - z.toInt := i32_subI (by omega) (by omega)
      have e2 := restI (x + z)
      have e3 := and255I (x + z)
      have e4 := (minI _ _).symm.trans (congrArg Int32.toInt ew)
      rw [e1, e2] at e4
      have e5 : 1 ≤ w.toInt ∧ w.toInt ≤ k.toInt - z.toInt ∧ (x + z &&& 255).toInt + w.toInt ≤ 256 := by
        split at e4 <;> omega
      refine wp1 rfl rfl ?_
      refine wpV (lv' := [(0, .ref (sR i)), (1, .int x), (2, .int k), (3, .int z), (4, .int w)]) rfl ?_
      refine wp1 rfl rfl ?_
      refine wp1 rfl rfl ?_
      refine wp1 rfl rfl ?_
      refine wp0 rfl rfl ?_
      refine wp1 rfl rfl ?_
      refine wp4 rfl (call_v (as := [.int (x + z), .int w]) (rest := []) rfl rfl (Nat.zero_le _) (Nat.le_of_ble_eq_true rfl) (st_obj hi)) (pg_clearPiece hi hJ (x + z) w (by omega) e5.2.2) (fun rv h1 hq => ?_)
      obtain ⟨rfl, D', hJ', hl', rfl⟩ := hq
      refine wp1 rfl rfl ?_
      refine wp1 rfl rfl ?_
      refine wp0 rfl rfl ?_
      refine wp1 rfl rfl ?_
      refine wp2 rfl rfl ?_
      have e6 : (z + w).toInt = z.toInt + w.toInt := i32_addI (by omega) (by omega)
      exact wpL rfl rfl (ih hJ' (by omega) x k (z + w) (by omega) (by omega))
set_option maxRecDepth 20000 in
theorem pg_clearFrom (hi : i < 4) (hJ : J s mc D) (x k : Int32) : tb_wp L xs 110 0 (lv_args 0 [.ref (sR i), .int x, .int k]) [] (HH s mc D) (SV mc) := by
  refine wp0 rfl rfl ?_
  refine wp1 rfl rfl ?_
  refine am_wp_mono (wpL rfl rfl (pg_clearFrom_loop hi D.length _ hJ rfl x k 0 (by decide) (Nat.lt_succ_self _))) (fun v h hq => ?_)
  obtain ⟨rfl, D', hJ', -, rfl⟩ := hq
  exact ⟨_, _, hJ', rfl, rfl⟩
def SG (mc : am_H) (n : Nat) (v : Option Value) (h : am_H) : Prop := v = none ∧ ∃ (s : cs) (D : List pgT), J s mc D ∧ n ≤ D.length ∧ h = HH s mc D
set_option maxRecDepth 20000 in
set_option maxHeartbeats 4000000 in
theorem pg_copyPiece (hi : i < 4) (hi2 : i2 < 4) (hJ : J s mc D) (a x n : Int32) (h0 : 0 ≤ n.toInt) (h1 : (a &&& 255).toInt + n.toInt ≤ 256) (h2 : (x &&& 255).toInt + n.toInt ≤ 256) : tb_wp L xs 113 0 (lv_args 0 [.ref (sR i), .ref (sR i2), .int a, .int x, .int n]) [] (HH s mc D) (SG mc D.length) := by
  have clr : ∀ (s : cs) (D' : List pgT), J s mc D' → D.length ≤ D'.length → tb_wp L xs 113 33 [(0, .ref (sR i)), (3, .int x), (4, .int n)] [] (HH s mc D') (SG mc D.length) := by
    intro s D' hJ' hle
    refine wp1 rfl rfl ?_
    refine wp1 rfl rfl ?_
    refine wp1 rfl rfl ?_
    refine wp4 rfl (call_v (as := [.int x, .int n]) (rest := []) rfl rfl (Nat.zero_le _) (Nat.le_of_ble_eq_true rfl) (st_obj hi)) (pg_clearPiece hi hJ' x n h0 h2) (fun rv h1 hq => ?_)
    obtain ⟨rfl, D2, hJ2, hl2, rfl⟩ := hq
    exact wp5 rfl rfl ⟨rfl, s, D2, hJ2, by omega, rfl⟩
  refine wp1 rfl rfl ?_
  refine wp1 rfl rfl ?_
  refine wp4 rfl (call_v (as := [.int a]) (rest := []) rfl rfl (Nat.zero_le _) (Nat.le_of_ble_eq_true rfl) (st_obj hi2)) (pg_at hi2 hJ a) (fun rv h1 hq => ?_)
  obtain ⟨rfl, o, rfl, ho⟩ := hq
  cases o with
  | none =>
    refine wp1 rfl rfl ?_
    refine wp1 rfl rfl ?_
    refine wp2 rfl rfl ?_
    refine wp0 rfl rfl ?_
    refine wp2 rfl rfl ?_
    refine wp1 rfl rfl ?_
    refine wp1 rfl rfl ?_
    refine wp2 rfl rfl ?_
    exact wpL rfl rfl (clr s D hJ (Nat.le_refl _))
  | some q =>
    obtain ⟨j, hj, rfl⟩ := ho q rfl
    refine wp1 rfl rfl ?_
    refine wp1 rfl rfl ?_
    refine wp2 rfl rfl ?_
    refine wp1 rfl rfl ?_
    refine wp1 rfl rfl ?_
    refine wp4 rfl (call_v (as := [.int x]) (rest := []) rfl rfl (Nat.zero_le _) (Nat.le_of_ble_eq_true rfl) (st_obj hi)) (pg_for hi hJ x) (fun rv h1 hq => ?_)
    obtain ⟨s', D', hJ', rfl, hle, o', rfl, ho'⟩ := hq
    cases o' with
    | none =>
      refine wp1 rfl rfl ?_
      refine wp1 rfl rfl ?_
      refine wp2 rfl rfl ?_
      refine wp1 rfl rfl ?_
      refine wp2 rfl rfl ?_
      exact wpL rfl rfl (clr s' D' hJ' hle)
    | some q' =>
      obtain ⟨j', hj', rfl⟩ := ho' q' rfl
      obtain ⟨p, hp⟩ := D_at (show D'.length = D'.length from rfl) (show j < D'.length by omega)
      obtain ⟨p', hp'⟩ := D_at (show D'.length = D'.length from rfl) hj'
      refine wp1 rfl rfl ?_
      refine wp1 rfl rfl ?_
      refine wp2 rfl rfl ?_
      refine wp1 rfl rfl ?_
      refine wp2 rfl rfl ?_
      refine wp0 rfl rfl ?_
      refine wp1 rfl rfl ?_
      refine wp1 rfl rfl ?_
      refine wp3 rfl (am_getf (hh_pg hp) rfl) ?_
      refine wp1 rfl rfl ?_
      refine wp1 rfl rfl ?_
      refine wp0 rfl rfl ?_
      refine wp1 rfl rfl ?_
      refine wp3 rfl (am_getf (hh_pg hp') rfl) ?_
      refine wp1 rfl rfl ?_
      refine wp1 rfl rfl ?_
      refine wp0 rfl rfl ?_
      refine wp1 rfl rfl ?_
      have ea := and255I a
      have ex := and255I x
      have nn : ∀ w : Int32, 0 ≤ w.toInt → ¬ w < 0 := fun w hw z => by
        have := Int32.lt_iff_toInt_lt.mp z
        have e0 : (0 : Int32).toInt = 0 := rfl
        omega
      have tn : ∀ w : Int32, 0 ≤ w.toInt → (w.toNatClampNeg : Int) = w.toInt := fun w hw => by
        show (w.toInt.toNat : Int) = w.toInt
        omega
      have t1 := tn (a &&& 255) ea.1
      have t2 := tn (x &&& 255) ex.1
      have t3 := tn n h0
      refine wp3 rfl (am_acpy (hh_pc hp) (hh_pc hp') (nn _ ea.1) (nn _ ex.1) (nn _ h0) (by omega) (by omega) (Nat.zero_le _) (fun z _ => (J_pg hJ' hp).2.2 _)) ?_
      refine wpH (hh_ps hp') ?_
      exact wp5 rfl rfl ⟨rfl, s', _, J_byte hJ' hp' (fit_cpy (J_pg hJ' hp).2.2 (J_pg hJ' hp').2.2 _ _ _), by rw [List.length_set]; exact hle, rfl⟩
set_option maxRecDepth 20000 in
theorem pg_copyFrom_loop (hi : i < 4) (hi2 : i2 < 4) (n : Nat) : ∀ {s : cs} {D : List pgT} (hJ : J s mc D) (a x k z : Int32) (hz : 0 ≤ z.toInt) (hm : (k.toInt - z.toInt).toNat < n), tb_wp L xs 112 3 [(0, .ref (sR i)), (1, .ref (sR i2)), (2, .int a), (3, .int x), (4, .int k), (5, .int z)] [] (HH s mc D) (SV mc) := by
  induction n with
  | zero => intro s D hJ a x k z hz hm; exact absurd hm (Nat.not_lt_zero _)
  | succ n ih =>
    intro s D hJ a x k z hz hm
    refine wp1 rfl rfl ?_
    refine wp1 rfl rfl ?_
    refine wp2b rfl rfl (fun c1 => ?_) (fun c1 => ?_)
    · exact wp5 rfl rfl ⟨_, _, hJ, rfl, rfl⟩
    · have hlt : z.toInt < k.toInt := i32_nle c1
      have hk := Int32.toInt_lt k
      refine wp1 rfl rfl ?_
      refine wp1 rfl rfl ?_
      refine wp0 rfl rfl ?_
      refine am_ev_at rfl (call_s (as := [.int (a + z)]) (rest := []) rfl rfl (Nat.le_of_ble_eq_true rfl) (Nat.le_of_ble_eq_true rfl)) (rest_ev (a + z)) ?_
      refine wp1 rfl rfl ?_
      refine wp1 rfl rfl ?_
      refine wp0 rfl rfl ?_
      refine am_ev_at rfl (call_s (as := [.int (x + z)]) (rest := [.int (256 - (a + z &&& 255))]) rfl rfl (Nat.le_of_ble_eq_true rfl) (Nat.le_of_ble_eq_true rfl)) (rest_ev (x + z)) ?_
      refine wp3 rfl (am_mmin (Nat.le_of_ble_eq_true rfl)) ?_
      refine wpTi (fun r er => ?_)
      refine wp1 rfl rfl ?_
      refine wpV (lv' := [(0, .ref (sR i)), (1, .ref (sR i2)), (2, .int a), (3, .int x), (4, .int k), (5, .int z), (6, .int r)]) rfl ?_
      refine wp1 rfl rfl ?_
      refine wp1 rfl rfl ?_
      refine wp0 rfl rfl ?_
      refine wp1 rfl rfl ?_
      refine wp3 rfl (am_mmin (Nat.le_of_ble_eq_true rfl)) ?_
      refine wpTi (fun w ew => ?_)
      have e1 : (k - z).toInt = k.toInt - z.toInt := i32_subI (by omega) (by omega)
      have e2 := restI (x + z)
      have e3 := and255I (x + z)
      have e2a := restI (a + z)
      have e3a := and255I (a + z)
      have e4 := (minI _ _).symm.trans (congrArg Int32.toInt er)
      rw [e2, e2a] at e4
      have e5 := (minI _ _).symm.trans (congrArg Int32.toInt ew)
      rw [e1] at e5
      have e6 : 1 ≤ w.toInt ∧ w.toInt ≤ k.toInt - z.toInt ∧ (x + z &&& 255).toInt + w.toInt ≤ 256 ∧ (a + z &&& 255).toInt + w.toInt ≤ 256 := by
        split at e4 <;> split at e5 <;> omega
      refine wp1 rfl rfl ?_
      refine wpV (lv' := [(0, .ref (sR i)), (1, .ref (sR i2)), (2, .int a), (3, .int x), (4, .int k), (5, .int z), (6, .int r), (7, .int w)]) rfl ?_
      refine wp1 rfl rfl ?_
      refine wp1 rfl rfl ?_
      refine wp1 rfl rfl ?_
      refine wp1 rfl rfl ?_
      refine wp0 rfl rfl ?_
      refine wp1 rfl rfl ?_
      refine wp1 rfl rfl ?_
      refine wp0 rfl rfl ?_
      refine wp1 rfl rfl ?_
      refine wp4 rfl (call_v (as := [.ref (sR i2), .int (a + z), .int (x + z), .int w]) (rest := []) rfl rfl (Nat.zero_le _) (Nat.le_of_ble_eq_true rfl) (st_obj hi)) (pg_copyPiece hi hi2 hJ (a + z) (x + z) w (by omega) e6.2.2.2 e6.2.2.1) (fun rv h1 hq => ?_)
      obtain ⟨rfl, s', D', hJ', hl', rfl⟩ := hq
      refine wp1 rfl rfl ?_
      refine wp1 rfl rfl ?_
      refine wp0 rfl rfl ?_
      refine wp1 rfl rfl ?_
      refine wp2 rfl rfl ?_
      have e7 : (z + w).toInt = z.toInt + w.toInt := i32_addI (by omega) (by omega)
      exact wpL rfl rfl (ih hJ' a x k (z + w) (by omega) (by omega))
set_option maxRecDepth 20000 in
theorem pg_copyFrom (hi : i < 4) (hi2 : i2 < 4) (hJ : J s mc D) (a x k : Int32) : tb_wp L xs 112 0 (lv_args 0 [.ref (sR i), .ref (sR i2), .int a, .int x, .int k]) [] (HH s mc D) (SV mc) := by
  refine wp0 rfl rfl ?_
  refine wp1 rfl rfl ?_
  exact wpL rfl rfl (pg_copyFrom_loop hi hi2 _ hJ a x k 0 (by decide) (Nat.lt_succ_self _))
set_option maxRecDepth 20000 in
set_option maxHeartbeats 4000000 in
theorem pg_become_loop (hi : i < 4) (hi2 : i2 < 4) (n : Nat) : ∀ {s : cs} {D : List pgT} (hJ : J s mc D) (k : Int32) (b : Nat) (o : Option Nat) (ho : okp mc.length b o) (hb : b ≤ D.length) (hn : b < n), tb_wp L xs 107 9 [(0, .ref (sR i)), (1, .ref (sR i2)), (2, .int k), (3, am_rf o)] [] (HH s mc D) (SV mc) := by
  induction n with
  | zero => intro s D hJ k b o ho hb hn; omega
  | succ n ih =>
    intro s D hJ k b o ho hb hn
    cases o with
    | none =>
      refine wp1 rfl rfl ?_
      refine wp2 rfl rfl ?_
      exact wp5 rfl rfl ⟨_, _, hJ, rfl, rfl⟩
    | some q =>
      obtain ⟨j, hj, rfl⟩ := ho q rfl
      have fin : ∀ (s' : cs) (D' : List pgT), J s' mc D' → D.length ≤ D'.length → tb_wp L xs 107 48 [(0, .ref (sR i)), (1, .ref (sR i2)), (2, .int k), (3, .ref (24 + mc.length + 2 * j))] [] (HH s' mc D') (SV mc) := by
        intro s' D' hJ' hle
        obtain ⟨p', hp'⟩ := D_at (show D'.length = D'.length from rfl) (show j < D'.length by omega)
        have ho' := (J_pg hJ' hp').1
        refine wp1 rfl rfl ?_
        refine wp3 rfl (am_getf (hh_pg hp') rfl) ?_
        generalize hoe : p'.2.1 = o' at ho'
        refine wp1 (lv' := [(0, .ref (sR i)), (1, .ref (sR i2)), (2, .int k), (3, am_rf o')]) (st' := []) rfl (by cases o' <;> rfl) ?_
        refine wp2 rfl rfl ?_
        exact wpL rfl (by cases o' <;> rfl) (ih hJ' k j o' ho' (by omega) (by omega))
      obtain ⟨p, hp⟩ := D_at (show D.length = D.length from rfl) (show j < D.length by omega)
      obtain ⟨kn, hkn, ekn⟩ := (J_pg hJ hp).2.1
      refine wp1 rfl rfl ?_
      refine wp2 rfl rfl ?_
      refine wp1 rfl rfl ?_
      refine wp3 rfl (am_getf (hh_pg hp) rfl) ?_
      refine wp0 rfl rfl ?_
      refine wp0 rfl rfl ?_
      refine wpTi (fun a ea => ?_)
      have ea2 : a = nI (kn * 256) := by rw [← ea, ekn, show (256 : Int32) = nI 256 from rfl, pk_mul]
      have ea3 : a.toInt = ((kn * 256 : Nat) : Int) := by rw [ea2, nI_toInt (by omega)]
      have ea4 : (a &&& 255).toInt = 0 := by
        rw [ea2, pk_andN (by omega) 8 rfl, show kn * 256 % 2 ^ 8 = 0 by omega]
        rfl
      refine wp1 rfl rfl ?_
      refine wpV (lv' := [(0, .ref (sR i)), (1, .ref (sR i2)), (2, .int k), (3, .ref (24 + mc.length + 2 * j)), (4, .int a)]) rfl ?_
      refine wp1 rfl rfl ?_
      refine wp1 rfl rfl ?_
      refine wp2b rfl rfl (fun c1 => ?_) (fun c1 => ?_)
      · exact wpL rfl rfl (fin s D hJ (Nat.le_refl _))
      · have hlt : a.toInt < k.toInt := i32_nle c1
        have hk := Int32.toInt_lt k
        refine wp1 rfl rfl ?_
        refine wp1 rfl rfl ?_
        refine wp1 rfl rfl ?_
        refine wp1 rfl rfl ?_
        refine wp0 rfl rfl ?_
        refine wp1 rfl rfl ?_
        refine wp1 rfl rfl ?_
        refine wp0 rfl rfl ?_
        refine wp3 rfl (am_mmin (Nat.le_of_ble_eq_true rfl)) ?_
        refine wpTi (fun w ew => ?_)
        have e1 : (k - a).toInt = k.toInt - a.toInt := i32_subI (by omega) (by omega)
        have e5 := (minI _ _).symm.trans (congrArg Int32.toInt ew)
        have e0 : (256 : Int32).toInt = 256 := rfl
        rw [e1, e0] at e5
        have e6 : 0 ≤ w.toInt ∧ w.toInt ≤ 256 := by split at e5 <;> omega
        refine wp4 rfl (call_v (as := [.ref (sR i2), .int a, .int a, .int w]) (rest := []) rfl rfl (Nat.zero_le _) (Nat.le_of_ble_eq_true rfl) (st_obj hi)) (pg_copyPiece hi hi2 hJ a a w e6.1 (by omega) (by omega)) (fun rv h1 hq => ?_)
        obtain ⟨rfl, s', D', hJ', hl', rfl⟩ := hq
        exact wpL rfl rfl (fin s' D' hJ' hl')
set_option maxRecDepth 20000 in
theorem pg_become (hi : i < 4) (hi2 : i2 < 4) (hJ : J s mc D) (k : Int32) : tb_wp L xs 107 0 (lv_args 0 [.ref (sR i), .ref (sR i2), .int k]) [] (HH s mc D) (SV mc) := by
  refine wp1 rfl rfl ?_
  refine wp4 rfl (call_v (as := []) (rest := []) rfl rfl (Nat.zero_le _) (Nat.le_of_ble_eq_true rfl) (st_obj hi)) (pg_clear hi hJ) (fun rv h1 hq => ?_)
  obtain ⟨rfl, D', hJ', hl', rfl⟩ := hq
  have ho := hJ'.2.2.2.2.2.2.2.2.1 i2 hi2
  refine wp1 rfl rfl ?_
  refine wp3 rfl (am_getf (st_obj hi2) rfl) ?_
  generalize sW s i2 = o at ho
  refine wp1 (lv' := [(0, .ref (sR i)), (1, .ref (sR i2)), (2, .int k), (3, am_rf o)]) (st' := []) rfl (by cases o <;> rfl) ?_
  exact wpL rfl (by cases o <;> rfl) (pg_become_loop hi hi2 _ hJ' k D'.length o ho (Nat.le_refl _) (Nat.lt_succ_self _))
end PAGES7

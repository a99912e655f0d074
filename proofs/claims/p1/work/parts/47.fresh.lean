/-! the model's anew, called by its constructor: the state that it leaves, exactly -/
def R0 (n : Nat) : Int64 := if n = 4 then 2147479552 else 0
def mA (rg : Nat → Int64) (me he sk : Nat → Int32) : ms := ((39, 0, 0, -1, -1, 1, 0, 0, 0, (fun _ => 0), (fun _ => 0)), (0, 0, 0, 0, 0, 0, 0), (0, 0, 0, 0, 0), (rg, (fun _ => 0), 0, 0, 0, 0, 0, 0, 0), (0, 0, 0, (fun _ => 0), (fun _ => 0)), ((fun _ => 0), me, he, sk))
def mF (rg : Nat → Int64) (me he sk : Nat → Int32) : ms := ((39, 0, 0, -1, -1, 1, 0, 0, 0, (fun _ => 0), (fun _ => 0)), (0, 0, 0, 0, 0, 0, 0), (0, 0, 0, 0, 0), (rg, (fun _ => 0), 4194304, 0, 0, 0, 0, 0, 0), (0, 0, 0, (fun _ => 0), (fun _ => 0)), ((fun _ => 0), me, he, sk))
theorem K_F (rg : Nat → Int64) (me he sk : Nat → Int32) : K (mF rg me he sk) := ⟨b0, b0, b0, b0, b0, fun _ _ => (by decide : am_in 0 16 = true), z_bnd2, z_bnd, z_bnd, z_bnd⟩
theorem upd_z {f : Nat → Int32} {k : Nat} (h : ∀ n, f n = 0) (n : Nat) : upd f k (vp_nar .byte 0) n = 0 := by
  unfold upd
  split
  · rfl
  · exact h n
theorem updL_z {f : Nat → Int64} {k : Nat} (h : ∀ n, f n = 0) (n : Nat) : vp_updL f k 0 n = 0 := by
  unfold vp_updL
  split
  · rfl
  · exact h n
theorem updL_4 {f : Nat → Int64} (h : ∀ n, f n = 0) (n : Nat) : vp_updL f 4 2147479552 n = R0 n := by
  unfold vp_updL R0
  split
  · rfl
  · exact h n
theorem i_lt {i b : Int32} {n : Nat} (hi : 0 ≤ i.toInt) (c : ¬ b ≤ i) (hb : b.toInt ≤ n := by decide) : am_in i n = true := by
  have g : ¬ b.toInt ≤ i.toInt := fun z => c (Int32.le_iff_toInt_le.mpr z)
  exact am_in_of hi (by omega)
section ANEW
variable {L : Nat} {xs : Nat → Int32} {s : cs} {D : List pgT} {Q : Option Value → am_H → Prop}
set_option maxRecDepth 20000 in
theorem an_36 {rg : Nat → Int64} {he sk : Nat → Int32} (hk : ∀ (me : Nat → Int32) (i : Int32), tb_wp L xs 128 73 [(0, .ref 24), (1, .int 0), (7, .int i)] [] (HH s (MC (mA rg me he sk)) D) Q) (n : Nat) : ∀ (me : Nat → Int32) (i : Int32) (hi : 0 ≤ i.toInt) (hm : ((262144 : Int32).toInt - i.toInt).toNat < n), tb_wp L xs 128 36 [(0, .ref 24), (1, .int 0), (7, .int i)] [] (HH s (MC (mA rg me he sk)) D) Q := by
  induction n with
  | zero => intro me i hi hm; exact absurd hm (Nat.not_lt_zero _)
  | succ n ih =>
    intro me i hi hm
    refine wp1 rfl rfl ?_
    refine wp0 rfl rfl ?_
    refine wp2b rfl rfl (fun c1 => ?_) (fun c1 => ?_)
    · exact hk me i
    · refine wp1 rfl rfl ?_
      refine wp3 rfl (am_getf rfl rfl) ?_
      refine wp1 rfl rfl ?_
      refine wp1 rfl rfl ?_
      refine wp1 rfl rfl ?_
      refine wp2b rfl rfl (fun c2 => ?_) (fun c2 => absurd (show (0 : Int32) ≤ i from Int32.le_iff_toInt_le.mpr hi) c2)
      refine wp0 rfl rfl ?_
      refine wp3 rfl (am_bast rfl (i_lt hi c1)) ?_
      refine wpH (h' := HH s (MC (mA rg (upd me (Int32.toNatClampNeg i) (vp_nar .byte 0)) he sk)) D) rfl ?_
      refine wp1 rfl rfl ?_
      refine wpV (lv' := [(0, .ref 24), (1, .int 0), (7, .int (i + 1))]) rfl ?_
      refine wp2 rfl rfl ?_
      exact wpL rfl rfl (ih _ (i + 1) (i32_upp c1 hi) (i32_up c1 hm))
set_option maxRecDepth 20000 in
theorem an_76 {rg : Nat → Int64} {me : Nat → Int32} (hk : ∀ (he sk : Nat → Int32) (i : Int32), (∀ n, sk n = 0) → tb_wp L xs 128 105 [(0, .ref 24), (7, .int i)] [] (HH s (MC (mA rg me he sk)) D) Q) (n : Nat) : ∀ (he sk : Nat → Int32) (hz : ∀ n, sk n = 0) (i : Int32) (hi : 0 ≤ i.toInt) (hm : ((65536 : Int32).toInt - i.toInt).toNat < n), tb_wp L xs 128 76 [(0, .ref 24), (7, .int i)] [] (HH s (MC (mA rg me he sk)) D) Q := by
  induction n with
  | zero => intro he sk hz i hi hm; exact absurd hm (Nat.not_lt_zero _)
  | succ n ih =>
    intro he sk hz i hi hm
    refine wp1 rfl rfl ?_
    refine wp0 rfl rfl ?_
    refine wp2b rfl rfl (fun c1 => ?_) (fun c1 => ?_)
    · exact hk he sk i hz
    · refine wp1 rfl rfl ?_
      refine wp3 rfl (am_getf rfl rfl) ?_
      refine wp1 rfl rfl ?_
      refine wp0 rfl rfl ?_
      refine wp3 rfl (am_bast rfl (i_lt hi c1)) ?_
      refine wpH (h' := HH s (MC (mA rg me (upd he (Int32.toNatClampNeg i) (vp_nar .byte 0)) sk)) D) rfl ?_
      refine wp1 rfl rfl ?_
      refine wp3 rfl (am_getf rfl rfl) ?_
      refine wp1 rfl rfl ?_
      refine wp0 rfl rfl ?_
      refine wp3 rfl (am_bast rfl (i_lt hi c1)) ?_
      refine wpH (h' := HH s (MC (mA rg me (upd he (Int32.toNatClampNeg i) (vp_nar .byte 0)) (upd sk (Int32.toNatClampNeg i) (vp_nar .byte 0)))) D) rfl ?_
      refine wp1 rfl rfl ?_
      refine wpV (lv' := [(0, .ref 24), (7, .int (i + 1))]) rfl ?_
      refine wp2 rfl rfl ?_
      exact wpL rfl rfl (ih _ _ (upd_z hz) (i + 1) (i32_upp c1 hi) (i32_up c1 hm))
set_option maxRecDepth 20000 in
theorem an_108 {me he sk : Nat → Int32} (hk : ∀ (rg : Nat → Int64) (i : Int32), (∀ n, rg n = 0) → tb_wp L xs 128 129 [(0, .ref 24), (7, .int i)] [] (HH s (MC (mA rg me he sk)) D) Q) (n : Nat) : ∀ (rg : Nat → Int64) (hz : ∀ n, rg n = 0) (i : Int32) (hi : 0 ≤ i.toInt) (hm : ((16 : Int32).toInt - i.toInt).toNat < n), tb_wp L xs 128 108 [(0, .ref 24), (7, .int i)] [] (HH s (MC (mA rg me he sk)) D) Q := by
  induction n with
  | zero => intro rg hz i hi hm; exact absurd hm (Nat.not_lt_zero _)
  | succ n ih =>
    intro rg hz i hi hm
    refine wp1 rfl rfl ?_
    refine wp0 rfl rfl ?_
    refine wp2b rfl rfl (fun c1 => ?_) (fun c1 => ?_)
    · exact hk rg i hz
    · refine wp1 rfl rfl ?_
      refine wp3 rfl (am_getf rfl rfl) ?_
      refine wp1 rfl rfl ?_
      refine wp0 rfl rfl ?_
      refine wp3 rfl (am_last rfl (i_lt hi c1)) ?_
      refine wpH (h' := HH s (MC (mA (vp_updL rg (Int32.toNatClampNeg i) 0) me he sk)) D) rfl ?_
      refine wp1 rfl rfl ?_
      refine wpV (lv' := [(0, .ref 24), (7, .int (i + 1))]) rfl ?_
      refine wp2 rfl rfl ?_
      exact wpL rfl rfl (ih _ (updL_z hz) (i + 1) (i32_upp c1 hi) (i32_up c1 hm))

def NFr (s : cs) (D : List pgT) (v : Option Value) (h : am_H) : Prop := v = none ∧ ∃ (rg : Nat → Int64) (me he sk : Nat → Int32), (∀ n, rg n = R0 n) ∧ (∀ n, sk n = 0) ∧ h = HH s (MC (mF rg me he sk)) D
/- FlagMachineModel.setFlags -/
set_option maxRecDepth 20000 in
theorem xe_m1  (rg : Nat → Int64) (me : Nat → Int32) (he : Nat → Int32) (sk : Nat → Int32) : tb_ev L xs 174 [.ref 24, .long 0] (HH s (MC (mA (vp_updL rg 4 2147479552) me he sk)) D) (none) (HH s (MC (t_over (t_negative (t_zero (t_parity (t_carry (mA (vp_updL rg 4 2147479552) me he sk) 0) 0) 0) 0) 0)) D) := by
  refine am_wp_ev ?_
  refine wp1 rfl rfl ?_
  refine wp1 rfl rfl ?_
  refine wp0 rfl rfl ?_
  refine wp0 rfl rfl ?_
  refine wpS (st' := [.long 0, .ref 24]) rfl ?_
  refine wp0 rfl rfl ?_
  refine wp0 rfl rfl ?_
  refine wpS (st' := [.int 0, .ref 24]) rfl ?_
  refine wp2 (pc' := 13) rfl rfl ?_
  refine wp0 rfl rfl ?_
  refine wp3 rfl (am_putf rfl (Nat.le_of_ble_eq_true rfl) (b01_nar b0) (b01_fit b0)) ?_
  refine wpH (h' := HH s (MC (t_carry (mA (vp_updL rg 4 2147479552) me he sk) 0)) D) rfl ?_
  refine wp1 rfl rfl ?_
  refine wp1 rfl rfl ?_
  refine wp0 rfl rfl ?_
  refine wp0 rfl rfl ?_
  refine wpS (st' := [.long 0, .ref 24]) rfl ?_
  refine wp0 rfl rfl ?_
  refine wp0 rfl rfl ?_
  refine wpS (st' := [.int 0, .ref 24]) rfl ?_
  refine wp2 (pc' := 32) rfl rfl ?_
  refine wp0 rfl rfl ?_
  refine wp3 rfl (am_putf rfl (Nat.le_of_ble_eq_true rfl) (b01_nar b0) (b01_fit b0)) ?_
  refine wpH (h' := HH s (MC (t_parity (t_carry (mA (vp_updL rg 4 2147479552) me he sk) 0) 0)) D) rfl ?_
  refine wp1 rfl rfl ?_
  refine wp1 rfl rfl ?_
  refine wp0 rfl rfl ?_
  refine wp0 rfl rfl ?_
  refine wpS (st' := [.long 0, .ref 24]) rfl ?_
  refine wp0 rfl rfl ?_
  refine wp0 rfl rfl ?_
  refine wpS (st' := [.int 0, .ref 24]) rfl ?_
  refine wp2 (pc' := 51) rfl rfl ?_
  refine wp0 rfl rfl ?_
  refine wp3 rfl (am_putf rfl (Nat.le_of_ble_eq_true rfl) (b01_nar b0) (b01_fit b0)) ?_
  refine wpH (h' := HH s (MC (t_zero (t_parity (t_carry (mA (vp_updL rg 4 2147479552) me he sk) 0) 0) 0)) D) rfl ?_
  refine wp1 rfl rfl ?_
  refine wp1 rfl rfl ?_
  refine wp0 rfl rfl ?_
  refine wp0 rfl rfl ?_
  refine wpS (st' := [.long 0, .ref 24]) rfl ?_
  refine wp0 rfl rfl ?_
  refine wp0 rfl rfl ?_
  refine wpS (st' := [.int 0, .ref 24]) rfl ?_
  refine wp2 (pc' := 70) rfl rfl ?_
  refine wp0 rfl rfl ?_
  refine wp3 rfl (am_putf rfl (Nat.le_of_ble_eq_true rfl) (b01_nar b0) (b01_fit b0)) ?_
  refine wpH (h' := HH s (MC (t_negative (t_zero (t_parity (t_carry (mA (vp_updL rg 4 2147479552) me he sk) 0) 0) 0) 0)) D) rfl ?_
  refine wp1 rfl rfl ?_
  refine wp1 rfl rfl ?_
  refine wp0 rfl rfl ?_
  refine wp0 rfl rfl ?_
  refine wpS (st' := [.long 0, .ref 24]) rfl ?_
  refine wp0 rfl rfl ?_
  refine wp0 rfl rfl ?_
  refine wpS (st' := [.int 0, .ref 24]) rfl ?_
  refine wp2 (pc' := 89) rfl rfl ?_
  refine wp0 rfl rfl ?_
  refine wp3 rfl (am_putf rfl (Nat.le_of_ble_eq_true rfl) (b01_nar b0) (b01_fit b0)) ?_
  refine wpH (h' := HH s (MC (t_over (t_negative (t_zero (t_parity (t_carry (mA (vp_updL rg 4 2147479552) me he sk) 0) 0) 0) 0) 0)) D) rfl ?_
  exact wp5 rfl rfl ⟨rfl, rfl⟩
set_option maxRecDepth 20000 in
theorem anew_new  : tb_wp L xs 128 0 (lv_args 0 [.ref 24, .int 0, .int 0, .int 0, .int 0, .int 0, .int 0]) [] (HH s (MC (mA (fun _ => 0) (fun _ => 0) (fun _ => 0) (fun _ => 0))) D) (NFr s D) := by
  refine wp1 rfl rfl ?_
  refine wp1 rfl rfl ?_
  refine wp3 rfl (am_putf rfl (Nat.le_of_ble_eq_true rfl) rfl rfl) ?_
  refine wpH (h' := HH s (MC (t_end (mA (fun _ => 0) (fun _ => 0) (fun _ => 0) (fun _ => 0)) 0)) D) rfl ?_
  refine wp1 rfl rfl ?_
  refine wp1 rfl rfl ?_
  refine wp3 rfl (am_putf rfl (Nat.le_of_ble_eq_true rfl) rfl rfl) ?_
  refine wpH (h' := HH s (MC (t_textEnd (t_end (mA (fun _ => 0) (fun _ => 0) (fun _ => 0) (fun _ => 0)) 0) 0)) D) rfl ?_
  refine wp1 rfl rfl ?_
  refine wp1 rfl rfl ?_
  refine wp3 rfl (am_putf rfl (Nat.le_of_ble_eq_true rfl) rfl rfl) ?_
  refine wpH (h' := HH s (MC (t_rodataBegin (t_textEnd (t_end (mA (fun _ => 0) (fun _ => 0) (fun _ => 0) (fun _ => 0)) 0) 0) 0)) D) rfl ?_
  refine wp1 rfl rfl ?_
  refine wp1 rfl rfl ?_
  refine wp3 rfl (am_putf rfl (Nat.le_of_ble_eq_true rfl) rfl rfl) ?_
  refine wpH (h' := HH s (MC (t_rodataEnd (t_rodataBegin (t_textEnd (t_end (mA (fun _ => 0) (fun _ => 0) (fun _ => 0) (fun _ => 0)) 0) 0) 0) 0)) D) rfl ?_
  refine wp1 rfl rfl ?_
  refine wp1 rfl rfl ?_
  refine wp3 rfl (am_putf rfl (Nat.le_of_ble_eq_true rfl) rfl rfl) ?_
  refine wpH (h' := HH s (MC (t_dataBegin (t_rodataEnd (t_rodataBegin (t_textEnd (t_end (mA (fun _ => 0) (fun _ => 0) (fun _ => 0) (fun _ => 0)) 0) 0) 0) 0) 0)) D) rfl ?_
  refine wp1 rfl rfl ?_
  refine wp1 rfl rfl ?_
  refine wp3 rfl (am_putf rfl (Nat.le_of_ble_eq_true rfl) rfl rfl) ?_
  refine wpH (h' := HH s (MC (t_dataEnd (t_dataBegin (t_rodataEnd (t_rodataBegin (t_textEnd (t_end (mA (fun _ => 0) (fun _ => 0) (fun _ => 0) (fun _ => 0)) 0) 0) 0) 0) 0) 0)) D) rfl ?_
  refine wp0 rfl rfl ?_
  refine wp1 rfl rfl ?_
  refine wpV (lv' := [(0, .ref 24), (1, .int 0), (2, .int 0), (3, .int 0), (4, .int 0), (5, .int 0), (6, .int 0), (7, .int 0)]) rfl ?_
  refine wpH (h' := HH s (MC (mA (fun _ => 0) (fun _ => 0) (fun _ => 0) (fun _ => 0))) D) rfl ?_
  refine wpL rfl rfl (an_36 (fun me i1 => ?_) _ _ 0 (by decide) (Nat.lt_succ_self _))
  refine wp0 rfl rfl ?_
  refine wp1 rfl rfl ?_
  refine wpV (lv' := [(0, .ref 24), (1, .int 0), (7, .int 0)]) rfl ?_
  refine wpL rfl rfl (an_76 (fun he sk i2 hsk => ?_) _ _ _ (fun _ => rfl) 0 (by decide) (Nat.lt_succ_self _))
  refine wp0 rfl rfl ?_
  refine wp1 rfl rfl ?_
  refine wpV (lv' := [(0, .ref 24), (7, .int 0)]) rfl ?_
  refine wpL rfl rfl (an_108 (fun rg i3 hrg => ?_) _ _ (fun _ => rfl) 0 (by decide) (Nat.lt_succ_self _))
  refine wp1 rfl rfl ?_
  refine wp3 rfl (am_getf rfl rfl) ?_
  refine wp0 rfl rfl ?_
  refine wp0 rfl rfl ?_
  refine wp3 rfl (am_last rfl (by decide)) ?_
  refine wpH (h' := HH s (MC (mA (vp_updL rg 4 2147479552) me he sk)) D) rfl ?_
  refine wp1 rfl rfl ?_
  refine wp0 rfl rfl ?_
  refine am_ev_at rfl rfl (xe_m1  rg me he sk) ?_
  refine wp1 rfl rfl ?_
  refine wp0 rfl rfl ?_
  refine wp3 rfl (am_putf rfl (Nat.le_of_ble_eq_true rfl) rfl rfl) ?_
  refine wpH (h' := HH s (MC (t_ip (t_over (t_negative (t_zero (t_parity (t_carry (mA (vp_updL rg 4 2147479552) me he sk) 0) 0) 0) 0) 0) 4194304)) D) rfl ?_
  refine wp1 rfl rfl ?_
  refine wp0 rfl rfl ?_
  refine wp3 rfl (am_putf rfl (Nat.le_of_ble_eq_true rfl) rfl rfl) ?_
  refine wpH (h' := HH s (MC (t_heapSize (t_ip (t_over (t_negative (t_zero (t_parity (t_carry (mA (vp_updL rg 4 2147479552) me he sk) 0) 0) 0) 0) 0) 4194304) 0)) D) rfl ?_
  refine wp1 rfl rfl ?_
  refine wp0 rfl rfl ?_
  refine wp3 rfl (am_putf rfl (Nat.le_of_ble_eq_true rfl) rfl rfl) ?_
  refine wpH (h' := HH s (MC (t_givenSize (t_heapSize (t_ip (t_over (t_negative (t_zero (t_parity (t_carry (mA (vp_updL rg 4 2147479552) me he sk) 0) 0) 0) 0) 0) 4194304) 0) 0)) D) rfl ?_
  refine wp1 rfl rfl ?_
  refine wp0 rfl rfl ?_
  refine wp3 rfl (am_putf rfl (Nat.le_of_ble_eq_true rfl) rfl rfl) ?_
  refine wpH (h' := HH s (MC (t_shownSize (t_givenSize (t_heapSize (t_ip (t_over (t_negative (t_zero (t_parity (t_carry (mA (vp_updL rg 4 2147479552) me he sk) 0) 0) 0) 0) 0) 4194304) 0) 0) 0)) D) rfl ?_
  refine wp1 rfl rfl ?_
  refine wp0 rfl rfl ?_
  refine wp3 rfl (am_putf rfl (Nat.le_of_ble_eq_true rfl) rfl rfl) ?_
  refine wpH (h' := HH s (MC (t_stopKind (t_shownSize (t_givenSize (t_heapSize (t_ip (t_over (t_negative (t_zero (t_parity (t_carry (mA (vp_updL rg 4 2147479552) me he sk) 0) 0) 0) 0) 0) 4194304) 0) 0) 0) 0)) D) rfl ?_
  refine wp1 rfl rfl ?_
  refine wp0 rfl rfl ?_
  refine wp3 rfl (am_putf rfl (Nat.le_of_ble_eq_true rfl) rfl rfl) ?_
  refine wpH (h' := HH s (MC (t_stopValue (t_stopKind (t_shownSize (t_givenSize (t_heapSize (t_ip (t_over (t_negative (t_zero (t_parity (t_carry (mA (vp_updL rg 4 2147479552) me he sk) 0) 0) 0) 0) 0) 4194304) 0) 0) 0) 0) 0)) D) rfl ?_
  refine wp1 rfl rfl ?_
  refine wp0 rfl rfl ?_
  refine wp3 rfl (am_putf rfl (Nat.le_of_ble_eq_true rfl) rfl rfl) ?_
  refine wpH (h' := HH s (MC (t_stepsDone (t_stopValue (t_stopKind (t_shownSize (t_givenSize (t_heapSize (t_ip (t_over (t_negative (t_zero (t_parity (t_carry (mA (vp_updL rg 4 2147479552) me he sk) 0) 0) 0) 0) 0) 4194304) 0) 0) 0) 0) 0) 0)) D) rfl ?_
  exact wp5 rfl rfl ⟨rfl, _, me, he, sk, updL_4 hrg, hsk, rfl⟩
def NXl (s : cs) (D : List pgT) (x : Int64) (v : Option Value) (h : am_H) : Prop := ∃ m', K m' ∧ h = HH s (MC m') D ∧ v = some (.long x)
def stF (l : Int32) : Int32 := if l < 1 then -1 else if 15 < l then -1 else 0
def ouF (i : Int32) : Int32 := if i = -1 then 0 else -1
def inF (n : Int32) : Int32 := if n < 1 then 0 else if 8 < n then 0 else 1
def rgT (k : Int32) : Int64 := if k = 16 then 4194304 else if k = 17 then 2 else if k = 18 then 4194304 else 0
def rgF (k : Int32) : Int64 := if k < 0 then rgT k else if 16 ≤ k then rgT k else R0 k.toNatClampNeg
theorem i32_nlt {x y : Int32} (h : ¬ x < y) : y ≤ x := Int32.le_iff_toInt_le.mpr (by have g : ¬ x.toInt < y.toInt := fun z => h (Int32.lt_iff_toInt_lt.mpr z); omega)
theorem r16 {k : Int32} (c1 : ¬ k < 0) (c2 : ¬ (16 : Int32) ≤ k) : am_in k 16 = true := i_lt (Int32.le_iff_toInt_le.mp (i32_nlt c1)) c2
set_option maxRecDepth 20000 in
theorem kp_62 {m : ms} {w y : Int64} (hk : ∀ (f : Nat → Int64) (i : Int32), tb_wp L xs 182 89 [(0, .ref 24), (2, .long w), (4, .long y), (6, .int i)] [] (HH s (MC (t_kept0 m f)) D) Q) (n : Nat) : ∀ (f : Nat → Int64) (i : Int32) (hi : 0 ≤ i.toInt) (hm : ((16 : Int32).toInt - i.toInt).toNat < n), tb_wp L xs 182 62 [(0, .ref 24), (2, .long w), (4, .long y), (6, .int i)] [] (HH s (MC (t_kept0 m f)) D) Q := by
  induction n with
  | zero => intro f i hi hm; exact absurd hm (Nat.not_lt_zero _)
  | succ n ih =>
    intro f i hi hm
    refine wp1 rfl rfl ?_
    refine wp0 rfl rfl ?_
    refine wp2b rfl rfl (fun c1 => ?_) (fun c1 => ?_)
    · exact hk f i
    · refine wp1 rfl rfl ?_
      refine wp3 rfl (am_getf rfl rfl) ?_
      refine wp1 rfl rfl ?_
      refine wp1 rfl rfl ?_
      refine wp3 rfl (am_getf rfl rfl) ?_
      refine wp1 rfl rfl ?_
      refine wp3 rfl (am_lald rfl (i_lt hi c1)) ?_
      refine wp3 rfl (am_last rfl (i_lt hi c1)) ?_
      refine wpH (h' := HH s (MC (t_kept0 m (vp_updL f (Int32.toNatClampNeg i) (q_registers0 m (Int32.toNatClampNeg i))))) D) rfl ?_
      refine wp1 rfl rfl ?_
      refine wpV (lv' := [(0, .ref 24), (2, .long w), (4, .long y), (6, .int (i + 1))]) rfl ?_
      refine wp2 rfl rfl ?_
      exact wpL rfl rfl (ih _ (i + 1) (i32_upp c1 hi) (i32_up c1 hm))
set_option maxRecDepth 20000 in
theorem y1_value (rg : Nat → Int64) (me he sk : Nat → Int32) : tb_wp L xs 190 0 (lv_args 0 [.ref 24]) [] (HH s (MC (mF rg me he sk)) D) (NXl s D 0) := by
  refine wp1 rfl rfl ?_
  refine wp0 rfl rfl ?_
  refine wp3 rfl (am_putf rfl (Nat.le_of_ble_eq_true rfl) rfl rfl) ?_
  refine wpH (h' := HH s (MC (t_thrown (mF rg me he sk) 0)) D) rfl ?_
  refine wp1 rfl rfl ?_
  refine wp3 rfl (am_getf rfl rfl) ?_
  refine wpS (st' := [.long 0]) rfl ?_
  exact wp5 rfl rfl ⟨(t_thrown (mF rg me he sk) 0), (K_F rg me he sk), rfl, rfl⟩
/- FlagMachineModel.sizeFits -/
set_option maxRecDepth 20000 in
theorem xe_m2 (rg : Nat → Int64) (me he sk : Nat → Int32) (l1 : Int32) : tb_ev L xs 180 [.ref 24] (HH s (MC (t_thrown (mF rg me he sk) 0)) D) (some (.int 1)) (HH s (MC (t_thrown (mF rg me he sk) 0)) D) := by
  refine am_wp_ev ?_
  refine wp1 rfl rfl ?_
  refine wp3 rfl (am_getf rfl rfl) ?_
  refine wpS (st' := [.int 0]) rfl ?_
  refine wp0 rfl rfl ?_
  refine wp2 (pc' := 8) rfl rfl ?_
  refine wp1 rfl rfl ?_
  refine wp3 rfl (am_getf rfl rfl) ?_
  refine wpS (st' := [.int 0]) rfl ?_
  refine wp0 rfl rfl ?_
  refine wp2 (pc' := 16) rfl rfl ?_
  refine wp1 rfl rfl ?_
  refine wp3 rfl (am_getf rfl rfl) ?_
  refine wpS (st' := [.int 0]) rfl ?_
  refine wp0 rfl rfl ?_
  refine wp2 (pc' := 29) rfl rfl ?_
  refine wp0 rfl rfl ?_
  refine wp1 rfl rfl ?_
  refine wpV (lv' := [(0, .ref 24), (1, .int 0)]) rfl ?_
  refine wp1 rfl rfl ?_
  refine wp3 rfl (am_getf rfl rfl) ?_
  refine wpS (st' := [.int 0]) rfl ?_
  refine wp0 rfl rfl ?_
  refine wp2 (pc' := 39) rfl rfl ?_
  refine wp1 rfl rfl ?_
  refine wp3 rfl (am_getf rfl rfl) ?_
  refine wpS (st' := [.int 0]) rfl ?_
  refine wp0 rfl rfl ?_
  refine wp2 (pc' := 52) rfl rfl ?_
  refine wp0 rfl rfl ?_
  refine wp1 rfl rfl ?_
  refine wpV (lv' := [(0, .ref 24), (1, .int 0), (2, .int 0)]) rfl ?_
  refine wp1 rfl rfl ?_
  refine wp3 rfl (am_getf rfl rfl) ?_
  refine wpS (st' := [.int 39]) rfl ?_
  refine wp0 rfl rfl ?_
  refine wp2 (pc' := 63) rfl rfl ?_
  refine wp1 rfl rfl ?_
  refine wp3 rfl (am_getf rfl rfl) ?_
  refine wpS (st' := [.int 39]) rfl ?_
  refine wp0 rfl rfl ?_
  refine wp2 (pc' := 72) rfl rfl ?_
  refine wp1 rfl rfl ?_
  refine wp3 rfl (am_getf rfl rfl) ?_
  refine wpS (st' := [.int 39]) rfl ?_
  refine wp0 rfl rfl ?_
  refine wp2 (pc' := 96) rfl rfl ?_
  refine wp1 rfl rfl ?_
  refine wp3 rfl (am_getf rfl rfl) ?_
  refine wpS (st' := [.int 39]) rfl ?_
  refine wp0 rfl rfl ?_
  refine wp2 (pc' := 119) rfl rfl ?_
  refine wp1 rfl rfl ?_
  refine wp3 rfl (am_getf rfl rfl) ?_
  refine wpS (st' := [.int 39]) rfl ?_
  refine wp0 rfl rfl ?_
  refine wp2 (pc' := 128) rfl rfl ?_
  refine wp1 rfl rfl ?_
  refine wp3 rfl (am_getf rfl rfl) ?_
  refine wpS (st' := [.int 39]) rfl ?_
  refine wp0 rfl rfl ?_
  refine wp2 (pc' := 137) rfl rfl ?_
  refine wp1 rfl rfl ?_
  refine wp3 rfl (am_getf rfl rfl) ?_
  refine wpS (st' := [.int 39]) rfl ?_
  refine wp0 rfl rfl ?_
  refine wp2 (pc' := 146) rfl rfl ?_
  refine wp1 rfl rfl ?_
  refine wp3 rfl (am_getf rfl rfl) ?_
  refine wpS (st' := [.int 39]) rfl ?_
  refine wp0 rfl rfl ?_
  refine wp2 (pc' := 155) rfl rfl ?_
  refine wp1 rfl rfl ?_
  refine wp3 rfl (am_getf rfl rfl) ?_
  refine wpS (st' := [.int 0]) rfl ?_
  refine wp2 (pc' := 162) rfl rfl ?_
  refine wp0 rfl rfl ?_
  refine wp2 rfl rfl ?_
  exact wp5z rfl rfl b1 ⟨rfl, rfl⟩
/- FlagMachineModel.operandsFit -/
set_option maxRecDepth 20000 in
theorem xe_m3 (rg : Nat → Int64) (me he sk : Nat → Int32) (l1 : Int32) : tb_ev L xs 161 [.ref 24] (HH s (MC (t_thrown (mF rg me he sk) 0)) D) (some (.int 1)) (HH s (MC (t_thrown (mF rg me he sk) 0)) D) := by
  refine am_wp_ev ?_
  refine wp1 rfl rfl ?_
  refine wp3 rfl (am_getf rfl rfl) ?_
  refine wp0 rfl rfl ?_
  refine wp3 rfl (am_iald rfl (by decide)) ?_
  refine wpS (st' := [.int 0]) rfl ?_
  refine wp1 rfl rfl ?_
  refine wpV (lv' := [(0, .ref 24), (1, .int 0)]) rfl ?_
  refine wp1 rfl rfl ?_
  refine wp3 rfl (am_getf rfl rfl) ?_
  refine wp0 rfl rfl ?_
  refine wp3 rfl (am_iald rfl (by decide)) ?_
  refine wpS (st' := [.int 0]) rfl ?_
  refine wp1 rfl rfl ?_
  refine wpV (lv' := [(0, .ref 24), (1, .int 0), (2, .int 0)]) rfl ?_
  refine wp1 rfl rfl ?_
  refine wp3 rfl (am_getf rfl rfl) ?_
  refine wp0 rfl rfl ?_
  refine wp3 rfl (am_iald rfl (by decide)) ?_
  refine wpS (st' := [.int 0]) rfl ?_
  refine wp2 (pc' := 23) rfl rfl ?_
  refine wp0 rfl rfl ?_
  refine wp2 rfl rfl ?_
  refine wp1 rfl rfl ?_
  refine wpV (lv' := [(0, .ref 24), (1, .int 0), (2, .int 0), (3, .int 1)]) rfl ?_
  refine wp1 rfl rfl ?_
  refine wp2 (pc' := 33) rfl rfl ?_
  refine wp1 rfl rfl ?_
  refine wp2 (pc' := 37) rfl rfl ?_
  refine wp0 rfl rfl ?_
  refine wp2 rfl rfl ?_
  refine wp1 rfl rfl ?_
  refine wpV (lv' := [(0, .ref 24), (1, .int 0), (2, .int 0), (3, .int 1), (4, .int 1)]) rfl ?_
  refine wp1 rfl rfl ?_
  refine wp3 rfl (am_getf rfl rfl) ?_
  refine wpS (st' := [.int 39]) rfl ?_
  refine wp0 rfl rfl ?_
  refine wp2 (pc' := 53) rfl rfl ?_
  refine wp1 rfl rfl ?_
  refine wp3 rfl (am_getf rfl rfl) ?_
  refine wpS (st' := [.int 39]) rfl ?_
  refine wp0 rfl rfl ?_
  refine wp2 (pc' := 62) rfl rfl ?_
  refine wp1 rfl rfl ?_
  refine wp3 rfl (am_getf rfl rfl) ?_
  refine wpS (st' := [.int 39]) rfl ?_
  refine wp0 rfl rfl ?_
  refine wp2 (pc' := 138) rfl rfl ?_
  refine wp1 rfl rfl ?_
  refine wp3 rfl (am_getf rfl rfl) ?_
  refine wpS (st' := [.int 39]) rfl ?_
  refine wp0 rfl rfl ?_
  refine wp2 (pc' := 167) rfl rfl ?_
  refine wp1 rfl rfl ?_
  refine wp3 rfl (am_getf rfl rfl) ?_
  refine wpS (st' := [.int 39]) rfl ?_
  refine wp0 rfl rfl ?_
  refine wp2 (pc' := 176) rfl rfl ?_
  refine wp1 rfl rfl ?_
  refine wp3 rfl (am_getf rfl rfl) ?_
  refine wpS (st' := [.int 39]) rfl ?_
  refine wp0 rfl rfl ?_
  refine wp2 (pc' := 185) rfl rfl ?_
  refine wp1 rfl rfl ?_
  refine wp3 rfl (am_getf rfl rfl) ?_
  refine wpS (st' := [.int 39]) rfl ?_
  refine wp0 rfl rfl ?_
  refine wp2 (pc' := 194) rfl rfl ?_
  refine wp1 rfl rfl ?_
  refine wp3 rfl (am_getf rfl rfl) ?_
  refine wpS (st' := [.int 39]) rfl ?_
  refine wp0 rfl rfl ?_
  refine wp2 (pc' := 226) rfl rfl ?_
  refine wp1 rfl rfl ?_
  refine wp3 rfl (am_getf rfl rfl) ?_
  refine wpS (st' := [.int 39]) rfl ?_
  refine wp0 rfl rfl ?_
  refine wp2 (pc' := 235) rfl rfl ?_
  refine wp1 rfl rfl ?_
  refine wp3 rfl (am_getf rfl rfl) ?_
  refine wpS (st' := [.int 39]) rfl ?_
  refine wp0 rfl rfl ?_
  refine wp2 (pc' := 244) rfl rfl ?_
  refine wp1 rfl rfl ?_
  refine wp3 rfl (am_getf rfl rfl) ?_
  refine wpS (st' := [.int 39]) rfl ?_
  refine wp0 rfl rfl ?_
  refine wp2 (pc' := 272) rfl rfl ?_
  refine wp1 rfl rfl ?_
  refine wp3 rfl (am_getf rfl rfl) ?_
  refine wpS (st' := [.int 39]) rfl ?_
  refine wp0 rfl rfl ?_
  refine wp2 (pc' := 312) rfl rfl ?_
  refine wp1 rfl rfl ?_
  refine wp3 rfl (am_getf rfl rfl) ?_
  refine wpS (st' := [.int 39]) rfl ?_
  refine wp0 rfl rfl ?_
  refine wp2 (pc' := 366) rfl rfl ?_
  refine wp1 rfl rfl ?_
  refine wp3 rfl (am_getf rfl rfl) ?_
  refine wpS (st' := [.int 39]) rfl ?_
  refine wp0 rfl rfl ?_
  refine wp2 (pc' := 375) rfl rfl ?_
  refine wp1 rfl rfl ?_
  refine wp3 rfl (am_getf rfl rfl) ?_
  refine wpS (st' := [.int 39]) rfl ?_
  refine wp0 rfl rfl ?_
  refine wp2 (pc' := 384) rfl rfl ?_
  refine wp1 rfl rfl ?_
  refine wp3 rfl (am_getf rfl rfl) ?_
  refine wpS (st' := [.int 39]) rfl ?_
  refine wp0 rfl rfl ?_
  refine wp2 (pc' := 420) rfl rfl ?_
  refine wp1 rfl rfl ?_
  refine wp3 rfl (am_getf rfl rfl) ?_
  refine wpS (st' := [.int 39]) rfl ?_
  refine wp0 rfl rfl ?_
  refine wp2 (pc' := 456) rfl rfl ?_
  refine wp1 rfl rfl ?_
  refine wp3 rfl (am_getf rfl rfl) ?_
  refine wpS (st' := [.int 39]) rfl ?_
  refine wp0 rfl rfl ?_
  refine wp2 (pc' := 484) rfl rfl ?_
  refine wp1 rfl rfl ?_
  refine wp3 rfl (am_getf rfl rfl) ?_
  refine wpS (st' := [.int 39]) rfl ?_
  refine wp0 rfl rfl ?_
  refine wp2 (pc' := 509) rfl rfl ?_
  refine wp1 rfl rfl ?_
  refine wp3 rfl (am_getf rfl rfl) ?_
  refine wpS (st' := [.int 39]) rfl ?_
  refine wp0 rfl rfl ?_
  refine wp2 (pc' := 553) rfl rfl ?_
  refine wp1 rfl rfl ?_
  refine wp2 (pc' := 557) rfl rfl ?_
  refine wp1 rfl rfl ?_
  refine wp2 (pc' := 562) rfl rfl ?_
  refine wp0 rfl rfl ?_
  refine wp2 rfl rfl ?_
  exact wp5z rfl rfl b1 ⟨rfl, rfl⟩
/- FlagMachineModel.isSound -/
set_option maxRecDepth 20000 in
theorem xe_m4 (rg : Nat → Int64) (me he sk : Nat → Int32) (l1 : Int32) : tb_ev L xs 150 [.ref 24] (HH s (MC (t_thrown (mF rg me he sk) 0)) D) (some (.int 1)) (HH s (MC (t_thrown (mF rg me he sk) 0)) D) := by
  refine am_wp_ev ?_
  refine wp1 rfl rfl ?_
  refine wp3 rfl (am_getf rfl rfl) ?_
  refine wpS (st' := [.int 39]) rfl ?_
  refine wp2 (pc' := 7) rfl rfl ?_
  refine wp1 rfl rfl ?_
  refine wp3 rfl (am_getf rfl rfl) ?_
  refine wpS (st' := [.int 39]) rfl ?_
  refine wp0 rfl rfl ?_
  refine wp2 (pc' := 16) rfl rfl ?_
  refine wp1 rfl rfl ?_
  refine am_ev_at rfl rfl (xe_m2 rg me he sk l1) ?_
  refine wp2 (pc' := 23) rfl rfl ?_
  refine wp1 rfl rfl ?_
  refine am_ev_at rfl rfl (xe_m3 rg me he sk l1) ?_
  refine wp2 (pc' := 32) rfl rfl ?_
  refine wp1 rfl rfl ?_
  refine wp3 rfl (am_getf rfl rfl) ?_
  refine wpS (st' := [.int 39]) rfl ?_
  refine wp0 rfl rfl ?_
  refine wp2 (pc' := 41) rfl rfl ?_
  refine wp1 rfl rfl ?_
  refine wp3 rfl (am_getf rfl rfl) ?_
  refine wpS (st' := [.int 39]) rfl ?_
  refine wp0 rfl rfl ?_
  refine wp2 (pc' := 74) rfl rfl ?_
  refine wp1 rfl rfl ?_
  refine wp3 rfl (am_getf rfl rfl) ?_
  refine wpS (st' := [.int 0]) rfl ?_
  refine wp2 (pc' := 81) rfl rfl ?_
  refine wp0 rfl rfl ?_
  refine wp2 rfl rfl ?_
  refine wp1 rfl rfl ?_
  refine wpV (lv' := [(0, .ref 24), (1, .int 1)]) rfl ?_
  refine wp0 rfl rfl ?_
  refine wp1 rfl rfl ?_
  refine wpV (lv' := [(0, .ref 24), (1, .int 1), (2, .int 0)]) rfl ?_
  refine wp0 rfl rfl ?_
  refine wp1 rfl rfl ?_
  refine wpV (lv' := [(0, .ref 24), (1, .int 1), (2, .int 0), (3, .int 0)]) rfl ?_
  refine wp1 rfl rfl ?_
  refine wp0 rfl rfl ?_
  refine wp2 (pc' := 96) rfl rfl ?_
  refine wp1 rfl rfl ?_
  refine wp1 rfl rfl ?_
  refine wp3 rfl (am_getf rfl rfl) ?_
  refine wp1 rfl rfl ?_
  refine wp3 rfl (am_iald rfl (by decide)) ?_
  refine wpS (st' := [.int 0, .int 0]) rfl ?_
  refine wp0 rfl rfl ?_
  refine wp2 (pc' := 111) rfl rfl ?_
  refine wp0 rfl rfl ?_
  refine wp0 rfl rfl ?_
  refine wpS (st' := [.int 0]) rfl ?_
  refine wp1 rfl rfl ?_
  refine wpV (lv' := [(0, .ref 24), (1, .int 1), (2, .int 0), (3, .int 0)]) rfl ?_
  refine wp1 rfl rfl ?_
  refine wpV (lv' := [(0, .ref 24), (1, .int 1), (2, .int 0), (3, .int 1)]) rfl ?_
  refine wp2 rfl rfl ?_
  refine wp1 rfl rfl ?_
  refine wp0 rfl rfl ?_
  refine wp2 (pc' := 96) rfl rfl ?_
  refine wp1 rfl rfl ?_
  refine wp1 rfl rfl ?_
  refine wp3 rfl (am_getf rfl rfl) ?_
  refine wp1 rfl rfl ?_
  refine wp3 rfl (am_iald rfl (by decide)) ?_
  refine wpS (st' := [.int 0, .int 0]) rfl ?_
  refine wp0 rfl rfl ?_
  refine wp2 (pc' := 111) rfl rfl ?_
  refine wp0 rfl rfl ?_
  refine wp0 rfl rfl ?_
  refine wpS (st' := [.int 0]) rfl ?_
  refine wp1 rfl rfl ?_
  refine wpV (lv' := [(0, .ref 24), (1, .int 1), (2, .int 0), (3, .int 1)]) rfl ?_
  refine wp1 rfl rfl ?_
  refine wpV (lv' := [(0, .ref 24), (1, .int 1), (2, .int 0), (3, .int 2)]) rfl ?_
  refine wp2 rfl rfl ?_
  refine wp1 rfl rfl ?_
  refine wp0 rfl rfl ?_
  refine wp2 (pc' := 96) rfl rfl ?_
  refine wp1 rfl rfl ?_
  refine wp1 rfl rfl ?_
  refine wp3 rfl (am_getf rfl rfl) ?_
  refine wp1 rfl rfl ?_
  refine wp3 rfl (am_iald rfl (by decide)) ?_
  refine wpS (st' := [.int 0, .int 0]) rfl ?_
  refine wp0 rfl rfl ?_
  refine wp2 (pc' := 111) rfl rfl ?_
  refine wp0 rfl rfl ?_
  refine wp0 rfl rfl ?_
  refine wpS (st' := [.int 0]) rfl ?_
  refine wp1 rfl rfl ?_
  refine wpV (lv' := [(0, .ref 24), (1, .int 1), (2, .int 0), (3, .int 2)]) rfl ?_
  refine wp1 rfl rfl ?_
  refine wpV (lv' := [(0, .ref 24), (1, .int 1), (2, .int 0), (3, .int 3)]) rfl ?_
  refine wp2 rfl rfl ?_
  refine wp1 rfl rfl ?_
  refine wp0 rfl rfl ?_
  refine wp2 (pc' := 120) rfl rfl ?_
  refine wp1 rfl rfl ?_
  refine wp2 (pc' := 124) rfl rfl ?_
  refine wp1 rfl rfl ?_
  refine wp0 rfl rfl ?_
  refine wp2 (pc' := 129) rfl rfl ?_
  refine wp1 rfl rfl ?_
  refine wp2 (pc' := 140) rfl rfl ?_
  refine wp0 rfl rfl ?_
  refine wp2 rfl rfl ?_
  exact wp5z rfl rfl b1 ⟨rfl, rfl⟩
/- FlagMachineModel.flags -/
set_option maxRecDepth 20000 in
theorem xe_m5 (rg : Nat → Int64) (me he sk : Nat → Int32) (l1 : Int32) : tb_ev L xs 140 [.ref 24] (HH s (MC (t_haltValue (t_halt (t_length (t_thrown (mF rg me he sk) 0) l1) 0) 0)) D) (some (.long 2)) (HH s (MC (t_haltValue (t_halt (t_length (t_thrown (mF rg me he sk) 0) l1) 0) 0)) D) := by
  refine am_wp_ev ?_
  refine wp0 rfl rfl ?_
  refine wp1 rfl rfl ?_
  refine wp3 rfl (am_getf rfl rfl) ?_
  refine wpS (st' := [.int 0, .long 2]) rfl ?_
  refine wp2 (pc' := 14) rfl rfl ?_
  refine wp0 rfl rfl ?_
  refine wp0 rfl rfl ?_
  refine wpS (st' := [.long 2]) rfl ?_
  refine wp1 rfl rfl ?_
  refine wp3 rfl (am_getf rfl rfl) ?_
  refine wpS (st' := [.int 0, .long 2]) rfl ?_
  refine wp2 (pc' := 29) rfl rfl ?_
  refine wp0 rfl rfl ?_
  refine wp0 rfl rfl ?_
  refine wpS (st' := [.long 2]) rfl ?_
  refine wp1 rfl rfl ?_
  refine wp3 rfl (am_getf rfl rfl) ?_
  refine wpS (st' := [.int 0, .long 2]) rfl ?_
  refine wp2 (pc' := 44) rfl rfl ?_
  refine wp0 rfl rfl ?_
  refine wp0 rfl rfl ?_
  refine wpS (st' := [.long 2]) rfl ?_
  refine wp1 rfl rfl ?_
  refine wp3 rfl (am_getf rfl rfl) ?_
  refine wpS (st' := [.int 0, .long 2]) rfl ?_
  refine wp2 (pc' := 59) rfl rfl ?_
  refine wp0 rfl rfl ?_
  refine wp0 rfl rfl ?_
  refine wpS (st' := [.long 2]) rfl ?_
  refine wp1 rfl rfl ?_
  refine wp3 rfl (am_getf rfl rfl) ?_
  refine wpS (st' := [.int 0, .long 2]) rfl ?_
  refine wp2 (pc' := 74) rfl rfl ?_
  refine wp0 rfl rfl ?_
  refine wp0 rfl rfl ?_
  refine wpS (st' := [.long 2]) rfl ?_
  exact wp5 rfl rfl ⟨rfl, rfl⟩
/- FlagMachineModel.perform -/
set_option maxRecDepth 20000 in
theorem xe_m6 (rg : Nat → Int64) (me he sk : Nat → Int32) (l1 : Int32) (kf : Nat → Int64) : tb_ev L xs 164 [.ref 24] (HH s (MC (t_operandAt (t_ip (t_kept0 (t_haltValue (t_halt (t_length (t_thrown (mF rg me he sk) 0) l1) 0) 0) kf) (4194304 + (Int32.toInt64 l1))) 0)) D) (none) (HH s (MC (t_operandAt (t_ip (t_kept0 (t_haltValue (t_halt (t_length (t_thrown (mF rg me he sk) 0) l1) 0) 0) kf) (4194304 + (Int32.toInt64 l1))) 0)) D) := by
  refine am_wp_ev ?_
  refine wp1 rfl rfl ?_
  refine wp3 rfl (am_getf rfl rfl) ?_
  refine wpS (st' := [.int 39]) rfl ?_
  refine wp1 rfl rfl ?_
  refine wpV (lv' := [(0, .ref 24), (1, .int 39)]) rfl ?_
  refine wp1 rfl rfl ?_
  refine wp3 rfl (am_getf rfl rfl) ?_
  refine wpS (st' := [.int 0]) rfl ?_
  refine wp1 rfl rfl ?_
  refine wpV (lv' := [(0, .ref 24), (1, .int 39), (2, .int 0)]) rfl ?_
  refine wp1 rfl rfl ?_
  refine wp0 rfl rfl ?_
  refine wp2 (pc' := 16) rfl rfl ?_
  refine wp1 rfl rfl ?_
  refine wp0 rfl rfl ?_
  refine wp2 (pc' := 31) rfl rfl ?_
  refine wp1 rfl rfl ?_
  refine wp0 rfl rfl ?_
  refine wp2 (pc' := 46) rfl rfl ?_
  refine wp1 rfl rfl ?_
  refine wp0 rfl rfl ?_
  refine wp2 (pc' := 52) rfl rfl ?_
  refine wp1 rfl rfl ?_
  refine wp0 rfl rfl ?_
  refine wp2 (pc' := 58) rfl rfl ?_
  refine wp1 rfl rfl ?_
  refine wp0 rfl rfl ?_
  refine wp2 (pc' := 73) rfl rfl ?_
  refine wp1 rfl rfl ?_
  refine wp0 rfl rfl ?_
  refine wp2 (pc' := 98) rfl rfl ?_
  refine wp1 rfl rfl ?_
  refine wp0 rfl rfl ?_
  refine wp2 (pc' := 123) rfl rfl ?_
  refine wp1 rfl rfl ?_
  refine wp0 rfl rfl ?_
  refine wp2 (pc' := 137) rfl rfl ?_
  refine wp1 rfl rfl ?_
  refine wp0 rfl rfl ?_
  refine wp2 (pc' := 152) rfl rfl ?_
  refine wp1 rfl rfl ?_
  refine wp0 rfl rfl ?_
  refine wp2 (pc' := 166) rfl rfl ?_
  refine wp1 rfl rfl ?_
  refine wp0 rfl rfl ?_
  refine wp2 (pc' := 197) rfl rfl ?_
  refine wp1 rfl rfl ?_
  refine wp0 rfl rfl ?_
  refine wp2 (pc' := 211) rfl rfl ?_
  refine wp1 rfl rfl ?_
  refine wp0 rfl rfl ?_
  refine wp2 (pc' := 226) rfl rfl ?_
  refine wp1 rfl rfl ?_
  refine wp0 rfl rfl ?_
  refine wp2 (pc' := 242) rfl rfl ?_
  refine wp1 rfl rfl ?_
  refine wp0 rfl rfl ?_
  refine wp2 (pc' := 257) rfl rfl ?_
  refine wp1 rfl rfl ?_
  refine wp0 rfl rfl ?_
  refine wp2 (pc' := 270) rfl rfl ?_
  refine wp1 rfl rfl ?_
  refine wp0 rfl rfl ?_
  refine wp2 (pc' := 301) rfl rfl ?_
  refine wp1 rfl rfl ?_
  refine wp0 rfl rfl ?_
  refine wp2 (pc' := 322) rfl rfl ?_
  refine wp1 rfl rfl ?_
  refine wp0 rfl rfl ?_
  refine wp2 (pc' := 328) rfl rfl ?_
  refine wp1 rfl rfl ?_
  refine wp0 rfl rfl ?_
  refine wp2 (pc' := 343) rfl rfl ?_
  refine wp1 rfl rfl ?_
  refine wp0 rfl rfl ?_
  refine wp2 (pc' := 355) rfl rfl ?_
  exact wp5 rfl rfl ⟨rfl, rfl⟩
set_option maxRecDepth 20000 in
theorem y1_step (rg : Nat → Int64) (me he sk : Nat → Int32) (l1 : Int32) : tb_wp L xs 182 0 (lv_args 0 [.ref 24, .int l1]) [] (HH s (MC (mF rg me he sk)) D) (NX s D (stF l1)) := by
  refine wp1 rfl rfl ?_
  refine wp0 rfl rfl ?_
  refine wp3 rfl (am_putf rfl (Nat.le_of_ble_eq_true rfl) rfl rfl) ?_
  refine wpH (h' := HH s (MC (t_thrown (mF rg me he sk) 0)) D) rfl ?_
  refine wp1 rfl rfl ?_
  refine wp0 rfl rfl ?_
  refine wp2b rfl rfl (fun c1 => ?_) (fun c1 => ?_)
  · refine wp0 rfl rfl ?_
    exact wp5i rfl rfl ⟨(t_thrown (mF rg me he sk) 0), (K_F rg me he sk), rfl, by simp only [stF, if_pos c1]⟩
  · refine wp1 rfl rfl ?_
    refine wp0 rfl rfl ?_
    refine wp2b rfl rfl (fun c2 => ?_) (fun c2 => ?_)
    · refine wp0 rfl rfl ?_
      exact wp5i rfl rfl ⟨(t_thrown (mF rg me he sk) 0), (K_F rg me he sk), rfl, by simp only [stF, if_neg c1, if_pos c2]⟩
    · refine wp1 rfl rfl ?_
      refine wp3 rfl (am_getf rfl rfl) ?_
      refine wpS (st' := [.int 0]) rfl ?_
      refine wp0 rfl rfl ?_
      refine wp2 (pc' := 24) rfl rfl ?_
      refine wp1 rfl rfl ?_
      refine am_ev_at rfl rfl (xe_m4 rg me he sk l1) ?_
      refine wp2 (pc' := 33) rfl rfl ?_
      refine wp1 rfl rfl ?_
      refine wp1 rfl rfl ?_
      refine wp3 rfl (am_putf rfl (Nat.le_of_ble_eq_true rfl) rfl rfl) ?_
      refine wpH (h' := HH s (MC (t_length (t_thrown (mF rg me he sk) 0) l1)) D) rfl ?_
      refine wp1 rfl rfl ?_
      refine wp0 rfl rfl ?_
      refine wp3 rfl (am_putf rfl (Nat.le_of_ble_eq_true rfl) rfl rfl) ?_
      refine wpH (h' := HH s (MC (t_halt (t_length (t_thrown (mF rg me he sk) 0) l1) 0)) D) rfl ?_
      refine wp1 rfl rfl ?_
      refine wp0 rfl rfl ?_
      refine wp3 rfl (am_putf rfl (Nat.le_of_ble_eq_true rfl) rfl rfl) ?_
      refine wpH (h' := HH s (MC (t_haltValue (t_halt (t_length (t_thrown (mF rg me he sk) 0) l1) 0) 0)) D) rfl ?_
      refine wp1 rfl rfl ?_
      refine wp3 rfl (am_getf rfl rfl) ?_
      refine wpS (st' := [.long 4194304]) rfl ?_
      refine wp1 rfl rfl ?_
      refine wpV (lv' := [(0, .ref 24), (1, .int l1), (2, .long 4194304)]) rfl ?_
      refine wp1 rfl rfl ?_
      refine am_ev_at rfl rfl (xe_m5 rg me he sk l1) ?_
      refine wp1 rfl rfl ?_
      refine wpV (lv' := [(0, .ref 24), (1, .int l1), (2, .long 4194304), (4, .long 2)]) rfl ?_
      refine wp0 rfl rfl ?_
      refine wp1 rfl rfl ?_
      refine wpV (lv' := [(0, .ref 24), (1, .int l1), (2, .long 4194304), (4, .long 2), (6, .int 0)]) rfl ?_
      refine wpH (h' := HH s (MC (t_kept0 (t_haltValue (t_halt (t_length (t_thrown (mF rg me he sk) 0) l1) 0) 0) (q_kept0 (t_haltValue (t_halt (t_length (t_thrown (mF rg me he sk) 0) l1) 0) 0)))) D) rfl ?_
      refine wpL rfl rfl (kp_62 (fun kf i1 => ?_) _ _ 0 (by decide) (Nat.lt_succ_self _))
      refine wp1 rfl rfl ?_
      refine wp0 rfl rfl ?_
      refine wp3 rfl (am_getf rfl rfl) ?_
      refine wpS (st' := [.long 4194304, .ref 24]) rfl ?_
      refine wp1 rfl rfl ?_
      refine wp3 rfl (am_getf rfl rfl) ?_
      refine wpS (st' := [.int l1, .long 4194304, .ref 24]) rfl ?_
      refine wp0 rfl rfl ?_
      refine wp0 rfl rfl ?_
      refine wp3 rfl (am_putf rfl (Nat.le_of_ble_eq_true rfl) rfl rfl) ?_
      refine wpH (h' := HH s (MC (t_ip (t_kept0 (t_haltValue (t_halt (t_length (t_thrown (mF rg me he sk) 0) l1) 0) 0) kf) (4194304 + (Int32.toInt64 l1)))) D) rfl ?_
      refine wp1 rfl rfl ?_
      refine wp1 rfl rfl ?_
      refine wp3 rfl (am_getf rfl rfl) ?_
      refine wp0 rfl rfl ?_
      refine wp3 rfl (am_iald rfl (by decide)) ?_
      refine wpS (st' := [.int 0, .ref 24]) rfl ?_
      refine wp0 rfl rfl ?_
      refine wp2 (pc' := 114) rfl rfl ?_
      refine wp1 rfl rfl ?_
      refine wp3 rfl (am_getf rfl rfl) ?_
      refine wp0 rfl rfl ?_
      refine wp3 rfl (am_iald rfl (by decide)) ?_
      refine wpS (st' := [.int 0, .ref 24]) rfl ?_
      refine wp0 rfl rfl ?_
      refine wp2 (pc' := 124) rfl rfl ?_
      refine wp1 rfl rfl ?_
      refine wp3 rfl (am_getf rfl rfl) ?_
      refine wp0 rfl rfl ?_
      refine wp3 rfl (am_iald rfl (by decide)) ?_
      refine wpS (st' := [.int 0, .ref 24]) rfl ?_
      refine wp0 rfl rfl ?_
      refine wp2 (pc' := 141) rfl rfl ?_
      refine wp0 rfl rfl ?_
      refine wp3 rfl (am_putf rfl (Nat.le_of_ble_eq_true rfl) rfl rfl) ?_
      refine wpH (h' := HH s (MC (t_operandAt (t_ip (t_kept0 (t_haltValue (t_halt (t_length (t_thrown (mF rg me he sk) 0) l1) 0) 0) kf) (4194304 + (Int32.toInt64 l1))) 0)) D) rfl ?_
      refine wp1 rfl rfl ?_
      refine am_ev_at rfl rfl (xe_m6 rg me he sk l1 kf) ?_
      refine wp1 rfl rfl ?_
      refine wp1 rfl rfl ?_
      refine wp3 rfl (am_getf rfl rfl) ?_
      refine wpS (st' := [.int 0, .ref 24]) rfl ?_
      refine wp3 rfl (am_putf rfl (Nat.le_of_ble_eq_true rfl) rfl rfl) ?_
      refine wpH (h' := HH s (MC (t_stopKind (t_operandAt (t_ip (t_kept0 (t_haltValue (t_halt (t_length (t_thrown (mF rg me he sk) 0) l1) 0) 0) kf) (4194304 + (Int32.toInt64 l1))) 0) 0)) D) rfl ?_
      refine wp1 rfl rfl ?_
      refine wp1 rfl rfl ?_
      refine wp3 rfl (am_getf rfl rfl) ?_
      refine wpS (st' := [.long 0, .ref 24]) rfl ?_
      refine wp3 rfl (am_putf rfl (Nat.le_of_ble_eq_true rfl) rfl rfl) ?_
      refine wpH (h' := HH s (MC (t_stopValue (t_stopKind (t_operandAt (t_ip (t_kept0 (t_haltValue (t_halt (t_length (t_thrown (mF rg me he sk) 0) l1) 0) 0) kf) (4194304 + (Int32.toInt64 l1))) 0) 0) 0)) D) rfl ?_
      refine wp1 rfl rfl ?_
      refine wp3 rfl (am_getf rfl rfl) ?_
      refine wpS (st' := [.int 0]) rfl ?_
      refine wp2 (pc' := 189) rfl rfl ?_
      refine wp1 rfl rfl ?_
      refine wp0 rfl rfl ?_
      refine wp3 rfl (am_getf rfl rfl) ?_
      refine wpS (st' := [.long 0, .ref 24]) rfl ?_
      refine wp0 rfl rfl ?_
      refine wp0 rfl rfl ?_
      refine wpS (st' := [.long 1, .ref 24]) rfl ?_
      refine wp3 rfl (am_putf rfl (Nat.le_of_ble_eq_true rfl) rfl rfl) ?_
      refine wpH (h' := HH s (MC (t_stepsDone (t_stopValue (t_stopKind (t_operandAt (t_ip (t_kept0 (t_haltValue (t_halt (t_length (t_thrown (mF rg me he sk) 0) l1) 0) 0) kf) (4194304 + (Int32.toInt64 l1))) 0) 0) 0) 1)) D) rfl ?_
      refine wp1 rfl rfl ?_
      refine wp3 rfl (am_getf rfl rfl) ?_
      refine wpS (st' := [.int 0]) rfl ?_
      exact wp5i rfl rfl ⟨(t_stepsDone (t_stopValue (t_stopKind (t_operandAt (t_ip (t_kept0 (t_haltValue (t_halt (t_length (t_thrown (mF rg me he sk) 0) l1) 0) 0) kf) (4194304 + (Int32.toInt64 l1))) 0) 0) 0) 1), (K_F rg me he sk), rfl, by simp only [stF, if_neg c1, if_neg c2]⟩
set_option maxRecDepth 20000 in
theorem y1_output (rg : Nat → Int64) (me he sk : Nat → Int32) (l1 : Int32) : tb_wp L xs 162 0 (lv_args 0 [.ref 24, .int l1]) [] (HH s (MC (mF rg me he sk)) D) (NX s D (ouF l1)) := by
  refine wp1 rfl rfl ?_
  refine wp0 rfl rfl ?_
  refine wp3 rfl (am_putf rfl (Nat.le_of_ble_eq_true rfl) rfl rfl) ?_
  refine wpH (h' := HH s (MC (t_thrown (mF rg me he sk) 0)) D) rfl ?_
  refine wp1 rfl rfl ?_
  refine wp0 rfl rfl ?_
  refine wp2b rfl rfl (fun c1 => ?_) (fun c1 => ?_)
  · refine wp1 rfl rfl ?_
    refine wp3 rfl (am_getf rfl rfl) ?_
    refine wpS (st' := [.int 0]) rfl ?_
    refine wp2 rfl rfl ?_
    exact wp5i rfl rfl ⟨(t_thrown (mF rg me he sk) 0), (K_F rg me he sk), rfl, by simp only [ouF, if_pos c1]⟩
  · refine wp1 rfl rfl ?_
    refine wp2b rfl rfl (fun c2 => ?_) (fun c2 => ?_)
    · refine wp0 rfl rfl ?_
      exact wp5i rfl rfl ⟨(t_thrown (mF rg me he sk) 0), (K_F rg me he sk), rfl, by simp only [ouF, if_neg c1, if_pos c2]⟩
    · refine wp1 rfl rfl ?_
      refine wp1 rfl rfl ?_
      refine wp3 rfl (am_getf rfl rfl) ?_
      refine wpS (st' := [.int 0, .int l1]) rfl ?_
      refine wp2b rfl rfl (fun c3 => ?_) (fun c3 => absurd (i32_nlt c2) c3)
      refine wp0 rfl rfl ?_
      exact wp5i rfl rfl ⟨(t_thrown (mF rg me he sk) 0), (K_F rg me he sk), rfl, by simp only [ouF, if_neg c1, if_neg c2, if_pos c3]⟩
/- FlagMachineModel.flags -/
set_option maxRecDepth 20000 in
theorem xe_m7 (rg : Nat → Int64) (me he sk : Nat → Int32) (hrg : ∀ n, rg n = R0 n) (l1 : Int32) : tb_ev L xs 140 [.ref 24] (HH s (MC (t_thrown (mF rg me he sk) 0)) D) (some (.long 2)) (HH s (MC (t_thrown (mF rg me he sk) 0)) D) := by
  refine am_wp_ev ?_
  refine wp0 rfl rfl ?_
  refine wp1 rfl rfl ?_
  refine wp3 rfl (am_getf rfl rfl) ?_
  refine wpS (st' := [.int 0, .long 2]) rfl ?_
  refine wp2 (pc' := 14) rfl rfl ?_
  refine wp0 rfl rfl ?_
  refine wp0 rfl rfl ?_
  refine wpS (st' := [.long 2]) rfl ?_
  refine wp1 rfl rfl ?_
  refine wp3 rfl (am_getf rfl rfl) ?_
  refine wpS (st' := [.int 0, .long 2]) rfl ?_
  refine wp2 (pc' := 29) rfl rfl ?_
  refine wp0 rfl rfl ?_
  refine wp0 rfl rfl ?_
  refine wpS (st' := [.long 2]) rfl ?_
  refine wp1 rfl rfl ?_
  refine wp3 rfl (am_getf rfl rfl) ?_
  refine wpS (st' := [.int 0, .long 2]) rfl ?_
  refine wp2 (pc' := 44) rfl rfl ?_
  refine wp0 rfl rfl ?_
  refine wp0 rfl rfl ?_
  refine wpS (st' := [.long 2]) rfl ?_
  refine wp1 rfl rfl ?_
  refine wp3 rfl (am_getf rfl rfl) ?_
  refine wpS (st' := [.int 0, .long 2]) rfl ?_
  refine wp2 (pc' := 59) rfl rfl ?_
  refine wp0 rfl rfl ?_
  refine wp0 rfl rfl ?_
  refine wpS (st' := [.long 2]) rfl ?_
  refine wp1 rfl rfl ?_
  refine wp3 rfl (am_getf rfl rfl) ?_
  refine wpS (st' := [.int 0, .long 2]) rfl ?_
  refine wp2 (pc' := 74) rfl rfl ?_
  refine wp0 rfl rfl ?_
  refine wp0 rfl rfl ?_
  refine wpS (st' := [.long 2]) rfl ?_
  exact wp5 rfl rfl ⟨rfl, rfl⟩
/- FlagMachineModel.heapBegin -/
set_option maxRecDepth 20000 in
theorem xe_m8 (rg : Nat → Int64) (me he sk : Nat → Int32) (hrg : ∀ n, rg n = R0 n) (l1 : Int32) : tb_ev L xs 142 [.ref 24] (HH s (MC (t_thrown (mF rg me he sk) 0)) D) (some (.long 4194304)) (HH s (MC (t_thrown (mF rg me he sk) 0)) D) := by
  refine am_wp_ev ?_
  refine wp0 rfl rfl ?_
  refine wp1 rfl rfl ?_
  refine wp3 rfl (am_getf rfl rfl) ?_
  refine wpS (st' := [.int 0, .long 4194304]) rfl ?_
  refine wp0 rfl rfl ?_
  refine wp0 rfl rfl ?_
  refine wpS (st' := [.int 4095, .long 4194304]) rfl ?_
  refine wp0 rfl rfl ?_
  refine wp0 rfl rfl ?_
  refine wpS (st' := [.int 0, .long 4194304]) rfl ?_
  refine wp0 rfl rfl ?_
  refine wpS (st' := [.long 0, .long 4194304]) rfl ?_
  refine wp0 rfl rfl ?_
  refine wpS (st' := [.long 4194304]) rfl ?_
  exact wp5 rfl rfl ⟨rfl, rfl⟩
set_option maxRecDepth 20000 in
theorem y1_register (rg : Nat → Int64) (me he sk : Nat → Int32) (hrg : ∀ n, rg n = R0 n) (l1 : Int32) : tb_wp L xs 170 0 (lv_args 0 [.ref 24, .int l1]) [] (HH s (MC (mF rg me he sk)) D) (NXl s D (rgF l1)) := by
  refine wp1 rfl rfl ?_
  refine wp0 rfl rfl ?_
  refine wp3 rfl (am_putf rfl (Nat.le_of_ble_eq_true rfl) rfl rfl) ?_
  refine wpH (h' := HH s (MC (t_thrown (mF rg me he sk) 0)) D) rfl ?_
  refine wp1 rfl rfl ?_
  refine wp2b rfl rfl (fun c1 => ?_) (fun c1 => ?_)
  · refine wp1 rfl rfl ?_
    refine wp0 rfl rfl ?_
    refine wp2b rfl rfl (fun c2 => ?_) (fun c2 => ?_)
    · refine wp1 rfl rfl ?_
      refine wp3 rfl (am_getf rfl rfl) ?_
      refine wpS (st' := [.long 4194304]) rfl ?_
      refine wp2 rfl rfl ?_
      exact wp5 rfl rfl ⟨(t_thrown (mF rg me he sk) 0), (K_F rg me he sk), rfl, by simp only [rgF, rgT, hrg, if_pos c1, if_pos c2]⟩
    · refine wp1 rfl rfl ?_
      refine wp0 rfl rfl ?_
      refine wp2b rfl rfl (fun c3 => ?_) (fun c3 => ?_)
      · refine wp1 rfl rfl ?_
        refine am_ev_at rfl rfl (xe_m7 rg me he sk hrg l1) ?_
        refine wp2 rfl rfl ?_
        exact wp5 rfl rfl ⟨(t_thrown (mF rg me he sk) 0), (K_F rg me he sk), rfl, by simp only [rgF, rgT, hrg, if_pos c1, if_neg c2, if_pos c3]⟩
      · refine wp1 rfl rfl ?_
        refine wp0 rfl rfl ?_
        refine wp2b rfl rfl (fun c4 => ?_) (fun c4 => ?_)
        · refine wp1 rfl rfl ?_
          refine am_ev_at rfl rfl (xe_m8 rg me he sk hrg l1) ?_
          refine wp1 rfl rfl ?_
          refine wp3 rfl (am_getf rfl rfl) ?_
          refine wpS (st' := [.int 0, .long 4194304]) rfl ?_
          refine wp0 rfl rfl ?_
          refine wpS (st' := [.long 0, .long 4194304]) rfl ?_
          refine wp0 rfl rfl ?_
          refine wpS (st' := [.long 4194304]) rfl ?_
          refine wp2 rfl rfl ?_
          exact wp5 rfl rfl ⟨(t_thrown (mF rg me he sk) 0), (K_F rg me he sk), rfl, by simp only [rgF, rgT, hrg, if_pos c1, if_neg c2, if_neg c3, if_pos c4]⟩
        · refine wp1 rfl rfl ?_
          refine wp0 rfl rfl ?_
          refine wp2b rfl rfl (fun c5 => ?_) (fun c5 => ?_)
          · refine wp1 rfl rfl ?_
            refine wp3 rfl (am_getf rfl rfl) ?_
            refine wpS (st' := [.long 0]) rfl ?_
            refine wp2 rfl rfl ?_
            exact wp5 rfl rfl ⟨(t_thrown (mF rg me he sk) 0), (K_F rg me he sk), rfl, by simp only [rgF, rgT, hrg, if_pos c1, if_neg c2, if_neg c3, if_neg c4, if_pos c5]⟩
          · refine wp0 rfl rfl ?_
            exact wp5 rfl rfl ⟨(t_thrown (mF rg me he sk) 0), (K_F rg me he sk), rfl, by simp only [rgF, rgT, hrg, if_pos c1, if_neg c2, if_neg c3, if_neg c4, if_neg c5]⟩
  · refine wp1 rfl rfl ?_
    refine wp0 rfl rfl ?_
    refine wp2b rfl rfl (fun c6 => ?_) (fun c6 => ?_)
    · refine wp1 rfl rfl ?_
      refine wp0 rfl rfl ?_
      refine wp2b rfl rfl (fun c7 => ?_) (fun c7 => ?_)
      · refine wp1 rfl rfl ?_
        refine wp3 rfl (am_getf rfl rfl) ?_
        refine wpS (st' := [.long 4194304]) rfl ?_
        refine wp2 rfl rfl ?_
        exact wp5 rfl rfl ⟨(t_thrown (mF rg me he sk) 0), (K_F rg me he sk), rfl, by simp only [rgF, rgT, hrg, if_neg c1, if_pos c6, if_pos c7]⟩
      · refine wp1 rfl rfl ?_
        refine wp0 rfl rfl ?_
        refine wp2b rfl rfl (fun c8 => ?_) (fun c8 => ?_)
        · refine wp1 rfl rfl ?_
          refine am_ev_at rfl rfl (xe_m7 rg me he sk hrg l1) ?_
          refine wp2 rfl rfl ?_
          exact wp5 rfl rfl ⟨(t_thrown (mF rg me he sk) 0), (K_F rg me he sk), rfl, by simp only [rgF, rgT, hrg, if_neg c1, if_pos c6, if_neg c7, if_pos c8]⟩
        · refine wp1 rfl rfl ?_
          refine wp0 rfl rfl ?_
          refine wp2b rfl rfl (fun c9 => ?_) (fun c9 => ?_)
          · refine wp1 rfl rfl ?_
            refine am_ev_at rfl rfl (xe_m8 rg me he sk hrg l1) ?_
            refine wp1 rfl rfl ?_
            refine wp3 rfl (am_getf rfl rfl) ?_
            refine wpS (st' := [.int 0, .long 4194304]) rfl ?_
            refine wp0 rfl rfl ?_
            refine wpS (st' := [.long 0, .long 4194304]) rfl ?_
            refine wp0 rfl rfl ?_
            refine wpS (st' := [.long 4194304]) rfl ?_
            refine wp2 rfl rfl ?_
            exact wp5 rfl rfl ⟨(t_thrown (mF rg me he sk) 0), (K_F rg me he sk), rfl, by simp only [rgF, rgT, hrg, if_neg c1, if_pos c6, if_neg c7, if_neg c8, if_pos c9]⟩
          · refine wp1 rfl rfl ?_
            refine wp0 rfl rfl ?_
            refine wp2b rfl rfl (fun c10 => ?_) (fun c10 => ?_)
            · refine wp1 rfl rfl ?_
              refine wp3 rfl (am_getf rfl rfl) ?_
              refine wpS (st' := [.long 0]) rfl ?_
              refine wp2 rfl rfl ?_
              exact wp5 rfl rfl ⟨(t_thrown (mF rg me he sk) 0), (K_F rg me he sk), rfl, by simp only [rgF, rgT, hrg, if_neg c1, if_pos c6, if_neg c7, if_neg c8, if_neg c9, if_pos c10]⟩
            · refine wp0 rfl rfl ?_
              exact wp5 rfl rfl ⟨(t_thrown (mF rg me he sk) 0), (K_F rg me he sk), rfl, by simp only [rgF, rgT, hrg, if_neg c1, if_pos c6, if_neg c7, if_neg c8, if_neg c9, if_neg c10]⟩
    · refine wp1 rfl rfl ?_
      refine wp3 rfl (am_getf rfl rfl) ?_
      refine wp1 rfl rfl ?_
      refine wp3 rfl (am_lald rfl (r16 c1 c6)) ?_
      exact wp5 rfl rfl ⟨(t_thrown (mF rg me he sk) 0), (K_F rg me he sk), rfl, by show some (Value.long (rg (Int32.toNatClampNeg l1))) = _; simp only [rgF, rgT, hrg, if_neg c1, if_neg c6]⟩
set_option maxRecDepth 20000 in
theorem in_loop1 (n : Nat) : ∀ {m : ms} (hJ : K m) (a : Int64) (k : Int32) (hk : k.toInt < 8) (hg : (q_givenSize m).toInt + k.toInt + 1 ≤ 65536) (hm : (k.toInt + 1).toNat < n), tb_wp L xs 145 34 [(0, .ref 24), (1, .long a), (4, .int k)] [] (HH s (MC m) D) (NX s D 1) := by
  induction n with
  | zero => intro m hJ a k hk hg hm; exact absurd hm (Nat.not_lt_zero _)
  | succ n ih =>
    intro m hJ a k hk hg hm
    refine wp1 rfl rfl ?_
    refine wp2b rfl rfl (fun c1 => ?_) (fun c1 => ?_)
    · refine wp0 rfl rfl ?_
      exact wp5z rfl rfl b1 ⟨_, hJ, rfl, rfl⟩
    · have hk0 : 0 ≤ k.toInt := by
        have g1 : ¬ k.toInt < 0 := fun z => c1 (Int32.lt_iff_toInt_lt.mpr z)
        omega
      have hb := hJ.2.2.2.2.2.2.2.2.1
      have hb1 : 0 ≤ (q_givenSize m).toInt := hb.1
      have e1 : (q_givenSize m + 1).toInt = (q_givenSize m).toInt + 1 := i32_addI (b := 1) (by show -2147483648 ≤ (q_givenSize m).toInt + 1; omega) (by show (q_givenSize m).toInt + 1 < 2147483648; omega)
      have e2 : (k + -1).toInt = k.toInt - 1 := i32_addI (b := -1) (by show -2147483648 ≤ k.toInt + -1; omega) (by show k.toInt + -1 < 2147483648; omega)
      refine wp1 rfl rfl ?_
      refine wp3 rfl (am_getf rfl rfl) ?_
      refine wp1 rfl rfl ?_
      refine wp3 rfl (am_getf rfl rfl) ?_
      refine wp1 rfl rfl ?_
      refine wp0 rfl rfl ?_
      refine wp1 rfl rfl ?_
      refine wp0 rfl rfl ?_
      refine wp0 rfl rfl ?_
      refine wp0 rfl rfl ?_
      refine wp0 rfl rfl ?_
      refine wpTi (fun y ey => ?_)
      refine wp3 rfl (am_bast rfl (am_in_of hb1 (by show (q_givenSize m).toInt < 65536; omega))) ?_
      refine wpH (h' := HH s (MC (t_given m (upd (q_given m) (q_givenSize m).toNatClampNeg (vp_nar .byte y)))) D) rfl ?_
      refine wp1 rfl rfl ?_
      refine wp0 rfl rfl ?_
      refine wp3 rfl (am_getf rfl rfl) ?_
      refine wp0 rfl rfl ?_
      refine wp0 rfl rfl ?_
      refine wp3 rfl (am_putf rfl (Nat.le_of_ble_eq_true rfl) rfl rfl) ?_
      refine wpH (h' := HH s (MC (t_givenSize (t_given m (upd (q_given m) (q_givenSize m).toNatClampNeg (vp_nar .byte y))) (q_givenSize m + 1))) D) rfl ?_
      have hJ2 : K (t_givenSize (t_given m (upd (q_given m) (q_givenSize m).toNatClampNeg (vp_nar .byte y))) (q_givenSize m + 1)) := ⟨hJ.1, hJ.2.1, hJ.2.2.1, hJ.2.2.2.1, hJ.2.2.2.2.1, hJ.2.2.2.2.2.1, hJ.2.2.2.2.2.2.1, hJ.2.2.2.2.2.2.2.1, ⟨by show 0 ≤ (q_givenSize m + 1).toInt; omega, by show (q_givenSize m + 1).toInt ≤ 65536; omega⟩, hJ.2.2.2.2.2.2.2.2.2⟩
      refine wp1 rfl rfl ?_
      refine wpV (lv' := [(0, .ref 24), (1, .long a), (4, .int (k + -1))]) rfl ?_
      refine wp2 rfl rfl ?_
      exact wpL rfl rfl (ih hJ2 a (k + -1) (by omega) (by show (q_givenSize m + 1).toInt + (k + -1).toInt + 1 ≤ 65536; omega) (i32_down c1 hm))
set_option maxRecDepth 20000 in
theorem y1_input {m : ms} (hJ : K m) (hg : (q_givenSize m).toInt = 0) (a : Int64) (n : Int32) : tb_wp L xs 145 0 (lv_args 0 [.ref 24, .long a, .int n]) [] (HH s (MC m) D) (NX s D (inF n)) := by
  refine wp1 rfl rfl ?_
  refine wp0 rfl rfl ?_
  refine wp3 rfl (am_putf rfl (Nat.le_of_ble_eq_true rfl) rfl rfl) ?_
  have hJ1 : K (t_thrown m 0) := hJ
  refine wpH (h' := HH s (MC (t_thrown m 0)) D) rfl ?_
  refine wp1 rfl rfl ?_
  refine wp0 rfl rfl ?_
  refine wp2b rfl rfl (fun c1 => ?_) (fun c1 => ?_)
  · refine wp0 rfl rfl ?_
    exact wp5z rfl rfl b0 ⟨_, hJ1, rfl, by simp only [inF, if_pos c1]⟩
  · refine wp1 rfl rfl ?_
    refine wp0 rfl rfl ?_
    refine wp2b rfl rfl (fun c2 => ?_) (fun c2 => ?_)
    · refine wp0 rfl rfl ?_
      exact wp5z rfl rfl b0 ⟨_, hJ1, rfl, by simp only [inF, if_neg c1, if_pos c2]⟩
    · refine wp1 rfl rfl ?_
      refine wp3 rfl (am_getf rfl rfl) ?_
      refine wp1 rfl rfl ?_
      refine wp0 rfl rfl ?_
      refine wp0 rfl rfl ?_
      refine wp2b rfl rfl (fun c3 => ?_) (fun c3 => ?_)
      · have g1 : 1 ≤ n.toInt := by
          have : ¬ n.toInt < 1 := fun z => c1 (Int32.lt_iff_toInt_lt.mpr z)
          omega
        have g2 : n.toInt ≤ 8 := by
          have : ¬ 8 < n.toInt := fun z => c2 (Int32.lt_iff_toInt_lt.mpr z)
          omega
        have hb : 0 ≤ (q_givenSize m).toInt ∧ (q_givenSize m).toInt ≤ 65536 := hJ.2.2.2.2.2.2.2.2.1
        have e1 : (q_givenSize m + n).toInt = (q_givenSize m).toInt + n.toInt := i32_addI (by omega) (by omega)
        have g3 : (q_givenSize m + n).toInt ≤ 65536 := Int32.le_iff_toInt_le.mp c3
        have e2 : (n - 1).toInt = n.toInt - 1 := i32_subI (b := 1) (by show -2147483648 ≤ n.toInt - 1; omega) (by show n.toInt - 1 < 2147483648; omega)
        refine wp1 rfl rfl ?_
        refine wp0 rfl rfl ?_
        refine wp0 rfl rfl ?_
        refine wp1 rfl rfl ?_
        refine wpV (lv' := [(0, .ref 24), (1, .long a), (3, .int n), (4, .int (n - 1))]) rfl ?_
        rw [show inF n = 1 from by simp only [inF, if_neg c1, if_neg c2]]
        exact wpL rfl rfl (in_loop1 _ hJ1 a (n - 1) (by omega) (by show (q_givenSize m).toInt + (n - 1).toInt + 1 ≤ 65536; omega) (Nat.lt_succ_self _))
      · exfalso
        have g1 : 1 ≤ n.toInt := by
          have : ¬ n.toInt < 1 := fun z => c1 (Int32.lt_iff_toInt_lt.mpr z)
          omega
        have g2 : n.toInt ≤ 8 := by
          have : ¬ 8 < n.toInt := fun z => c2 (Int32.lt_iff_toInt_lt.mpr z)
          omega
        have e1 : (q_givenSize m + n).toInt = (q_givenSize m).toInt + n.toInt := i32_addI (by omega) (by omega)
        have g3 : ¬ (q_givenSize m + n).toInt ≤ 65536 := fun z => c3 (Int32.le_iff_toInt_le.mpr z)
        omega
/-- the addresses of the stack -/
def inS (a : Int64) : Prop := 2147414016 ≤ a.toInt ∧ a.toInt < 2147479552
theorem cmp_lt0 {x y : Int64} (h : lg_cmp x y < 0) : x.toInt < y.toInt := by
  rw [lg_cmp_lt, Int64.lt_iff_toInt_lt] at h
  exact h
theorem cmp_nlt {x y : Int64} (h : ¬ lg_cmp x y < 0) : y.toInt ≤ x.toInt := by
  rw [lg_cmp_lt, Int64.lt_iff_toInt_lt] at h
  omega
theorem cmp_ge0 {x y : Int64} (h : 0 ≤ lg_cmp x y) : y.toInt ≤ x.toInt := by
  rw [lg_cmp_ge, Int64.le_iff_toInt_le] at h
  exact h
theorem fd3_in {a : Int64} (h : inS a) : 2097152 ≤ (fd3 a).toInt := by
  have e0 : (0 : Int64).toInt = 0 := rfl
  have e1 : (65536 : Int64).toInt = 65536 := rfl
  have e2 : (2147414016 : Int64).toInt = 2147414016 := rfl
  have e3 : (a - 2147414016).toInt = a.toInt - 2147414016 := by
    rw [Int64.toInt_sub, e2]
    exact Int.bmod_eq_of_le (by have := h.1; omega) (by have := h.2; omega)
  have h1 := h.1
  have h2 := h.2
  unfold fd3
  split
  · rename_i c
    have := cmp_lt0 c
    omega
  · split
    · rename_i c
      have := cmp_ge0 c
      omega
    · have g3 : (Int64.toInt32 (a - 2147414016)).toInt = (a - 2147414016).toInt := l2iI (by omega) (by omega)
      have g4 := or_ge (c := 2097152) (y := Int64.toInt32 (a - 2147414016)) (by decide) (by omega)
      have e4 : (2097152 : Int32).toInt = 2097152 := rfl
      omega
theorem fd3_out {a : Int64} (h : ¬ inS a) : fd3 a = -1 := by
  have e0 : (0 : Int64).toInt = 0 := rfl
  have e1 : (65536 : Int64).toInt = 65536 := rfl
  have e2 : (2147414016 : Int64).toInt = 2147414016 := rfl
  unfold fd3
  split
  · rfl
  · rename_i c1
    split
    · rfl
    · rename_i c2
      exfalso
      have g1 := nlt0 c1
      have g2 := nge c2
      have b1 := Int64.le_toInt a
      have b2 := Int64.toInt_lt a
      rw [Int64.toInt_sub, e2, Int.bmod_def] at g1 g2
      apply h
      unfold inS
      omega
theorem fd_zero (a : Int64) (w : Int32) : fd (0, 0, 0, 0, 0, 0, 0) a w = fd3 a := by
  have h2 : fd2 (0, 0, 0, 0, 0, 0, 0) a = fd3 a := by
    unfold fd2
    split
    · rfl
    · rename_i c1
      split
      · rfl
      · rename_i c2
        have g1 := nlt0 c1
        have g2 := nge c2
        have e : (Int32.toInt64 0).toInt = 0 := rfl
        exact absurd g1 (by rw [e] at g2; omega)
  unfold fd
  split
  · exact h2
  · rename_i c1
    split
    · exact h2
    · rename_i c2
      have g1 := nlt0 c1
      have g2 := nge c2
      have e : (Int32.toInt64 0).toInt = 0 := rfl
      exact absurd g1 (by rw [e] at g2; omega)
set_option maxRecDepth 20000 in
theorem pl_byte0 {m : ms} (hz : ∀ n, q_stack m n = 0) (p : Int32) (h : 2097152 ≤ p.toInt) : tb_wp L xs 133 0 (lv_args 0 [.ref 24, .int p]) [] (HH s (MC m) D) (fun v h => h = HH s (MC m) D ∧ v = some (.int 0)) := by
  have g1 : (1048576 : Int32) ≤ p := Int32.le_iff_toInt_le.mpr (by have e : (1048576 : Int32).toInt = 1048576 := rfl; omega)
  have g2 : (2097152 : Int32) ≤ p := Int32.le_iff_toInt_le.mpr (by have e : (2097152 : Int32).toInt = 2097152 := rfl; omega)
  refine wp1 rfl rfl ?_
  refine wp0 rfl rfl ?_
  refine wp2b rfl rfl (fun c1 => ?_) (fun c1 => absurd g1 c1)
  refine wp1 rfl rfl ?_
  refine wp0 rfl rfl ?_
  refine wp2b rfl rfl (fun c2 => ?_) (fun c2 => absurd g2 c2)
  refine wp1 rfl rfl ?_
  refine wp3 rfl (am_getf rfl rfl) ?_
  refine wp1 rfl rfl ?_
  refine wp0 rfl rfl ?_
  refine wp0 rfl rfl ?_
  refine wp3 rfl (am_bald rfl (and16_in p)) ?_
  refine wp0 rfl rfl ?_
  refine wp0 rfl rfl ?_
  refine wp5i rfl rfl ⟨rfl, ?_⟩
  rw [hz]
  rfl
set_option maxRecDepth 20000 in
theorem y1_peek_in {m : ms} (hJ : K m) (hl : m.2.1 = (0, 0, 0, 0, 0, 0, 0)) (hz : ∀ n, q_stack m n = 0) {a : Int64} (ha : inS a) : tb_wp L xs 163 0 (lv_args 0 [.ref 24, .long a]) [] (HH s (MC m) D) (NX s D (0)) := by
  refine wp1 rfl rfl ?_
  refine wp0 rfl rfl ?_
  refine wp3 rfl (am_putf rfl (Nat.le_of_ble_eq_true rfl) rfl rfl) ?_
  have hJ1 : K (t_thrown m 0) := hJ
  refine wpH (h' := HH s (MC (t_thrown m 0)) D) rfl ?_
  refine wp1 rfl rfl ?_
  refine wp1 rfl rfl ?_
  refine wp0 rfl rfl ?_
  refine am_ev_at rfl rfl (ev_find _ _) ?_
  have hok := fd_ok hJ1 a 0
  refine wpTi (fun p ep => ?_)
  rw [ep] at hok
  have ep2 : fd3 a = p := by
    rw [← fd_zero a 0, ← hl]
    exact ep
  refine wp1 rfl rfl ?_
  have g := fd3_in ha
  rw [ep2] at g
  refine wpV (lv' := [(0, .ref 24), (1, .long a), (3, .int p)]) rfl ?_
  refine wp1 rfl rfl ?_
  refine wp2b rfl rfl (fun c2 => ?_) (fun c2 => absurd (Int32.le_iff_toInt_le.mpr (by have e : (0 : Int32).toInt = 0 := rfl; omega)) c2)
  refine wp1 rfl rfl ?_
  refine wp1 rfl rfl ?_
  refine wp4 rfl rfl (pl_byte0 (m := t_thrown m 0) hz p g) (fun rv h1 hq => ?_)
  obtain ⟨rfl, rfl⟩ := hq
  exact wp5i rfl rfl ⟨_, hJ1, rfl, rfl⟩
set_option maxRecDepth 20000 in
theorem y1_peek_out {m : ms} (hJ : K m) (hl : m.2.1 = (0, 0, 0, 0, 0, 0, 0)) {a : Int64} (ha : ¬ inS a) : tb_wp L xs 163 0 (lv_args 0 [.ref 24, .long a]) [] (HH s (MC m) D) (NX s D (-1)) := by
  refine wp1 rfl rfl ?_
  refine wp0 rfl rfl ?_
  refine wp3 rfl (am_putf rfl (Nat.le_of_ble_eq_true rfl) rfl rfl) ?_
  have hJ1 : K (t_thrown m 0) := hJ
  refine wpH (h' := HH s (MC (t_thrown m 0)) D) rfl ?_
  refine wp1 rfl rfl ?_
  refine wp1 rfl rfl ?_
  refine wp0 rfl rfl ?_
  refine am_ev_at rfl rfl (ev_find _ _) ?_
  have hok := fd_ok hJ1 a 0
  refine wpTi (fun p ep => ?_)
  rw [ep] at hok
  have ep2 : fd3 a = p := by
    rw [← fd_zero a 0, ← hl]
    exact ep
  refine wp1 rfl rfl ?_
  have g := fd3_out ha
  rw [ep2] at g
  subst g
  refine wpV (lv' := [(0, .ref 24), (1, .long a), (3, .int (-1))]) rfl ?_
  refine wp1 rfl rfl ?_
  refine wp2b rfl rfl (fun c2 => absurd c2 (by decide)) (fun c2 => ?_)
  refine wp0 rfl rfl ?_
  refine wp2 rfl rfl ?_
  exact wp5i rfl rfl ⟨_, hJ1, rfl, rfl⟩
set_option maxRecDepth 20000 in
theorem y1_poke_in {m : ms} (hJ : K m) (hl : m.2.1 = (0, 0, 0, 0, 0, 0, 0)) {a : Int64} (y : Int32) (ha : inS a) : tb_wp L xs 165 0 (lv_args 0 [.ref 24, .long a, .int y]) [] (HH s (MC m) D) (NX s D (1)) := by
  refine wp1 rfl rfl ?_
  refine wp0 rfl rfl ?_
  refine wp3 rfl (am_putf rfl (Nat.le_of_ble_eq_true rfl) rfl rfl) ?_
  have hJ1 : K (t_thrown m 0) := hJ
  refine wpH (h' := HH s (MC (t_thrown m 0)) D) rfl ?_
  refine wp1 rfl rfl ?_
  refine wp1 rfl rfl ?_
  refine wp0 rfl rfl ?_
  refine am_ev_at rfl rfl (ev_find _ _) ?_
  have hok := fd_ok hJ1 a 1
  refine wpTi (fun p ep => ?_)
  rw [ep] at hok
  have ep2 : fd3 a = p := by
    rw [← fd_zero a 1, ← hl]
    exact ep
  refine wp1 rfl rfl ?_
  have g := fd3_in ha
  rw [ep2] at g
  have g0 : ¬ p < 0 := fun z => by
    have z2 := Int32.lt_iff_toInt_lt.mp z
    have e : (0 : Int32).toInt = 0 := rfl
    omega
  refine wpV (lv' := [(0, .ref 24), (1, .long a), (3, .int y), (4, .int p)]) rfl ?_
  refine wp1 rfl rfl ?_
  refine wp2b rfl rfl (fun c2 => absurd c2 g0) (fun c2 => ?_)
  refine wp1 rfl rfl ?_
  refine wp1 rfl rfl ?_
  refine wp1 rfl rfl ?_
  refine wp4 rfl rfl (pl_set hJ1 p y (by omega) hok) (fun rv h1 hq => ?_)
  obtain ⟨m2, hJ2, hR2, rfl, rfl⟩ := hq
  refine wp1 rfl rfl ?_
  refine wp2b rfl rfl (fun c3 => absurd c3 g0) (fun c3 => ?_)
  refine wp0 rfl rfl ?_
  refine wp2 rfl rfl ?_
  exact wp5z rfl rfl b1 ⟨_, hJ2, rfl, rfl⟩
set_option maxRecDepth 20000 in
theorem y1_poke_out {m : ms} (hJ : K m) (hl : m.2.1 = (0, 0, 0, 0, 0, 0, 0)) {a : Int64} (y : Int32) (ha : ¬ inS a) : tb_wp L xs 165 0 (lv_args 0 [.ref 24, .long a, .int y]) [] (HH s (MC m) D) (NX s D (0)) := by
  refine wp1 rfl rfl ?_
  refine wp0 rfl rfl ?_
  refine wp3 rfl (am_putf rfl (Nat.le_of_ble_eq_true rfl) rfl rfl) ?_
  have hJ1 : K (t_thrown m 0) := hJ
  refine wpH (h' := HH s (MC (t_thrown m 0)) D) rfl ?_
  refine wp1 rfl rfl ?_
  refine wp1 rfl rfl ?_
  refine wp0 rfl rfl ?_
  refine am_ev_at rfl rfl (ev_find _ _) ?_
  have hok := fd_ok hJ1 a 1
  refine wpTi (fun p ep => ?_)
  rw [ep] at hok
  have ep2 : fd3 a = p := by
    rw [← fd_zero a 1, ← hl]
    exact ep
  refine wp1 rfl rfl ?_
  have g := fd3_out ha
  rw [ep2] at g
  subst g
  refine wpV (lv' := [(0, .ref 24), (1, .long a), (3, .int y), (4, .int (-1))]) rfl ?_
  refine wp1 rfl rfl ?_
  refine wp2b rfl rfl (fun c2 => ?_) (fun c2 => absurd (by decide) c2)
  refine wp1 rfl rfl ?_
  refine wp2b rfl rfl (fun c3 => ?_) (fun c3 => absurd (by decide) c3)
  refine wp0 rfl rfl ?_
  exact wp5z rfl rfl b0 ⟨_, hJ1, rfl, rfl⟩

end ANEW

/-! cut, signed of the model, exact; take with bounds -/
def cutF (v : Int64) (z : Int32) : Int64 := if z = 8 then v else if z = 4 then v &&& 4294967295 else v &&& 255
def sgF (v : Int64) (z : Int32) : Int64 := if z = 8 then v else if z = 4 then Int32.toInt64 (Int64.toInt32 v) else Int32.toInt64 (Int8.toInt32 (Int32.toInt8 (Int64.toInt32 v)))
section SM5
variable {L : Nat} {xs : Nat → Int32} {s : cs} {D : List pgT}
set_option maxRecDepth 20000 in
theorem ev_cut {m : ms} (l0 : Int64) (l2 : Int32) : tb_ev L xs 135 [.long l0, .int l2] (HH s (MC m) D) (some (.long (cutF l0 l2))) (HH s (MC m) D) := by
  refine am_wp_ev ?_
  refine wp1 rfl rfl ?_
  refine wp0 rfl rfl ?_
  refine wp2b rfl rfl (fun c1 => ?_) (fun c1 => ?_)
  · refine wp1 rfl rfl ?_
    refine wp2 rfl rfl ?_
    exact wp5 rfl rfl ⟨by simp only [cutF, if_true, if_false, if_pos c1], rfl⟩
  · refine wp1 rfl rfl ?_
    refine wp0 rfl rfl ?_
    refine wp2b rfl rfl (fun c2 => ?_) (fun c2 => ?_)
    · refine wp1 rfl rfl ?_
      refine wp0 rfl rfl ?_
      refine wp0 rfl rfl ?_
      refine wp2 rfl rfl ?_
      exact wp5 rfl rfl ⟨by simp only [cutF, if_true, if_false, if_neg c1, if_pos c2], rfl⟩
    · refine wp1 rfl rfl ?_
      refine wp0 rfl rfl ?_
      refine wp0 rfl rfl ?_
      exact wp5 rfl rfl ⟨by simp only [cutF, if_true, if_false, if_neg c1, if_neg c2], rfl⟩
set_option maxRecDepth 20000 in
theorem ev_signed {m : ms} (l0 : Int64) (l2 : Int32) : tb_ev L xs 178 [.long l0, .int l2] (HH s (MC m) D) (some (.long (sgF l0 l2))) (HH s (MC m) D) := by
  refine am_wp_ev ?_
  refine wp1 rfl rfl ?_
  refine wp0 rfl rfl ?_
  refine wp2b rfl rfl (fun c1 => ?_) (fun c1 => ?_)
  · refine wp1 rfl rfl ?_
    refine wp2 rfl rfl ?_
    exact wp5 rfl rfl ⟨by simp only [sgF, if_true, if_false, if_pos c1], rfl⟩
  · refine wp1 rfl rfl ?_
    refine wp0 rfl rfl ?_
    refine wp2b rfl rfl (fun c2 => ?_) (fun c2 => ?_)
    · refine wp1 rfl rfl ?_
      refine wp0 rfl rfl ?_
      refine wp0 rfl rfl ?_
      refine wp2 rfl rfl ?_
      exact wp5 rfl rfl ⟨by simp only [sgF, if_true, if_false, if_neg c1, if_pos c2], rfl⟩
    · refine wp1 rfl rfl ?_
      refine wp0 rfl rfl ?_
      refine wp0 rfl rfl ?_
      refine wp0 rfl rfl ?_
      exact wp5 rfl rfl ⟨by simp only [sgF, if_true, if_false, if_neg c1, if_neg c2], rfl⟩
end SM5
theorem and_nat {a b : Int64} {n : Nat} (hb : b.toBitVec.toNat ≤ n) (hn : n < 2 ^ 63) : 0 ≤ (a &&& b).toInt ∧ (a &&& b).toInt ≤ n := by
  have e : (a &&& b).toBitVec.toNat = a.toBitVec.toNat &&& b.toBitVec.toNat := BitVec.toNat_and ..
  have h : (a &&& b).toBitVec.toNat ≤ n := by rw [e]; exact Nat.le_trans Nat.and_le_right hb
  have := i64_small (y := a &&& b) (by omega)
  omega
theorem okV_cut (v : Int64) (z : Int32) : okV z (cutF v z) := by
  constructor
  · intro hz
    have e : cutF v z = v &&& 255 := by subst hz; rfl
    rw [e]
    have := and_nat (a := v) (b := 255) (n := 255) (by decide) (by decide)
    omega
  · intro hz
    have e : cutF v z = v &&& 4294967295 := by subst hz; rfl
    rw [e]
    have := and_nat (a := v) (b := 4294967295) (n := 4294967295) (by decide) (by decide)
    omega
theorem sgF_ne {x : Int64} {z : Int32} (hz : z = 1 ∨ z = 4) (h : okV z x) (hx : x ≠ 0) : sgF x z ≠ 0 := by
  have hx0 : x.toInt ≠ 0 := fun e => hx (Int64.toInt_inj.mp e)
  intro e
  have e2 := congrArg Int64.toInt e
  have e0 : (0 : Int64).toInt = 0 := rfl
  rw [e0] at e2
  rcases hz with rfl | rfl
  · have hb := h.1 rfl
    have e3 : sgF x 1 = Int32.toInt64 (Int8.toInt32 (Int32.toInt8 (Int64.toInt32 x))) := rfl
    rw [e3, Int32.toInt_toInt64, Int8.toInt_toInt32, Int32.toInt_toInt8, l2iI hb.1 (by omega)] at e2
    have h2 := Int.bmod_def x.toInt 256
    have e4 : x.toInt.bmod 256 = 0 := e2
    rw [e4] at h2
    split at h2 <;> omega
  · have hb := h.2 rfl
    have e3 : sgF x 4 = Int32.toInt64 (Int64.toInt32 x) := rfl
    rw [e3, Int32.toInt_toInt64, Int64.toInt_toInt32] at e2
    have h2 := Int.bmod_def x.toInt 4294967296
    have e4 : x.toInt.bmod 4294967296 = 0 := e2
    rw [e4] at h2
    split at h2 <;> omega
section TAKE
variable {L : Nat} {xs : Nat → Int32} {s : cs} {D : List pgT}
set_option maxRecDepth 20000 in
theorem ml_take {m : ms} (hJ : K m) (k z : Int32) (hk : am_in k 3 = true) : tb_wp L xs 187 0 (lv_args 0 [.ref 24, .int k, .int z]) [] (HH s (MC m) D) (NL z m s D) := by
  refine wp1 rfl rfl ?_
  refine wp1 rfl rfl ?_
  refine am_ev_at rfl rfl (ev_kinds hk) ?_
  refine wpTi (fun w ew => ?_)
  refine wp1 rfl rfl ?_
  refine wpV (lv' := [(0, .ref 24), (1, .int k), (2, .int z), (3, .int w)]) rfl ?_
  refine wp1 rfl rfl ?_
  refine wp0 rfl rfl ?_
  refine wp2b rfl rfl (fun c1 => ?_) (fun c1 => ?_)
  · refine wp1 rfl rfl ?_
    refine wp3 rfl (am_getf rfl rfl) ?_
    refine wp1 rfl rfl ?_
    refine wp1 rfl rfl ?_
    refine am_ev_at rfl rfl (ev_places hk) ?_
    refine wp3 rfl (am_lald rfl (K_place hJ hk)) ?_
    refine wp1 rfl rfl ?_
    refine am_ev_at rfl rfl (ev_cut _ _) ?_
    exact wp5 rfl rfl ⟨_, hJ, RLr, rfl, _, rfl, okV_cut _ _⟩
  · refine wp1 rfl rfl ?_
    refine wp0 rfl rfl ?_
    refine wp2b rfl rfl (fun c2 => ?_) (fun c2 => ?_)
    · refine wp1 rfl rfl ?_
      refine wp1 rfl rfl ?_
      refine wp3 rfl (am_getf rfl rfl) ?_
      refine wp1 rfl rfl ?_
      refine wp4 rfl rfl (ml_load hJ _ _) (fun rv h1 hq => ?_)
      obtain ⟨m2, hJ2, hR2, rfl, x, rfl, hv⟩ := hq
      refine wp2 rfl rfl ?_
      exact wp5 rfl rfl ⟨_, hJ2, hR2, rfl, _, rfl, hv⟩
    · refine wp1 rfl rfl ?_
      refine wp3 rfl (am_getf rfl rfl) ?_
      refine wp1 rfl rfl ?_
      refine am_ev_at rfl rfl (ev_cut _ _) ?_
      exact wp5 rfl rfl ⟨_, hJ, RLr, rfl, _, rfl, okV_cut _ _⟩
end TAKE

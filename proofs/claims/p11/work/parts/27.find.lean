/-! the model's find, as a function of the memory's rows -/
def hb (l : ms_ly) : Int64 := 4194304 + Int32.toInt64 ((l.1 + 4095) &&& (-4096))
def fd3 (a : Int64) : Int32 := if lg_cmp (a - 2147414016) 0 < 0 then -1 else if 0 ≤ lg_cmp (a - 2147414016) 65536 then -1 else 2097152 ||| Int64.toInt32 (a - 2147414016)
def fd2 (l : ms_ly) (a : Int64) : Int32 := if lg_cmp (a - hb l) 0 < 0 then fd3 a else if 0 ≤ lg_cmp (a - hb l) (Int32.toInt64 l.2.2.2.2.2.2) then fd3 a else 1048576 ||| Int64.toInt32 (a - hb l)
def fd1b (l : ms_ly) (x : Int64) : Int32 := if lg_cmp x (Int32.toInt64 l.2.2.2.2.1) < 0 then -1 else if 0 ≤ lg_cmp x (Int32.toInt64 l.2.2.2.2.2.1) then -1 else Int64.toInt32 x
def fd1 (l : ms_ly) (x : Int64) (w : Int32) : Int32 :=
  if lg_cmp x (Int32.toInt64 l.2.1) < 0 then (if w = 0 then Int64.toInt32 x else fd1b l x)
  else if lg_cmp x (Int32.toInt64 l.2.2.1) < 0 then fd1b l x
  else if 0 ≤ lg_cmp x (Int32.toInt64 l.2.2.2.1) then fd1b l x
  else if w = 0 then Int64.toInt32 x else fd1b l x
def fd (l : ms_ly) (a : Int64) (w : Int32) : Int32 := if lg_cmp (a - 4194304) 0 < 0 then fd2 l a else if 0 ≤ lg_cmp (a - 4194304) (Int32.toInt64 l.1) then fd2 l a else fd1 l (a - 4194304) w
section SF
variable {L : Nat} {xs : Nat → Int32} {s : cs} {D : List pgT}
set_option maxRecDepth 20000 in
theorem ev_heapBegin {m : ms}  : tb_ev L xs 142 [.ref 24] (HH s (MC m) D) (some (.long (hb m.2.1))) (HH s (MC m) D) := by
  refine am_wp_ev ?_
  refine wp0 rfl rfl ?_
  refine wp1 rfl rfl ?_
  refine wp3 rfl (am_getf rfl rfl) ?_
  refine wp0 rfl rfl ?_
  refine wp0 rfl rfl ?_
  refine wp0 rfl rfl ?_
  refine wp0 rfl rfl ?_
  refine wp0 rfl rfl ?_
  refine wp0 rfl rfl ?_
  exact wp5 rfl rfl ⟨by simp only [hb, if_true, if_false, if_true], rfl⟩
set_option maxRecDepth 20000 in
theorem ev_find {m : ms} (l1 : Int64) (l3 : Int32) : tb_ev L xs 139 [.ref 24, .long l1, .int l3] (HH s (MC m) D) (some (.int (fd m.2.1 l1 l3))) (HH s (MC m) D) := by
  refine am_wp_ev ?_
  refine wp1 rfl rfl ?_
  refine wp0 rfl rfl ?_
  refine wp0 rfl rfl ?_
  refine wpTl (fun z1 ez1 => ?_)
  refine wp1 rfl rfl ?_
  refine wpV (lv' := [(0, .ref 24), (1, .long l1), (3, .int l3), (4, .long z1)]) rfl ?_
  refine wp1 rfl rfl ?_
  refine wp0 rfl rfl ?_
  refine wp0 rfl rfl ?_
  refine wp2b rfl rfl (fun c2 => ?_) (fun c2 => ?_)
  · refine wp1 rfl rfl ?_
    refine wp1 rfl rfl ?_
    refine am_ev_at rfl rfl ev_heapBegin ?_
    refine wp0 rfl rfl ?_
    refine wpTl (fun z3 ez3 => ?_)
    refine wp1 rfl rfl ?_
    refine wpV (lv' := [(0, .ref 24), (1, .long l1), (6, .long z3)]) rfl ?_
    refine wp1 rfl rfl ?_
    refine wp0 rfl rfl ?_
    refine wp0 rfl rfl ?_
    refine wp2b rfl rfl (fun c4 => ?_) (fun c4 => ?_)
    · refine wp1 rfl rfl ?_
      refine wp0 rfl rfl ?_
      refine wp0 rfl rfl ?_
      refine wpTl (fun z5 ez5 => ?_)
      refine wp1 rfl rfl ?_
      refine wpV (lv' := [(1, .long l1), (8, .long z5)]) rfl ?_
      refine wp1 rfl rfl ?_
      refine wp0 rfl rfl ?_
      refine wp0 rfl rfl ?_
      refine wp2b rfl rfl (fun c6 => ?_) (fun c6 => ?_)
      · refine wp0 rfl rfl ?_
        exact wp5i rfl rfl ⟨by subst ez1; subst ez3; subst ez5; simp only [fd, fd1, fd1b, fd2, fd3, if_true, if_false, c2, c4, c6], rfl⟩
      · refine wp1 rfl rfl ?_
        refine wp0 rfl rfl ?_
        refine wp0 rfl rfl ?_
        refine wp2b rfl rfl (fun c7 => ?_) (fun c7 => ?_)
        · refine wp0 rfl rfl ?_
          exact wp5i rfl rfl ⟨by subst ez1; subst ez3; subst ez5; simp only [fd, fd1, fd1b, fd2, fd3, if_true, if_false, c2, c4, c6, c7], rfl⟩
        · refine wp0 rfl rfl ?_
          refine wp1 rfl rfl ?_
          refine wp0 rfl rfl ?_
          refine wp0 rfl rfl ?_
          refine wp2 rfl rfl ?_
          exact wp5i rfl rfl ⟨by subst ez1; subst ez3; subst ez5; simp only [fd, fd1, fd1b, fd2, fd3, if_true, if_false, c2, c4, c6, c7], rfl⟩
    · refine wp1 rfl rfl ?_
      refine wp1 rfl rfl ?_
      refine wp3 rfl (am_getf rfl rfl) ?_
      refine wp0 rfl rfl ?_
      refine wp0 rfl rfl ?_
      refine wp2b rfl rfl (fun c8 => ?_) (fun c8 => ?_)
      · refine wp1 rfl rfl ?_
        refine wp0 rfl rfl ?_
        refine wp0 rfl rfl ?_
        refine wpTl (fun z9 ez9 => ?_)
        refine wp1 rfl rfl ?_
        refine wpV (lv' := [(1, .long l1), (8, .long z9)]) rfl ?_
        refine wp1 rfl rfl ?_
        refine wp0 rfl rfl ?_
        refine wp0 rfl rfl ?_
        refine wp2b rfl rfl (fun c10 => ?_) (fun c10 => ?_)
        · refine wp0 rfl rfl ?_
          exact wp5i rfl rfl ⟨by subst ez1; subst ez3; subst ez9; simp only [fd, fd1, fd1b, fd2, fd3, if_true, if_false, c2, c4, c8, c10], rfl⟩
        · refine wp1 rfl rfl ?_
          refine wp0 rfl rfl ?_
          refine wp0 rfl rfl ?_
          refine wp2b rfl rfl (fun c11 => ?_) (fun c11 => ?_)
          · refine wp0 rfl rfl ?_
            exact wp5i rfl rfl ⟨by subst ez1; subst ez3; subst ez9; simp only [fd, fd1, fd1b, fd2, fd3, if_true, if_false, c2, c4, c8, c10, c11], rfl⟩
          · refine wp0 rfl rfl ?_
            refine wp1 rfl rfl ?_
            refine wp0 rfl rfl ?_
            refine wp0 rfl rfl ?_
            refine wp2 rfl rfl ?_
            exact wp5i rfl rfl ⟨by subst ez1; subst ez3; subst ez9; simp only [fd, fd1, fd1b, fd2, fd3, if_true, if_false, c2, c4, c8, c10, c11], rfl⟩
      · refine wp0 rfl rfl ?_
        refine wp1 rfl rfl ?_
        refine wp0 rfl rfl ?_
        refine wp0 rfl rfl ?_
        exact wp5i rfl rfl ⟨by subst ez1; subst ez3; simp only [fd, fd1, fd1b, fd2, fd3, if_true, if_false, c2, c4, c8], rfl⟩
  · refine wp1 rfl rfl ?_
    refine wp1 rfl rfl ?_
    refine wp3 rfl (am_getf rfl rfl) ?_
    refine wp0 rfl rfl ?_
    refine wp0 rfl rfl ?_
    refine wp2b rfl rfl (fun c12 => ?_) (fun c12 => ?_)
    · refine wp1 rfl rfl ?_
      refine wp1 rfl rfl ?_
      refine am_ev_at rfl rfl ev_heapBegin ?_
      refine wp0 rfl rfl ?_
      refine wpTl (fun z13 ez13 => ?_)
      refine wp1 rfl rfl ?_
      refine wpV (lv' := [(0, .ref 24), (1, .long l1), (6, .long z13)]) rfl ?_
      refine wp1 rfl rfl ?_
      refine wp0 rfl rfl ?_
      refine wp0 rfl rfl ?_
      refine wp2b rfl rfl (fun c14 => ?_) (fun c14 => ?_)
      · refine wp1 rfl rfl ?_
        refine wp0 rfl rfl ?_
        refine wp0 rfl rfl ?_
        refine wpTl (fun z15 ez15 => ?_)
        refine wp1 rfl rfl ?_
        refine wpV (lv' := [(1, .long l1), (8, .long z15)]) rfl ?_
        refine wp1 rfl rfl ?_
        refine wp0 rfl rfl ?_
        refine wp0 rfl rfl ?_
        refine wp2b rfl rfl (fun c16 => ?_) (fun c16 => ?_)
        · refine wp0 rfl rfl ?_
          exact wp5i rfl rfl ⟨by subst ez1; subst ez13; subst ez15; simp only [fd, fd1, fd1b, fd2, fd3, if_true, if_false, c2, c12, c14, c16], rfl⟩
        · refine wp1 rfl rfl ?_
          refine wp0 rfl rfl ?_
          refine wp0 rfl rfl ?_
          refine wp2b rfl rfl (fun c17 => ?_) (fun c17 => ?_)
          · refine wp0 rfl rfl ?_
            exact wp5i rfl rfl ⟨by subst ez1; subst ez13; subst ez15; simp only [fd, fd1, fd1b, fd2, fd3, if_true, if_false, c2, c12, c14, c16, c17], rfl⟩
          · refine wp0 rfl rfl ?_
            refine wp1 rfl rfl ?_
            refine wp0 rfl rfl ?_
            refine wp0 rfl rfl ?_
            refine wp2 rfl rfl ?_
            exact wp5i rfl rfl ⟨by subst ez1; subst ez13; subst ez15; simp only [fd, fd1, fd1b, fd2, fd3, if_true, if_false, c2, c12, c14, c16, c17], rfl⟩
      · refine wp1 rfl rfl ?_
        refine wp1 rfl rfl ?_
        refine wp3 rfl (am_getf rfl rfl) ?_
        refine wp0 rfl rfl ?_
        refine wp0 rfl rfl ?_
        refine wp2b rfl rfl (fun c18 => ?_) (fun c18 => ?_)
        · refine wp1 rfl rfl ?_
          refine wp0 rfl rfl ?_
          refine wp0 rfl rfl ?_
          refine wpTl (fun z19 ez19 => ?_)
          refine wp1 rfl rfl ?_
          refine wpV (lv' := [(1, .long l1), (8, .long z19)]) rfl ?_
          refine wp1 rfl rfl ?_
          refine wp0 rfl rfl ?_
          refine wp0 rfl rfl ?_
          refine wp2b rfl rfl (fun c20 => ?_) (fun c20 => ?_)
          · refine wp0 rfl rfl ?_
            exact wp5i rfl rfl ⟨by subst ez1; subst ez13; subst ez19; simp only [fd, fd1, fd1b, fd2, fd3, if_true, if_false, c2, c12, c14, c18, c20], rfl⟩
          · refine wp1 rfl rfl ?_
            refine wp0 rfl rfl ?_
            refine wp0 rfl rfl ?_
            refine wp2b rfl rfl (fun c21 => ?_) (fun c21 => ?_)
            · refine wp0 rfl rfl ?_
              exact wp5i rfl rfl ⟨by subst ez1; subst ez13; subst ez19; simp only [fd, fd1, fd1b, fd2, fd3, if_true, if_false, c2, c12, c14, c18, c20, c21], rfl⟩
            · refine wp0 rfl rfl ?_
              refine wp1 rfl rfl ?_
              refine wp0 rfl rfl ?_
              refine wp0 rfl rfl ?_
              refine wp2 rfl rfl ?_
              exact wp5i rfl rfl ⟨by subst ez1; subst ez13; subst ez19; simp only [fd, fd1, fd1b, fd2, fd3, if_true, if_false, c2, c12, c14, c18, c20, c21], rfl⟩
        · refine wp0 rfl rfl ?_
          refine wp1 rfl rfl ?_
          refine wp0 rfl rfl ?_
          refine wp0 rfl rfl ?_
          exact wp5i rfl rfl ⟨by subst ez1; subst ez13; simp only [fd, fd1, fd1b, fd2, fd3, if_true, if_false, c2, c12, c14, c18], rfl⟩
    · refine wp1 rfl rfl ?_
      refine wp1 rfl rfl ?_
      refine wp3 rfl (am_getf rfl rfl) ?_
      refine wp0 rfl rfl ?_
      refine wp0 rfl rfl ?_
      refine wp2b rfl rfl (fun c22 => ?_) (fun c22 => ?_)
      · refine wp0 rfl rfl ?_
        refine wp2 rfl rfl ?_
        refine wp1 rfl rfl ?_
        refine wpV (lv' := [(0, .ref 24), (3, .int l3), (4, .long z1), (6, .int 1)]) rfl ?_
        refine wp1 rfl rfl ?_
        refine wp2 (pc' := 70) rfl rfl ?_
        refine wp1 rfl rfl ?_
        refine wp2b rfl rfl (fun c23 => ?_) (fun c23 => ?_)
        · refine wp1 rfl rfl ?_
          refine wp0 rfl rfl ?_
          refine wp2 rfl rfl ?_
          exact wp5i rfl rfl ⟨by subst ez1; simp only [fd, fd1, fd1b, fd2, fd3, if_true, if_false, c2, c12, c22, c23], rfl⟩
        · refine wp1 rfl rfl ?_
          refine wp1 rfl rfl ?_
          refine wp3 rfl (am_getf rfl rfl) ?_
          refine wp0 rfl rfl ?_
          refine wp0 rfl rfl ?_
          refine wp2b rfl rfl (fun c24 => ?_) (fun c24 => ?_)
          · refine wp0 rfl rfl ?_
            exact wp5i rfl rfl ⟨by subst ez1; simp only [fd, fd1, fd1b, fd2, fd3, if_true, if_false, c2, c12, c22, c23, c24], rfl⟩
          · refine wp1 rfl rfl ?_
            refine wp1 rfl rfl ?_
            refine wp3 rfl (am_getf rfl rfl) ?_
            refine wp0 rfl rfl ?_
            refine wp0 rfl rfl ?_
            refine wp2b rfl rfl (fun c25 => ?_) (fun c25 => ?_)
            · refine wp0 rfl rfl ?_
              exact wp5i rfl rfl ⟨by subst ez1; simp only [fd, fd1, fd1b, fd2, fd3, if_true, if_false, c2, c12, c22, c23, c24, c25], rfl⟩
            · refine wp1 rfl rfl ?_
              refine wp0 rfl rfl ?_
              refine wp2 rfl rfl ?_
              exact wp5i rfl rfl ⟨by subst ez1; simp only [fd, fd1, fd1b, fd2, fd3, if_true, if_false, c2, c12, c22, c23, c24, c25], rfl⟩
      · refine wp1 rfl rfl ?_
        refine wp1 rfl rfl ?_
        refine wp3 rfl (am_getf rfl rfl) ?_
        refine wp0 rfl rfl ?_
        refine wp0 rfl rfl ?_
        refine wp2b rfl rfl (fun c26 => ?_) (fun c26 => ?_)
        · refine wp0 rfl rfl ?_
          refine wp1 rfl rfl ?_
          refine wpV (lv' := [(0, .ref 24), (3, .int l3), (4, .long z1), (6, .int 0)]) rfl ?_
          refine wp1 rfl rfl ?_
          refine wp2 (pc' := 74) rfl rfl ?_
          refine wp1 rfl rfl ?_
          refine wp1 rfl rfl ?_
          refine wp3 rfl (am_getf rfl rfl) ?_
          refine wp0 rfl rfl ?_
          refine wp0 rfl rfl ?_
          refine wp2b rfl rfl (fun c27 => ?_) (fun c27 => ?_)
          · refine wp0 rfl rfl ?_
            exact wp5i rfl rfl ⟨by subst ez1; simp only [fd, fd1, fd1b, fd2, fd3, if_true, if_false, c2, c12, c22, c26, c27], rfl⟩
          · refine wp1 rfl rfl ?_
            refine wp1 rfl rfl ?_
            refine wp3 rfl (am_getf rfl rfl) ?_
            refine wp0 rfl rfl ?_
            refine wp0 rfl rfl ?_
            refine wp2b rfl rfl (fun c28 => ?_) (fun c28 => ?_)
            · refine wp0 rfl rfl ?_
              exact wp5i rfl rfl ⟨by subst ez1; simp only [fd, fd1, fd1b, fd2, fd3, if_true, if_false, c2, c12, c22, c26, c27, c28], rfl⟩
            · refine wp1 rfl rfl ?_
              refine wp0 rfl rfl ?_
              refine wp2 rfl rfl ?_
              exact wp5i rfl rfl ⟨by subst ez1; simp only [fd, fd1, fd1b, fd2, fd3, if_true, if_false, c2, c12, c22, c26, c27, c28], rfl⟩
        · refine wp1 rfl rfl ?_
          refine wp1 rfl rfl ?_
          refine wp3 rfl (am_getf rfl rfl) ?_
          refine wp0 rfl rfl ?_
          refine wp0 rfl rfl ?_
          refine wp2b rfl rfl (fun c29 => ?_) (fun c29 => ?_)
          · refine wp0 rfl rfl ?_
            refine wp1 rfl rfl ?_
            refine wpV (lv' := [(0, .ref 24), (3, .int l3), (4, .long z1), (6, .int 0)]) rfl ?_
            refine wp1 rfl rfl ?_
            refine wp2 (pc' := 74) rfl rfl ?_
            refine wp1 rfl rfl ?_
            refine wp1 rfl rfl ?_
            refine wp3 rfl (am_getf rfl rfl) ?_
            refine wp0 rfl rfl ?_
            refine wp0 rfl rfl ?_
            refine wp2b rfl rfl (fun c30 => ?_) (fun c30 => ?_)
            · refine wp0 rfl rfl ?_
              exact wp5i rfl rfl ⟨by subst ez1; simp only [fd, fd1, fd1b, fd2, fd3, if_true, if_false, c2, c12, c22, c26, c29, c30], rfl⟩
            · refine wp1 rfl rfl ?_
              refine wp1 rfl rfl ?_
              refine wp3 rfl (am_getf rfl rfl) ?_
              refine wp0 rfl rfl ?_
              refine wp0 rfl rfl ?_
              refine wp2b rfl rfl (fun c31 => ?_) (fun c31 => ?_)
              · refine wp0 rfl rfl ?_
                exact wp5i rfl rfl ⟨by subst ez1; simp only [fd, fd1, fd1b, fd2, fd3, if_true, if_false, c2, c12, c22, c26, c29, c30, c31], rfl⟩
              · refine wp1 rfl rfl ?_
                refine wp0 rfl rfl ?_
                refine wp2 rfl rfl ?_
                exact wp5i rfl rfl ⟨by subst ez1; simp only [fd, fd1, fd1b, fd2, fd3, if_true, if_false, c2, c12, c22, c26, c29, c30, c31], rfl⟩
          · refine wp0 rfl rfl ?_
            refine wp2 rfl rfl ?_
            refine wp1 rfl rfl ?_
            refine wpV (lv' := [(0, .ref 24), (3, .int l3), (4, .long z1), (6, .int 1)]) rfl ?_
            refine wp1 rfl rfl ?_
            refine wp2 (pc' := 70) rfl rfl ?_
            refine wp1 rfl rfl ?_
            refine wp2b rfl rfl (fun c32 => ?_) (fun c32 => ?_)
            · refine wp1 rfl rfl ?_
              refine wp0 rfl rfl ?_
              refine wp2 rfl rfl ?_
              exact wp5i rfl rfl ⟨by subst ez1; simp only [fd, fd1, fd1b, fd2, fd3, if_true, if_false, c2, c12, c22, c26, c29, c32], rfl⟩
            · refine wp1 rfl rfl ?_
              refine wp1 rfl rfl ?_
              refine wp3 rfl (am_getf rfl rfl) ?_
              refine wp0 rfl rfl ?_
              refine wp0 rfl rfl ?_
              refine wp2b rfl rfl (fun c33 => ?_) (fun c33 => ?_)
              · refine wp0 rfl rfl ?_
                exact wp5i rfl rfl ⟨by subst ez1; simp only [fd, fd1, fd1b, fd2, fd3, if_true, if_false, c2, c12, c22, c26, c29, c32, c33], rfl⟩
              · refine wp1 rfl rfl ?_
                refine wp1 rfl rfl ?_
                refine wp3 rfl (am_getf rfl rfl) ?_
                refine wp0 rfl rfl ?_
                refine wp0 rfl rfl ?_
                refine wp2b rfl rfl (fun c34 => ?_) (fun c34 => ?_)
                · refine wp0 rfl rfl ?_
                  exact wp5i rfl rfl ⟨by subst ez1; simp only [fd, fd1, fd1b, fd2, fd3, if_true, if_false, c2, c12, c22, c26, c29, c32, c33, c34], rfl⟩
                · refine wp1 rfl rfl ?_
                  refine wp0 rfl rfl ?_
                  refine wp2 rfl rfl ?_
                  exact wp5i rfl rfl ⟨by subst ez1; simp only [fd, fd1, fd1b, fd2, fd3, if_true, if_false, c2, c12, c22, c26, c29, c32, c33, c34], rfl⟩
end SF
/-- a place that find may answer -/
def okP (p : Int32) : Prop := p.toInt < 262144 ∨ 1048576 ≤ p.toInt
theorem i32_nat {y : Int32} (h : 0 ≤ y.toInt) : y.toInt = y.toBitVec.toNat ∧ y.toBitVec.toNat < 2 ^ 31 := by
  have h1 : y.toInt = y.toBitVec.toInt := rfl
  have h2 := BitVec.toInt_eq_toNat_cond y.toBitVec
  have h3 := y.toBitVec.isLt
  rw [h1] at h ⊢
  split at h2 <;> omega
theorem or_ge {c y : Int32} (hc : 0 ≤ c.toInt) (hy : 0 ≤ y.toInt) : c.toInt ≤ (c ||| y).toInt := by
  obtain ⟨e1, l1⟩ := i32_nat hc
  obtain ⟨e2, l2⟩ := i32_nat hy
  have e3 : (c ||| y).toBitVec.toNat = c.toBitVec.toNat ||| y.toBitVec.toNat := BitVec.toNat_or ..
  have l3 : (c ||| y).toBitVec.toNat < 2 ^ 31 := by rw [e3]; exact Nat.or_lt_two_pow l1 l2
  have l4 : c.toBitVec.toNat ≤ (c ||| y).toBitVec.toNat := by rw [e3]; exact Nat.left_le_or
  have e4 := BitVec.toInt_eq_toNat_cond (c ||| y).toBitVec
  have e5 : (c ||| y).toInt = (c ||| y).toBitVec.toInt := rfl
  split at e4 <;> omega
theorem l2iI {x : Int64} (h0 : 0 ≤ x.toInt) (h1 : x.toInt < 2147483648) : x.toInt32.toInt = x.toInt := by
  rw [Int64.toInt_toInt32]
  exact Int.bmod_eq_of_le (by omega) (by omega)
theorem nlt0 {x : Int64} (h : ¬ lg_cmp x 0 < 0) : 0 ≤ x.toInt := by
  rw [lg_cmp_lt, Int64.lt_iff_toInt_lt] at h
  have e : (0 : Int64).toInt = 0 := rfl
  omega
theorem nge {x y : Int64} (h : ¬ 0 ≤ lg_cmp x y) : x.toInt < y.toInt := by
  rw [lg_cmp_ge, Int64.le_iff_toInt_le] at h
  omega
theorem i2lI (y : Int32) : y.toInt64.toInt = y.toInt := Int32.toInt_toInt64 y
theorem fd3_ok (a : Int64) : okP (fd3 a) := by
  unfold fd3 okP
  split
  · left; decide
  · rename_i h1
    split
    · left; decide
    · rename_i h2
      right
      have g1 := nlt0 h1
      have g2 := nge h2
      have e : (65536 : Int64).toInt = 65536 := rfl
      have g3 := l2iI g1 (by omega)
      have g4 := or_ge (c := 2097152) (y := Int64.toInt32 (a - 2147414016)) (by decide) (by omega)
      have e2 : (2097152 : Int32).toInt = 2097152 := rfl
      omega
theorem fd2_ok {l : ms_ly} (h : l.2.2.2.2.2.2.toInt ≤ 65536) (a : Int64) : okP (fd2 l a) := by
  unfold fd2
  split
  · exact fd3_ok a
  · rename_i h1
    split
    · exact fd3_ok a
    · rename_i h2
      right
      have g1 := nlt0 h1
      have g2 := nge h2
      rw [i2lI] at g2
      have g3 := l2iI g1 (by omega)
      have g4 := or_ge (c := 1048576) (y := Int64.toInt32 (a - hb l)) (by decide) (by omega)
      have e2 : (1048576 : Int32).toInt = 1048576 := rfl
      omega
theorem fd_ok {m : ms} (hK : K m) (a : Int64) (w : Int32) : okP (fd m.2.1 a w) := by
  have he := hK.2.2.2.2.2.2.1
  have hh := hK.2.2.2.2.2.2.2.1.2
  unfold fd
  split
  · exact fd2_ok hh a
  · rename_i h1
    split
    · exact fd2_ok hh a
    · rename_i h2
      have g1 := nlt0 h1
      have g2 := nge h2
      rw [i2lI] at g2
      have he2 : m.2.1.1.toInt ≤ 262144 := he.2
      have g3 : okP (Int64.toInt32 (a - 4194304)) := by
        left
        rw [l2iI g1 (by omega)]
        omega
      have g4 : okP (fd1b m.2.1 (a - 4194304)) := by
        unfold fd1b
        split
        · left; decide
        · split
          · left; decide
          · exact g3
      unfold fd1
      split
      · split
        · exact g3
        · exact g4
      · split
        · exact g4
        · split
          · exact g4
          · split
            · exact g3
            · exact g4

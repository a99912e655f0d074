/-! the model's find, as a function of the memory's rows -/
def hb (l : ms_ly) : Int64 := 4194304 + Int32.toInt64 ((l.1 + 4095) &&& (-4096))
def fd3 (a : Int64) : Int32 := if lg_cmp (a - 2147414016) 0 < 0 then -1 else if 0 ≤ lg_cmp (a - 2147414016) 65536 then -1 else 2097152 ||| Int64.toInt32 (a - 2147414016)
def fd2 (l : ms_ly) (a : Int64) : Int32 := if lg_cmp (a - hb l) 0 < 0 then fd3 a else if 0 ≤ lg_cmp (a - hb l) (Int32.toInt64 l.2.2.2.2.2.2) then fd3 a else 1048576 ||| Int64.toInt32 (a - hb l)
def fd1b (l : ms_ly) (x : Int64) : Int32 := if lg_cmp x (Int32.toInt64 l.2.2.2.2.1) < 0 then -1 else if 0 ≤ lg_cmp x (Int32.toInt64 l.2.2.2.2.2.1) then -1 else Int64.toInt32 x
def fd1 (l : ms_ly) (x : Int64) (w : Int32) : Int32 :=
  if lg_cmp x (Int32.toInt64 l.2.1) < 0 then (if w = 0 then Int64.toInt32 x else fd1b l x)
  else if lg_cmp x (Int32.toInt64 l.2.2.1) < 0 then fd1b l x
  else if 0 ≤ lg_cmp x (Int32.toInt64 l.2.2.2.1) then fd1b l x
  else if w = 0 then Int64.toInt32 x else fd1b l x
def fd (l : ms_ly) (a : Int64) (w : Int32) : Int32 := if lg_cmp (a - 4194304) 0 < 0 then fd2 l a else if 0 ≤ lg_cmp (a - 4194304) (Int32.toInt64 l.1) then fd2 l a else fd1 l (a - 4194304) w
section SF
variable {L : Nat} {xs : Nat → Int32} {s : cs} {D : List pgT}
set_option maxRecDepth 20000 in
theorem ev_heapBegin {m : ms}  : tb_ev L xs 142 [.ref 24] (HH s (MC m) D) (some (.long (hb m.2.1))) (HH s (MC m) D) := by
  refine am_wp_ev ?_
  refine wp0 rfl rfl ?_
  refine wp1 rfl rfl ?_
  refine wp3 rfl (am_getf rfl rfl) ?_
  refine wp0 rfl rfl ?_
  refine wp0 rfl rfl ?_
  refine wp0 rfl rfl ?_
  refine wp0 rfl rfl ?_
  refine wp0 rfl rfl ?_
  refine wp0 rfl rfl ?_
  exact wp5 rfl rfl ⟨by subst_vars; simp only [hb, if_true, if_false, if_true], rfl⟩
set_option maxRecDepth 20000 in
theorem ev_find {m : ms} (l1 : Int64) (l3 : Int32) : tb_ev L xs 139 [.ref 24, .long l1, .int l3] (HH s (MC m) D) (some (.int (fd m.2.1 l1 l3))) (HH s (MC m) D) := by
  refine am_wp_ev ?_
  refine wp1 rfl rfl ?_
  refine wp0 rfl rfl ?_
  refine wp0 rfl rfl ?_
  refine wpTl (fun z1 ez1 => ?_)
  refine wp1 rfl rfl ?_
  refine wpV (lv' := [(0, .ref 24), (1, .long l1), (3, .int l3), (4, .long z1)]) rfl ?_
  refine wp1 rfl rfl ?_
  refine wp0 rfl rfl ?_
  refine wp0 rfl rfl ?_
  refine wp2b rfl rfl (fun c2 => ?_) (fun c2 => ?_)
  · refine wp1 rfl rfl ?_
    refine wp1 rfl rfl ?_
    refine am_ev_at rfl rfl ev_heapBegin ?_
    refine wp0 rfl rfl ?_
    refine wpTl (fun z3 ez3 => ?_)
    refine wp1 rfl rfl ?_
    refine wpV (lv' := [(0, .ref 24), (1, .long l1), (6, .long z3)]) rfl ?_
    refine wp1 rfl rfl ?_
    refine wp0 rfl rfl ?_
    refine wp0 rfl rfl ?_
    refine wp2b rfl rfl (fun c4 => ?_) (fun c4 => ?_)
    · refine wp1 rfl rfl ?_
      refine wp0 rfl rfl ?_
      refine wp0 rfl rfl ?_
      refine wpTl (fun z5 ez5 => ?_)
      refine wp1 rfl rfl ?_
      refine wpV (lv' := [(1, .long l1), (8, .long z5)]) rfl ?_
      refine wp1 rfl rfl ?_
      refine wp0 rfl rfl ?_
      refine wp0 rfl rfl ?_
      refine wp2b rfl rfl (fun c6 => ?_) (fun c6 => ?_)
      · refine wp0 rfl rfl ?_
        exact wp5i rfl rfl ⟨by subst_vars; simp only [fd, fd1, fd1b, fd2, fd3, if_true, if_false, c2, c4, c6], rfl⟩
      · refine wp1 rfl rfl ?_
        refine wp0 rfl rfl ?_
        refine wp0 rfl rfl ?_
        refine wp2b rfl rfl (fun c7 => ?_) (fun c7 => ?_)
        · refine wp0 rfl rfl ?_
          exact wp5i rfl rfl ⟨by subst_vars; simp only [fd, fd1, fd1b, fd2, fd3, if_true, if_false, c2, c4, c6, c7], rfl⟩
        · refine wp0 rfl rfl ?_
          refine wp1 rfl rfl ?_
          refine wp0 rfl rfl ?_
          refine wp0 rfl rfl ?_
          refine wp2 rfl rfl ?_
          exact wp5i rfl rfl ⟨by subst_vars; simp only [fd, fd1, fd1b, fd2, fd3, if_true, if_false, c2, c4, c6, c7], rfl⟩
    · refine wp1 rfl rfl ?_
      refine wp1 rfl rfl ?_
      refine wp3 rfl (am_getf rfl rfl) ?_
      refine wp0 rfl rfl ?_
      refine wp0 rfl rfl ?_
      refine wp2b rfl rfl (fun c8 => ?_) (fun c8 => ?_)
      · refine wp1 rfl rfl ?_
        refine wp0 rfl rfl ?_
        refine wp0 rfl rfl ?_
        refine wpTl (fun z9 ez9 => ?_)
        refine wp1 rfl rfl ?_
        refine wpV (lv' := [(1, .long l1), (8, .long z9)]) rfl ?_
        refine wp1 rfl rfl ?_
        refine wp0 rfl rfl ?_
        refine wp0 rfl rfl ?_
        refine wp2b rfl rfl (fun c10 => ?_) (fun c10 => ?_)
        · refine wp0 rfl rfl ?_
          exact wp5i rfl rfl ⟨by subst_vars; simp only [fd, fd1, fd1b, fd2, fd3, if_true, if_false, c2, c4, c8, c10], rfl⟩
        · refine wp1 rfl rfl ?_
          refine wp0 rfl rfl ?_
          refine wp0 rfl rfl ?_
          refine wp2b rfl rfl (fun c11 => ?_) (fun c11 => ?_)
          · refine wp0 rfl rfl ?_
            exact wp5i rfl rfl ⟨by subst_vars; simp only [fd, fd1, fd1b, fd2, fd3, if_true, if_false, c2, c4, c8, c10, c11], rfl⟩
          · refine wp0 rfl rfl ?_
            refine wp1 rfl rfl ?_
            refine wp0 rfl rfl ?_
            refine wp0 rfl rfl ?_
            refine wp2 rfl rfl ?_
            exact wp5i rfl rfl ⟨by subst_vars; simp only [fd, fd1, fd1b, fd2, fd3, if_true, if_false, c2, c4, c8, c10, c11], rfl⟩
      · refine wp0 rfl rfl ?_
        refine wp1 rfl rfl ?_
        refine wp0 rfl rfl ?_
        refine wp0 rfl rfl ?_
        exact wp5i rfl rfl ⟨by subst_vars; simp only [fd, fd1, fd1b, fd2, fd3, if_true, if_false, c2, c4, c8], rfl⟩
  · refine wp1 rfl rfl ?_
    refine wp1 rfl rfl ?_
    refine wp3 rfl (am_getf rfl rfl) ?_
    refine wp0 rfl rfl ?_
    refine wp0 rfl rfl ?_
    refine wp2b rfl rfl (fun c12 => ?_) (fun c12 => ?_)
    · refine wp1 rfl rfl ?_
      refine wp1 rfl rfl ?_
      refine am_ev_at rfl rfl ev_heapBegin ?_
      refine wp0 rfl rfl ?_
      refine wpTl (fun z13 ez13 => ?_)
      refine wp1 rfl rfl ?_
      refine wpV (lv' := [(0, .ref 24), (1, .long l1), (6, .long z13)]) rfl ?_
      refine wp1 rfl rfl ?_
      refine wp0 rfl rfl ?_
      refine wp0 rfl rfl ?_
      refine wp2b rfl rfl (fun c14 => ?_) (fun c14 => ?_)
      · refine wp1 rfl rfl ?_
        refine wp0 rfl rfl ?_
        refine wp0 rfl rfl ?_
        refine wpTl (fun z15 ez15 => ?_)
        refine wp1 rfl rfl ?_
        refine wpV (lv' := [(1, .long l1), (8, .long z15)]) rfl ?_
        refine wp1 rfl rfl ?_
        refine wp0 rfl rfl ?_
        refine wp0 rfl rfl ?_
        refine wp2b rfl rfl (fun c16 => ?_) (fun c16 => ?_)
        · refine wp0 rfl rfl ?_
          exact wp5i rfl rfl ⟨by subst_vars; simp only [fd, fd1, fd1b, fd2, fd3, if_true, if_false, c2, c12, c14, c16], rfl⟩
        · refine wp1 rfl rfl ?_
          refine wp0 rfl rfl ?_
          refine wp0 rfl rfl ?_
          refine wp2b rfl rfl (fun c17 => ?_) (fun c17 => ?_)
          · refine wp0 rfl rfl ?_
            exact wp5i rfl rfl ⟨by subst_vars; simp only [fd, fd1, fd1b, fd2, fd3, if_true, if_false, c2, c12, c14, c16, c17], rfl⟩
          · refine wp0 rfl rfl ?_
            refine wp1 rfl rfl ?_
            refine wp0 rfl rfl ?_
            refine wp0 rfl rfl ?_
            refine wp2 rfl rfl ?_
            exact wp5i rfl rfl ⟨by subst_vars; simp only [fd, fd1, fd1b, fd2, fd3, if_true, if_false, c2, c12, c14, c16, c17], rfl⟩
      · refine wp1 rfl rfl ?_
        refine wp1 rfl rfl ?_
        refine wp3 rfl (am_getf rfl rfl) ?_
        refine wp0 rfl rfl ?_
        refine wp0 rfl rfl ?_
        refine wp2b rfl rfl (fun c18 => ?_) (fun c18 => ?_)
        · refine wp1 rfl rfl ?_
          refine wp0 rfl rfl ?_
          refine wp0 rfl rfl ?_
          refine wpTl (fun z19 ez19 => ?_)
          refine wp1 rfl rfl ?_
          refine wpV (lv' := [(1, .long l1), (8, .long z19)]) rfl ?_
          refine wp1 rfl rfl ?_
          refine wp0 rfl rfl ?_
          refine wp0 rfl rfl ?_
          refine wp2b rfl rfl (fun c20 => ?_) (fun c20 => ?_)
          · refine wp0 rfl rfl ?_
            exact wp5i rfl rfl ⟨by subst_vars; simp only [fd, fd1, fd1b, fd2, fd3, if_true, if_false, c2, c12, c14, c18, c20], rfl⟩
          · refine wp1 rfl rfl ?_
            refine wp0 rfl rfl ?_
            refine wp0 rfl rfl ?_
            refine wp2b rfl rfl (fun c21 => ?_) (fun c21 => ?_)
            · refine wp0 rfl rfl ?_
              exact wp5i rfl rfl ⟨by subst_vars; simp only [fd, fd1, fd1b, fd2, fd3, if_true, if_false, c2, c12, c14, c18, c20, c21], rfl⟩
            · refine wp0 rfl rfl ?_
              refine wp1 rfl rfl ?_
              refine wp0 rfl rfl ?_
              refine wp0 rfl rfl ?_
              refine wp2 rfl rfl ?_
              exact wp5i rfl rfl ⟨by subst_vars; simp only [fd, fd1, fd1b, fd2, fd3, if_true, if_false, c2, c12, c14, c18, c20, c21], rfl⟩
        · refine wp0 rfl rfl ?_
          refine wp1 rfl rfl ?_
          refine wp0 rfl rfl ?_
          refine wp0 rfl rfl ?_
          exact wp5i rfl rfl ⟨by subst_vars; simp only [fd, fd1, fd1b, fd2, fd3, if_true, if_false, c2, c12, c14, c18], rfl⟩
    · refine wp1 rfl rfl ?_
      refine wp1 rfl rfl ?_
      refine wp3 rfl (am_getf rfl rfl) ?_
      refine wp0 rfl rfl ?_
      refine wp0 rfl rfl ?_
      refine wp2b rfl rfl (fun c22 => ?_) (fun c22 => ?_)
      · refine wp0 rfl rfl ?_
        refine wp2 rfl rfl ?_
        refine wp1 rfl rfl ?_
        refine wpV (lv' := [(0, .ref 24), (3, .int l3), (4, .long z1), (6, .int 1)]) rfl ?_
        refine wp1 rfl rfl ?_
        refine wp2 (pc' := 70) rfl rfl ?_
        refine wp1 rfl rfl ?_
        refine wp2b rfl rfl (fun c23 => ?_) (fun c23 => ?_)
        · refine wp1 rfl rfl ?_
          refine wp0 rfl rfl ?_
          refine wp2 rfl rfl ?_
          exact wp5i rfl rfl ⟨by subst_vars; simp only [fd, fd1, fd1b, fd2, fd3, if_true, if_false, c2, c12, c22, c23], rfl⟩
        · refine wp1 rfl rfl ?_
          refine wp1 rfl rfl ?_
          refine wp3 rfl (am_getf rfl rfl) ?_
          refine wp0 rfl rfl ?_
          refine wp0 rfl rfl ?_
          refine wp2b rfl rfl (fun c24 => ?_) (fun c24 => ?_)
          · refine wp0 rfl rfl ?_
            exact wp5i rfl rfl ⟨by subst_vars; simp only [fd, fd1, fd1b, fd2, fd3, if_true, if_false, c2, c12, c22, c23, c24], rfl⟩
          · refine wp1 rfl rfl ?_
            refine wp1 rfl rfl ?_
            refine wp3 rfl (am_getf rfl rfl) ?_
            refine wp0 rfl rfl ?_
            refine wp0 rfl rfl ?_
            refine wp2b rfl rfl (fun c25 => ?_) (fun c25 => ?_)
            · refine wp0 rfl rfl ?_
              exact wp5i rfl rfl ⟨by subst_vars; simp only [fd, fd1, fd1b, fd2, fd3, if_true, if_false, c2, c12, c22, c23, c24, c25], rfl⟩
            · refine wp1 rfl rfl ?_
              refine wp0 rfl rfl ?_
              refine wp2 rfl rfl ?_
              exact wp5i rfl rfl ⟨by subst_vars; simp only [fd, fd1, fd1b, fd2, fd3, if_true, if_false, c2, c12, c22, c23, c24, c25], rfl⟩
      · refine wp1 rfl rfl ?_
        refine wp1 rfl rfl ?_
        refine wp3 rfl (am_getf rfl rfl) ?_
        refine wp0 rfl rfl ?_
        refine wp0 rfl rfl ?_
        refine wp2b rfl rfl (fun c26 => ?_) (fun c26 => ?_)
        · refine wp0 rfl rfl ?_
          refine wp1 rfl rfl ?_
          refine wpV (lv' := [(0, .ref 24), (3, .int l3), (4, .long z1), (6, .int 0)]) rfl ?_
          refine wp1 rfl rfl ?_
          refine wp2 (pc' := 74) rfl rfl ?_
          refine wp1 rfl rfl ?_
          refine wp1 rfl rfl ?_
          refine wp3 rfl (am_getf rfl rfl) ?_
          refine wp0 rfl rfl ?_
          refine wp0 rfl rfl ?_
          refine wp2b rfl rfl (fun c27 => ?_) (fun c27 => ?_)
          · refine wp0 rfl rfl ?_
            exact wp5i rfl rfl ⟨by subst_vars; simp only [fd, fd1, fd1b, fd2, fd3, if_true, if_false, c2, c12, c22, c26, c27], rfl⟩
          · refine wp1 rfl rfl ?_
            refine wp1 rfl rfl ?_
            refine wp3 rfl (am_getf rfl rfl) ?_
            refine wp0 rfl rfl ?_
            refine wp0 rfl rfl ?_
            refine wp2b rfl rfl (fun c28 => ?_) (fun c28 => ?_)
            · refine wp0 rfl rfl ?_
              exact wp5i rfl rfl ⟨by subst_vars; simp only [fd, fd1, fd1b, fd2, fd3, if_true, if_false, c2, c12, c22, c26, c27, c28], rfl⟩
            · refine wp1 rfl rfl ?_
              refine wp0 rfl rfl ?_
              refine wp2 rfl rfl ?_
              exact wp5i rfl rfl ⟨by subst_vars; simp only [fd, fd1, fd1b, fd2, fd3, if_true, if_false, c2, c12, c22, c26, c27, c28], rfl⟩
        · refine wp1 rfl rfl ?_
          refine wp1 rfl rfl ?_
          refine wp3 rfl (am_getf rfl rfl) ?_
          refine wp0 rfl rfl ?_
          refine wp0 rfl rfl ?_
          refine wp2b rfl rfl (fun c29 => ?_) (fun c29 => ?_)
          · refine wp0 rfl rfl ?_
            refine wp1 rfl rfl ?_
            refine wpV (lv' := [(0, .ref 24), (3, .int l3), (4, .long z1), (6, .int 0)]) rfl ?_
            refine wp1 rfl rfl ?_
            refine wp2 (pc' := 74) rfl rfl ?_
            refine wp1 rfl rfl ?_
            refine wp1 rfl rfl ?_
            refine wp3 rfl (am_getf rfl rfl) ?_
            refine wp0 rfl rfl ?_
            refine wp0 rfl rfl ?_
            refine wp2b rfl rfl (fun c30 => ?_) (fun c30 => ?_)
            · refine wp0 rfl rfl ?_
              exact wp5i rfl rfl ⟨by subst_vars; simp only [fd, fd1, fd1b, fd2, fd3, if_true, if_false, c2, c12, c22, c26, c29, c30], rfl⟩
            · refine wp1 rfl rfl ?_
              refine wp1 rfl rfl ?_
              refine wp3 rfl (am_getf rfl rfl) ?_
              refine wp0 rfl rfl ?_
              refine wp0 rfl rfl ?_
              refine wp2b rfl rfl (fun c31 => ?_) (fun c31 => ?_)
              · refine wp0 rfl rfl ?_
                exact wp5i rfl rfl ⟨by subst_vars; simp only [fd, fd1, fd1b, fd2, fd3, if_true, if_false, c2, c12, c22, c26, c29, c30, c31], rfl⟩
              · refine wp1 rfl rfl ?_
                refine wp0 rfl rfl ?_
                refine wp2 rfl rfl ?_
                exact wp5i rfl rfl ⟨by subst_vars; simp only [fd, fd1, fd1b, fd2, fd3, if_true, if_false, c2, c12, c22, c26, c29, c30, c31], rfl⟩
          · refine wp0 rfl rfl ?_
            refine wp2 rfl rfl ?_
            refine wp1 rfl rfl ?_
            refine wpV (lv' := [(0, .ref 24), (3, .int l3), (4, .long z1), (6, .int 1)]) rfl ?_
            refine wp1 rfl rfl ?_
            refine wp2 (pc' := 70) rfl rfl ?_
            refine wp1 rfl rfl ?_
            refine wp2b rfl rfl (fun c32 => ?_) (fun c32 => ?_)
            · refine wp1 rfl rfl ?_
              refine wp0 rfl rfl ?_
              refine wp2 rfl rfl ?_
              exact wp5i rfl rfl ⟨by subst_vars; simp only [fd, fd1, fd1b, fd2, fd3, if_true, if_false, c2, c12, c22, c26, c29, c32], rfl⟩
            · refine wp1 rfl rfl ?_
              refine wp1 rfl rfl ?_
              refine wp3 rfl (am_getf rfl rfl) ?_
              refine wp0 rfl rfl ?_
              refine wp0 rfl rfl ?_
              refine wp2b rfl rfl (fun c33 => ?_) (fun c33 => ?_)
              · refine wp0 rfl rfl ?_
                exact wp5i rfl rfl ⟨by subst_vars; simp only [fd, fd1, fd1b, fd2, fd3, if_true, if_false, c2, c12, c22, c26, c29, c32, c33], rfl⟩
              · refine wp1 rfl rfl ?_
                refine wp1 rfl rfl ?_
                refine wp3 rfl (am_getf rfl rfl) ?_
                refine wp0 rfl rfl ?_
                refine wp0 rfl rfl ?_
                refine wp2b rfl rfl (fun c34 => ?_) (fun c34 => ?_)
                · refine wp0 rfl rfl ?_
                  exact wp5i rfl rfl ⟨by subst_vars; simp only [fd, fd1, fd1b, fd2, fd3, if_true, if_false, c2, c12, c22, c26, c29, c32, c33, c34], rfl⟩
                · refine wp1 rfl rfl ?_
                  refine wp0 rfl rfl ?_
                  refine wp2 rfl rfl ?_
                  exact wp5i rfl rfl ⟨by subst_vars; simp only [fd, fd1, fd1b, fd2, fd3, if_true, if_false, c2, c12, c22, c26, c29, c32, c33, c34], rfl⟩
end SF

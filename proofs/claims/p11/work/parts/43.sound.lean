section SM9
variable {L : Nat} {xs : Nat → Int32} {s : cs} {D : List pgT}
set_option maxRecDepth 20000 in
theorem mem_bad {m : ms} (hI : ¬ (q_index m).toInt < 16) : tb_ev L xs 155 [.ref 24] (HH s (MC m) D) (some (.int 0)) (HH s (MC m) D) := by
  refine am_wp_ev ?_
  refine wp1 rfl rfl ?_
  refine wp3 rfl (am_getf rfl rfl) ?_
  refine wp0 rfl rfl ?_
  refine wp2b rfl rfl (fun c1 => ?_) (fun c1 => ?_)
  · refine wp0 rfl rfl ?_
    refine wp2 rfl rfl ?_
    refine wp1 rfl rfl ?_
    refine wpV (lv' := [(0, .ref 24), (1, .int 1)]) rfl ?_
    refine wp1 rfl rfl ?_
    refine wp3 rfl (am_getf rfl rfl) ?_
    refine wp0 rfl rfl ?_
    refine wp2b rfl rfl (fun c2 => ?_) (fun c2 => ?_)
    · refine wp0 rfl rfl ?_
      exact wp5z rfl rfl b0 ⟨rfl, rfl⟩
    · refine wp1 rfl rfl ?_
      refine wp3 rfl (am_getf rfl rfl) ?_
      refine wp0 rfl rfl ?_
      refine wp2b rfl rfl (fun c3 => ?_) (fun c3 => ?_)
      · refine wp0 rfl rfl ?_
        exact wp5z rfl rfl b0 ⟨rfl, rfl⟩
      · refine wp1 rfl rfl ?_
        refine wp3 rfl (am_getf rfl rfl) ?_
        refine wp0 rfl rfl ?_
        refine wp2b rfl rfl (fun c4 => ?_) (fun c4 => ?_)
        · refine wp0 rfl rfl ?_
          exact wp5z rfl rfl b0 ⟨rfl, rfl⟩
        · refine wp1 rfl rfl ?_
          refine wp3 rfl (am_getf rfl rfl) ?_
          refine wp0 rfl rfl ?_
          refine wp2b rfl rfl (fun c5 => ?_) (fun c5 => ?_)
          · refine wp0 rfl rfl ?_
            exact wp5z rfl rfl b0 ⟨rfl, rfl⟩
          · exact absurd c5 (fun z => z (idx15 hI))
  · refine wp1 rfl rfl ?_
    refine wp3 rfl (am_getf rfl rfl) ?_
    refine wp0 rfl rfl ?_
    refine wp2b rfl rfl (fun c6 => ?_) (fun c6 => ?_)
    · refine wp0 rfl rfl ?_
      refine wp2 rfl rfl ?_
      refine wp1 rfl rfl ?_
      refine wpV (lv' := [(0, .ref 24), (1, .int 1)]) rfl ?_
      refine wp1 rfl rfl ?_
      refine wp3 rfl (am_getf rfl rfl) ?_
      refine wp0 rfl rfl ?_
      refine wp2b rfl rfl (fun c7 => ?_) (fun c7 => ?_)
      · refine wp0 rfl rfl ?_
        exact wp5z rfl rfl b0 ⟨rfl, rfl⟩
      · refine wp1 rfl rfl ?_
        refine wp3 rfl (am_getf rfl rfl) ?_
        refine wp0 rfl rfl ?_
        refine wp2b rfl rfl (fun c8 => ?_) (fun c8 => ?_)
        · refine wp0 rfl rfl ?_
          exact wp5z rfl rfl b0 ⟨rfl, rfl⟩
        · refine wp1 rfl rfl ?_
          refine wp3 rfl (am_getf rfl rfl) ?_
          refine wp0 rfl rfl ?_
          refine wp2b rfl rfl (fun c9 => ?_) (fun c9 => ?_)
          · refine wp0 rfl rfl ?_
            exact wp5z rfl rfl b0 ⟨rfl, rfl⟩
          · refine wp1 rfl rfl ?_
            refine wp3 rfl (am_getf rfl rfl) ?_
            refine wp0 rfl rfl ?_
            refine wp2b rfl rfl (fun c10 => ?_) (fun c10 => ?_)
            · refine wp0 rfl rfl ?_
              exact wp5z rfl rfl b0 ⟨rfl, rfl⟩
            · exact absurd c10 (fun z => z (idx15 hI))
    · refine wp1 rfl rfl ?_
      refine wp3 rfl (am_getf rfl rfl) ?_
      refine wp0 rfl rfl ?_
      refine wp2b rfl rfl (fun c11 => ?_) (fun c11 => ?_)
      · refine wp0 rfl rfl ?_
        refine wp2 rfl rfl ?_
        refine wp1 rfl rfl ?_
        refine wpV (lv' := [(0, .ref 24), (1, .int 1)]) rfl ?_
        refine wp1 rfl rfl ?_
        refine wp3 rfl (am_getf rfl rfl) ?_
        refine wp0 rfl rfl ?_
        refine wp2b rfl rfl (fun c12 => ?_) (fun c12 => ?_)
        · refine wp0 rfl rfl ?_
          exact wp5z rfl rfl b0 ⟨rfl, rfl⟩
        · refine wp1 rfl rfl ?_
          refine wp3 rfl (am_getf rfl rfl) ?_
          refine wp0 rfl rfl ?_
          refine wp2b rfl rfl (fun c13 => ?_) (fun c13 => ?_)
          · refine wp0 rfl rfl ?_
            exact wp5z rfl rfl b0 ⟨rfl, rfl⟩
          · refine wp1 rfl rfl ?_
            refine wp3 rfl (am_getf rfl rfl) ?_
            refine wp0 rfl rfl ?_
            refine wp2b rfl rfl (fun c14 => ?_) (fun c14 => ?_)
            · refine wp0 rfl rfl ?_
              exact wp5z rfl rfl b0 ⟨rfl, rfl⟩
            · refine wp1 rfl rfl ?_
              refine wp3 rfl (am_getf rfl rfl) ?_
              refine wp0 rfl rfl ?_
              refine wp2b rfl rfl (fun c15 => ?_) (fun c15 => ?_)
              · refine wp0 rfl rfl ?_
                exact wp5z rfl rfl b0 ⟨rfl, rfl⟩
              · exact absurd c15 (fun z => z (idx15 hI))
      · refine wp1 rfl rfl ?_
        refine wp3 rfl (am_getf rfl rfl) ?_
        refine wp0 rfl rfl ?_
        refine wp2b rfl rfl (fun c16 => ?_) (fun c16 => ?_)
        · refine wp0 rfl rfl ?_
          refine wp2 rfl rfl ?_
          refine wp1 rfl rfl ?_
          refine wpV (lv' := [(0, .ref 24), (1, .int 1)]) rfl ?_
          refine wp1 rfl rfl ?_
          refine wp3 rfl (am_getf rfl rfl) ?_
          refine wp0 rfl rfl ?_
          refine wp2b rfl rfl (fun c17 => ?_) (fun c17 => ?_)
          · refine wp0 rfl rfl ?_
            exact wp5z rfl rfl b0 ⟨rfl, rfl⟩
          · refine wp1 rfl rfl ?_
            refine wp3 rfl (am_getf rfl rfl) ?_
            refine wp0 rfl rfl ?_
            refine wp2b rfl rfl (fun c18 => ?_) (fun c18 => ?_)
            · refine wp0 rfl rfl ?_
              exact wp5z rfl rfl b0 ⟨rfl, rfl⟩
            · refine wp1 rfl rfl ?_
              refine wp3 rfl (am_getf rfl rfl) ?_
              refine wp0 rfl rfl ?_
              refine wp2b rfl rfl (fun c19 => ?_) (fun c19 => ?_)
              · refine wp0 rfl rfl ?_
                exact wp5z rfl rfl b0 ⟨rfl, rfl⟩
              · refine wp1 rfl rfl ?_
                refine wp3 rfl (am_getf rfl rfl) ?_
                refine wp0 rfl rfl ?_
                refine wp2b rfl rfl (fun c20 => ?_) (fun c20 => ?_)
                · refine wp0 rfl rfl ?_
                  exact wp5z rfl rfl b0 ⟨rfl, rfl⟩
                · exact absurd c20 (fun z => z (idx15 hI))
        · refine wp0 rfl rfl ?_
          refine wp1 rfl rfl ?_
          refine wpV (lv' := [(0, .ref 24), (1, .int 0)]) rfl ?_
          refine wp1 rfl rfl ?_
          refine wp3 rfl (am_getf rfl rfl) ?_
          refine wp0 rfl rfl ?_
          refine wp2b rfl rfl (fun c21 => ?_) (fun c21 => ?_)
          · refine wp0 rfl rfl ?_
            exact wp5z rfl rfl b0 ⟨rfl, rfl⟩
          · refine wp1 rfl rfl ?_
            refine wp3 rfl (am_getf rfl rfl) ?_
            refine wp0 rfl rfl ?_
            refine wp2b rfl rfl (fun c22 => ?_) (fun c22 => ?_)
            · refine wp0 rfl rfl ?_
              exact wp5z rfl rfl b0 ⟨rfl, rfl⟩
            · refine wp1 rfl rfl ?_
              refine wp3 rfl (am_getf rfl rfl) ?_
              refine wp0 rfl rfl ?_
              refine wp2b rfl rfl (fun c23 => ?_) (fun c23 => ?_)
              · refine wp0 rfl rfl ?_
                exact wp5z rfl rfl b0 ⟨rfl, rfl⟩
              · refine wp1 rfl rfl ?_
                refine wp3 rfl (am_getf rfl rfl) ?_
                refine wp0 rfl rfl ?_
                refine wp2b rfl rfl (fun c24 => ?_) (fun c24 => ?_)
                · refine wp0 rfl rfl ?_
                  exact wp5z rfl rfl b0 ⟨rfl, rfl⟩
                · exact absurd c24 (fun z => z (idx15 hI))
set_option maxRecDepth 20000 in
theorem siz_bad19 {m : ms} (h1 : ¬ q_width m = 1) (h4 : ¬ q_width m = 4) (h8 : ¬ q_width m = 8) : tb_ev L xs 180 [.ref 24] (HH s (MC (t_op m 19)) D) (some (.int 0)) (HH s (MC (t_op m 19)) D) := by
  refine am_wp_ev ?_
  refine wp1 rfl rfl ?_
  refine wp3 rfl (am_getf rfl rfl) ?_
  refine wp0 rfl rfl ?_
  refine wp2b rfl rfl (fun c1 => ?_) (fun c1 => ?_)
  · exact absurd c1 h1
  · refine wp1 rfl rfl ?_
    refine wp3 rfl (am_getf rfl rfl) ?_
    refine wp0 rfl rfl ?_
    refine wp2b rfl rfl (fun c2 => ?_) (fun c2 => ?_)
    · exact absurd c2 h4
    · refine wp1 rfl rfl ?_
      refine wp3 rfl (am_getf rfl rfl) ?_
      refine wp0 rfl rfl ?_
      refine wp2b rfl rfl (fun c3 => ?_) (fun c3 => ?_)
      · exact absurd c3 h8
      · refine wp0 rfl rfl ?_
        refine wp1 rfl rfl ?_
        refine wpV (lv' := [(0, .ref 24), (1, .int 0)]) rfl ?_
        refine wp1 rfl rfl ?_
        refine wp3 rfl (am_getf rfl rfl) ?_
        refine wp0 rfl rfl ?_
        refine wp2b rfl rfl (fun c4 => ?_) (fun c4 => ?_)
        · exact absurd c4 h4
        · refine wp1 rfl rfl ?_
          refine wp3 rfl (am_getf rfl rfl) ?_
          refine wp0 rfl rfl ?_
          refine wp2b rfl rfl (fun c5 => ?_) (fun c5 => ?_)
          · exact absurd c5 h8
          · refine wp0 rfl rfl ?_
            refine wp1 rfl rfl ?_
            refine wpV (lv' := [(0, .ref 24), (1, .int 0), (2, .int 0)]) rfl ?_
            refine wp1 rfl rfl ?_
            refine wp3 rfl (am_getf rfl rfl) ?_
            refine wp0 rfl rfl ?_
            refine wp2 (pc' := 63) rfl rfl ?_
            refine wp1 rfl rfl ?_
            refine wp3 rfl (am_getf rfl rfl) ?_
            refine wp0 rfl rfl ?_
            refine wp2 (pc' := 72) rfl rfl ?_
            refine wp1 rfl rfl ?_
            refine wp3 rfl (am_getf rfl rfl) ?_
            refine wp0 rfl rfl ?_
            refine wp2 (pc' := 96) rfl rfl ?_
            refine wp1 rfl rfl ?_
            refine wp3 rfl (am_getf rfl rfl) ?_
            refine wp0 rfl rfl ?_
            refine wp2 (pc' := 119) rfl rfl ?_
            refine wp1 rfl rfl ?_
            refine wp3 rfl (am_getf rfl rfl) ?_
            refine wp0 rfl rfl ?_
            refine wp2 (pc' := 137) rfl rfl ?_
            refine wp1 rfl rfl ?_
            refine wp3 rfl (am_getf rfl rfl) ?_
            refine wp0 rfl rfl ?_
            refine wp2 (pc' := 168) rfl rfl ?_
            refine wp1 rfl rfl ?_
            refine wp3 rfl (am_getf rfl rfl) ?_
            refine wp0 rfl rfl ?_
            refine wp2 (pc' := 177) rfl rfl ?_
            refine wp1 rfl rfl ?_
            refine wp3 rfl (am_getf rfl rfl) ?_
            refine wp0 rfl rfl ?_
            refine wp2 (pc' := 186) rfl rfl ?_
            refine wp1 rfl rfl ?_
            refine wp3 rfl (am_getf rfl rfl) ?_
            refine wp0 rfl rfl ?_
            refine wp2 (pc' := 240) rfl rfl ?_
            refine wp0 rfl rfl ?_
            refine wp2 rfl rfl ?_
            refine wp1 rfl rfl ?_
            refine wpV (lv' := [(1, .int 0), (2, .int 0), (3, .int 1)]) rfl ?_
            refine wp1 rfl rfl ?_
            refine wp2 (pc' := 250) rfl rfl ?_
            refine wp1 rfl rfl ?_
            refine wp2 rfl rfl ?_
            exact wp5z rfl rfl b0 ⟨rfl, rfl⟩
set_option maxRecDepth 20000 in
theorem siz_bad20 {m : ms} (h1 : ¬ q_width m = 1) (h4 : ¬ q_width m = 4) (h8 : ¬ q_width m = 8) : tb_ev L xs 180 [.ref 24] (HH s (MC (t_op m 20)) D) (some (.int 0)) (HH s (MC (t_op m 20)) D) := by
  refine am_wp_ev ?_
  refine wp1 rfl rfl ?_
  refine wp3 rfl (am_getf rfl rfl) ?_
  refine wp0 rfl rfl ?_
  refine wp2b rfl rfl (fun c1 => ?_) (fun c1 => ?_)
  · exact absurd c1 h1
  · refine wp1 rfl rfl ?_
    refine wp3 rfl (am_getf rfl rfl) ?_
    refine wp0 rfl rfl ?_
    refine wp2b rfl rfl (fun c2 => ?_) (fun c2 => ?_)
    · exact absurd c2 h4
    · refine wp1 rfl rfl ?_
      refine wp3 rfl (am_getf rfl rfl) ?_
      refine wp0 rfl rfl ?_
      refine wp2b rfl rfl (fun c3 => ?_) (fun c3 => ?_)
      · exact absurd c3 h8
      · refine wp0 rfl rfl ?_
        refine wp1 rfl rfl ?_
        refine wpV (lv' := [(0, .ref 24), (1, .int 0)]) rfl ?_
        refine wp1 rfl rfl ?_
        refine wp3 rfl (am_getf rfl rfl) ?_
        refine wp0 rfl rfl ?_
        refine wp2b rfl rfl (fun c4 => ?_) (fun c4 => ?_)
        · exact absurd c4 h4
        · refine wp1 rfl rfl ?_
          refine wp3 rfl (am_getf rfl rfl) ?_
          refine wp0 rfl rfl ?_
          refine wp2b rfl rfl (fun c5 => ?_) (fun c5 => ?_)
          · exact absurd c5 h8
          · refine wp0 rfl rfl ?_
            refine wp1 rfl rfl ?_
            refine wpV (lv' := [(0, .ref 24), (1, .int 0), (2, .int 0)]) rfl ?_
            refine wp1 rfl rfl ?_
            refine wp3 rfl (am_getf rfl rfl) ?_
            refine wp0 rfl rfl ?_
            refine wp2 (pc' := 63) rfl rfl ?_
            refine wp1 rfl rfl ?_
            refine wp3 rfl (am_getf rfl rfl) ?_
            refine wp0 rfl rfl ?_
            refine wp2 (pc' := 72) rfl rfl ?_
            refine wp1 rfl rfl ?_
            refine wp3 rfl (am_getf rfl rfl) ?_
            refine wp0 rfl rfl ?_
            refine wp2 (pc' := 96) rfl rfl ?_
            refine wp1 rfl rfl ?_
            refine wp3 rfl (am_getf rfl rfl) ?_
            refine wp0 rfl rfl ?_
            refine wp2 (pc' := 119) rfl rfl ?_
            refine wp1 rfl rfl ?_
            refine wp3 rfl (am_getf rfl rfl) ?_
            refine wp0 rfl rfl ?_
            refine wp2 (pc' := 137) rfl rfl ?_
            refine wp1 rfl rfl ?_
            refine wp3 rfl (am_getf rfl rfl) ?_
            refine wp0 rfl rfl ?_
            refine wp2 (pc' := 168) rfl rfl ?_
            refine wp1 rfl rfl ?_
            refine wp3 rfl (am_getf rfl rfl) ?_
            refine wp0 rfl rfl ?_
            refine wp2 (pc' := 177) rfl rfl ?_
            refine wp1 rfl rfl ?_
            refine wp3 rfl (am_getf rfl rfl) ?_
            refine wp0 rfl rfl ?_
            refine wp2 (pc' := 186) rfl rfl ?_
            refine wp1 rfl rfl ?_
            refine wp3 rfl (am_getf rfl rfl) ?_
            refine wp0 rfl rfl ?_
            refine wp2 (pc' := 240) rfl rfl ?_
            refine wp0 rfl rfl ?_
            refine wp2 rfl rfl ?_
            refine wp1 rfl rfl ?_
            refine wpV (lv' := [(1, .int 0), (2, .int 0), (3, .int 1)]) rfl ?_
            refine wp1 rfl rfl ?_
            refine wp2 (pc' := 250) rfl rfl ?_
            refine wp1 rfl rfl ?_
            refine wp2 rfl rfl ?_
            exact wp5z rfl rfl b0 ⟨rfl, rfl⟩
set_option maxRecDepth 20000 in
theorem ops_bad {m : ms} (hk : ¬ q_kinds m 1 = 2) : tb_ev L xs 161 [.ref 24] (HH s (MC (t_op m 11)) D) (some (.int 0)) (HH s (MC (t_op m 11)) D) := by
  refine am_wp_ev ?_
  refine wp1 rfl rfl ?_
  refine wp3 rfl (am_getf rfl rfl) ?_
  refine wp0 rfl rfl ?_
  refine wp3 rfl (am_iald rfl (by decide)) ?_
  refine wpTi (fun z1 ez1 => ?_)
  refine wp1 rfl rfl ?_
  refine wpV (lv' := [(0, .ref 24), (1, .int z1)]) rfl ?_
  refine wp1 rfl rfl ?_
  refine wp3 rfl (am_getf rfl rfl) ?_
  refine wp0 rfl rfl ?_
  refine wp3 rfl (am_iald rfl (by decide)) ?_
  refine wpTi (fun z2 ez2 => ?_)
  refine wp1 rfl rfl ?_
  refine wpV (lv' := [(0, .ref 24), (1, .int z1), (2, .int z2)]) rfl ?_
  refine wp1 rfl rfl ?_
  refine wp3 rfl (am_getf rfl rfl) ?_
  refine wp0 rfl rfl ?_
  refine wp3 rfl (am_iald rfl (by decide)) ?_
  refine wp2b rfl rfl (fun c3 => ?_) (fun c3 => ?_)
  · refine wp0 rfl rfl ?_
    refine wp2 rfl rfl ?_
    refine wp1 rfl rfl ?_
    refine wpV (lv' := [(0, .ref 24), (1, .int z1), (2, .int z2), (3, .int 1)]) rfl ?_
    refine wp1 rfl rfl ?_
    refine wp2b rfl rfl (fun c4 => ?_) (fun c4 => ?_)
    · refine wp1 rfl rfl ?_
      refine wp2 (pc' := 37) rfl rfl ?_
      refine wp0 rfl rfl ?_
      refine wp2 rfl rfl ?_
      refine wp1 rfl rfl ?_
      refine wpV (lv' := [(0, .ref 24), (1, .int z1), (2, .int z2), (3, .int 1), (4, .int 1)]) rfl ?_
      refine wp1 rfl rfl ?_
      refine wp3 rfl (am_getf rfl rfl) ?_
      refine wp0 rfl rfl ?_
      refine wp2 (pc' := 53) rfl rfl ?_
      refine wp1 rfl rfl ?_
      refine wp3 rfl (am_getf rfl rfl) ?_
      refine wp0 rfl rfl ?_
      refine wp2 (pc' := 62) rfl rfl ?_
      refine wp1 rfl rfl ?_
      refine wp3 rfl (am_getf rfl rfl) ?_
      refine wp0 rfl rfl ?_
      refine wp2 (pc' := 138) rfl rfl ?_
      refine wp1 rfl rfl ?_
      refine wp3 rfl (am_getf rfl rfl) ?_
      refine wp0 rfl rfl ?_
      refine wp2 (pc' := 147) rfl rfl ?_
      refine wp1 rfl rfl ?_
      refine wp2 (pc' := 151) rfl rfl ?_
      refine wp1 rfl rfl ?_
      refine wp0 rfl rfl ?_
      refine wp2b rfl rfl (fun c5 => ?_) (fun c5 => ?_)
      · refine wp1 rfl rfl ?_
        refine wp0 rfl rfl ?_
        refine wp2b rfl rfl (fun c6 => ?_) (fun c6 => ?_)
        · exact absurd (ez2.trans c6) hk
        · refine wp0 rfl rfl ?_
          exact wp5z rfl rfl b0 ⟨rfl, rfl⟩
      · refine wp0 rfl rfl ?_
        exact wp5z rfl rfl b0 ⟨rfl, rfl⟩
    · refine wp0 rfl rfl ?_
      refine wp1 rfl rfl ?_
      refine wpV (lv' := [(0, .ref 24), (1, .int z1), (2, .int z2), (3, .int 1), (4, .int 0)]) rfl ?_
      refine wp1 rfl rfl ?_
      refine wp3 rfl (am_getf rfl rfl) ?_
      refine wp0 rfl rfl ?_
      refine wp2 (pc' := 53) rfl rfl ?_
      refine wp1 rfl rfl ?_
      refine wp3 rfl (am_getf rfl rfl) ?_
      refine wp0 rfl rfl ?_
      refine wp2 (pc' := 62) rfl rfl ?_
      refine wp1 rfl rfl ?_
      refine wp3 rfl (am_getf rfl rfl) ?_
      refine wp0 rfl rfl ?_
      refine wp2 (pc' := 138) rfl rfl ?_
      refine wp1 rfl rfl ?_
      refine wp3 rfl (am_getf rfl rfl) ?_
      refine wp0 rfl rfl ?_
      refine wp2 (pc' := 147) rfl rfl ?_
      refine wp1 rfl rfl ?_
      refine wp2 (pc' := 151) rfl rfl ?_
      refine wp1 rfl rfl ?_
      refine wp0 rfl rfl ?_
      refine wp2b rfl rfl (fun c7 => ?_) (fun c7 => ?_)
      · refine wp1 rfl rfl ?_
        refine wp0 rfl rfl ?_
        refine wp2b rfl rfl (fun c8 => ?_) (fun c8 => ?_)
        · exact absurd (ez2.trans c8) hk
        · refine wp0 rfl rfl ?_
          exact wp5z rfl rfl b0 ⟨rfl, rfl⟩
      · refine wp0 rfl rfl ?_
        exact wp5z rfl rfl b0 ⟨rfl, rfl⟩
  · refine wp0 rfl rfl ?_
    refine wp1 rfl rfl ?_
    refine wpV (lv' := [(0, .ref 24), (1, .int z1), (2, .int z2), (3, .int 0)]) rfl ?_
    refine wp1 rfl rfl ?_
    refine wp2b rfl rfl (fun c9 => ?_) (fun c9 => ?_)
    · refine wp1 rfl rfl ?_
      refine wp2 (pc' := 41) rfl rfl ?_
      refine wp0 rfl rfl ?_
      refine wp1 rfl rfl ?_
      refine wpV (lv' := [(0, .ref 24), (1, .int z1), (2, .int z2), (3, .int 0), (4, .int 0)]) rfl ?_
      refine wp1 rfl rfl ?_
      refine wp3 rfl (am_getf rfl rfl) ?_
      refine wp0 rfl rfl ?_
      refine wp2 (pc' := 53) rfl rfl ?_
      refine wp1 rfl rfl ?_
      refine wp3 rfl (am_getf rfl rfl) ?_
      refine wp0 rfl rfl ?_
      refine wp2 (pc' := 62) rfl rfl ?_
      refine wp1 rfl rfl ?_
      refine wp3 rfl (am_getf rfl rfl) ?_
      refine wp0 rfl rfl ?_
      refine wp2 (pc' := 138) rfl rfl ?_
      refine wp1 rfl rfl ?_
      refine wp3 rfl (am_getf rfl rfl) ?_
      refine wp0 rfl rfl ?_
      refine wp2 (pc' := 147) rfl rfl ?_
      refine wp1 rfl rfl ?_
      refine wp2 (pc' := 165) rfl rfl ?_
      refine wp0 rfl rfl ?_
      exact wp5z rfl rfl b0 ⟨rfl, rfl⟩
    · refine wp0 rfl rfl ?_
      refine wp1 rfl rfl ?_
      refine wpV (lv' := [(0, .ref 24), (1, .int z1), (2, .int z2), (3, .int 0), (4, .int 0)]) rfl ?_
      refine wp1 rfl rfl ?_
      refine wp3 rfl (am_getf rfl rfl) ?_
      refine wp0 rfl rfl ?_
      refine wp2 (pc' := 53) rfl rfl ?_
      refine wp1 rfl rfl ?_
      refine wp3 rfl (am_getf rfl rfl) ?_
      refine wp0 rfl rfl ?_
      refine wp2 (pc' := 62) rfl rfl ?_
      refine wp1 rfl rfl ?_
      refine wp3 rfl (am_getf rfl rfl) ?_
      refine wp0 rfl rfl ?_
      refine wp2 (pc' := 138) rfl rfl ?_
      refine wp1 rfl rfl ?_
      refine wp3 rfl (am_getf rfl rfl) ?_
      refine wp0 rfl rfl ?_
      refine wp2 (pc' := 147) rfl rfl ?_
      refine wp1 rfl rfl ?_
      refine wp2 (pc' := 165) rfl rfl ?_
      refine wp0 rfl rfl ?_
      exact wp5z rfl rfl b0 ⟨rfl, rfl⟩
set_option maxRecDepth 20000 in
theorem snd_bad32 {m : ms} (hJ : K m) (hA : q_kinds m 0 = 2 ∨ q_kinds m 1 = 2 ∨ q_kinds m 2 = 2) (hI : ¬ (q_index m).toInt < 16) : tb_wp L xs 150 32 [(0, .ref 24)] [] (HH s (MC m) D) (NX s D 0) := by
  refine wp1 rfl rfl ?_
  refine wp3 rfl (am_getf rfl rfl) ?_
  refine wp0 rfl rfl ?_
  refine wp2b rfl rfl (fun c1 => ?_) (fun c1 => ?_)
  · refine wp1 rfl rfl ?_
    refine wp3 rfl (am_getf rfl rfl) ?_
    refine wp2b rfl rfl (fun c2 => ?_) (fun c2 => ?_)
    · refine wp0 rfl rfl ?_
      refine wp2 rfl rfl ?_
      refine wp1 rfl rfl ?_
      refine wpV (lv' := [(0, .ref 24), (1, .int 1)]) rfl ?_
      refine wp0 rfl rfl ?_
      refine wp1 rfl rfl ?_
      refine wpV (lv' := [(0, .ref 24), (1, .int 1), (2, .int 0)]) rfl ?_
      refine wp0 rfl rfl ?_
      refine wp1 rfl rfl ?_
      refine wpV (lv' := [(0, .ref 24), (1, .int 1), (2, .int 0), (3, .int 0)]) rfl ?_
      refine wp1 rfl rfl ?_
      refine wp0 rfl rfl ?_
      refine wp2 (pc' := 96) rfl rfl ?_
      refine wp1 rfl rfl ?_
      refine wp1 rfl rfl ?_
      refine wp3 rfl (am_getf rfl rfl) ?_
      refine wp1 rfl rfl ?_
      refine wp3 rfl (am_iald rfl (by decide)) ?_
      refine wp0 rfl rfl ?_
      refine wp2b rfl rfl (fun c3 => ?_) (fun c3 => ?_)
      · refine wp0 rfl rfl ?_
        refine wp2 rfl rfl ?_
        refine wp0 rfl rfl ?_
        refine wpS (st' := [.int 1]) rfl ?_
        refine wp1 rfl rfl ?_
        refine wpV (lv' := [(0, .ref 24), (1, .int 1), (2, .int 1), (3, .int 0)]) rfl ?_
        refine wp1 rfl rfl ?_
        refine wpV (lv' := [(0, .ref 24), (1, .int 1), (2, .int 1), (3, .int 1)]) rfl ?_
        refine wp2 rfl rfl ?_
        refine wp1 rfl rfl ?_
        refine wp0 rfl rfl ?_
        refine wp2 (pc' := 96) rfl rfl ?_
        refine wp1 rfl rfl ?_
        refine wp1 rfl rfl ?_
        refine wp3 rfl (am_getf rfl rfl) ?_
        refine wp1 rfl rfl ?_
        refine wp3 rfl (am_iald rfl (by decide)) ?_
        refine wp0 rfl rfl ?_
        refine wp2b rfl rfl (fun c4 => ?_) (fun c4 => ?_)
        · refine wp0 rfl rfl ?_
          refine wp2 rfl rfl ?_
          refine wp0 rfl rfl ?_
          refine wpS (st' := [.int 2]) rfl ?_
          refine wp1 rfl rfl ?_
          refine wpV (lv' := [(0, .ref 24), (1, .int 1), (2, .int 2), (3, .int 1)]) rfl ?_
          refine wp1 rfl rfl ?_
          refine wpV (lv' := [(0, .ref 24), (1, .int 1), (2, .int 2), (3, .int 2)]) rfl ?_
          refine wp2 rfl rfl ?_
          refine wp1 rfl rfl ?_
          refine wp0 rfl rfl ?_
          refine wp2 (pc' := 96) rfl rfl ?_
          refine wp1 rfl rfl ?_
          refine wp1 rfl rfl ?_
          refine wp3 rfl (am_getf rfl rfl) ?_
          refine wp1 rfl rfl ?_
          refine wp3 rfl (am_iald rfl (by decide)) ?_
          refine wp0 rfl rfl ?_
          refine wp2b rfl rfl (fun c5 => ?_) (fun c5 => ?_)
          · refine wp0 rfl rfl ?_
            refine wp2 rfl rfl ?_
            refine wp0 rfl rfl ?_
            refine wpS (st' := [.int 3]) rfl ?_
            refine wp1 rfl rfl ?_
            refine wpV (lv' := [(0, .ref 24), (1, .int 1), (2, .int 3), (3, .int 2)]) rfl ?_
            refine wp1 rfl rfl ?_
            refine wpV (lv' := [(0, .ref 24), (1, .int 1), (2, .int 3), (3, .int 3)]) rfl ?_
            refine wp2 rfl rfl ?_
            refine wp1 rfl rfl ?_
            refine wp0 rfl rfl ?_
            refine wp2 (pc' := 120) rfl rfl ?_
            refine wp1 rfl rfl ?_
            refine wp2 (pc' := 124) rfl rfl ?_
            refine wp1 rfl rfl ?_
            refine wp0 rfl rfl ?_
            refine wp2 (pc' := 144) rfl rfl ?_
            refine wp0 rfl rfl ?_
            exact wp5z rfl rfl b0 ⟨_, hJ, rfl, rfl⟩
          · refine wp0 rfl rfl ?_
            refine wp0 rfl rfl ?_
            refine wpS (st' := [.int 2]) rfl ?_
            refine wp1 rfl rfl ?_
            refine wpV (lv' := [(0, .ref 24), (1, .int 1), (2, .int 2), (3, .int 2)]) rfl ?_
            refine wp1 rfl rfl ?_
            refine wpV (lv' := [(0, .ref 24), (1, .int 1), (2, .int 2), (3, .int 3)]) rfl ?_
            refine wp2 rfl rfl ?_
            refine wp1 rfl rfl ?_
            refine wp0 rfl rfl ?_
            refine wp2 (pc' := 120) rfl rfl ?_
            refine wp1 rfl rfl ?_
            refine wp2 (pc' := 124) rfl rfl ?_
            refine wp1 rfl rfl ?_
            refine wp0 rfl rfl ?_
            refine wp2 (pc' := 144) rfl rfl ?_
            refine wp0 rfl rfl ?_
            exact wp5z rfl rfl b0 ⟨_, hJ, rfl, rfl⟩
        · refine wp0 rfl rfl ?_
          refine wp0 rfl rfl ?_
          refine wpS (st' := [.int 1]) rfl ?_
          refine wp1 rfl rfl ?_
          refine wpV (lv' := [(0, .ref 24), (1, .int 1), (2, .int 1), (3, .int 1)]) rfl ?_
          refine wp1 rfl rfl ?_
          refine wpV (lv' := [(0, .ref 24), (1, .int 1), (2, .int 1), (3, .int 2)]) rfl ?_
          refine wp2 rfl rfl ?_
          refine wp1 rfl rfl ?_
          refine wp0 rfl rfl ?_
          refine wp2 (pc' := 96) rfl rfl ?_
          refine wp1 rfl rfl ?_
          refine wp1 rfl rfl ?_
          refine wp3 rfl (am_getf rfl rfl) ?_
          refine wp1 rfl rfl ?_
          refine wp3 rfl (am_iald rfl (by decide)) ?_
          refine wp0 rfl rfl ?_
          refine wp2b rfl rfl (fun c6 => ?_) (fun c6 => ?_)
          · refine wp0 rfl rfl ?_
            refine wp2 rfl rfl ?_
            refine wp0 rfl rfl ?_
            refine wpS (st' := [.int 2]) rfl ?_
            refine wp1 rfl rfl ?_
            refine wpV (lv' := [(0, .ref 24), (1, .int 1), (2, .int 2), (3, .int 2)]) rfl ?_
            refine wp1 rfl rfl ?_
            refine wpV (lv' := [(0, .ref 24), (1, .int 1), (2, .int 2), (3, .int 3)]) rfl ?_
            refine wp2 rfl rfl ?_
            refine wp1 rfl rfl ?_
            refine wp0 rfl rfl ?_
            refine wp2 (pc' := 120) rfl rfl ?_
            refine wp1 rfl rfl ?_
            refine wp2 (pc' := 124) rfl rfl ?_
            refine wp1 rfl rfl ?_
            refine wp0 rfl rfl ?_
            refine wp2 (pc' := 144) rfl rfl ?_
            refine wp0 rfl rfl ?_
            exact wp5z rfl rfl b0 ⟨_, hJ, rfl, rfl⟩
          · refine wp0 rfl rfl ?_
            refine wp0 rfl rfl ?_
            refine wpS (st' := [.int 1]) rfl ?_
            refine wp1 rfl rfl ?_
            refine wpV (lv' := [(0, .ref 24), (1, .int 1), (2, .int 1), (3, .int 2)]) rfl ?_
            refine wp1 rfl rfl ?_
            refine wpV (lv' := [(0, .ref 24), (1, .int 1), (2, .int 1), (3, .int 3)]) rfl ?_
            refine wp2 rfl rfl ?_
            refine wp1 rfl rfl ?_
            refine wp0 rfl rfl ?_
            refine wp2 (pc' := 120) rfl rfl ?_
            refine wp1 rfl rfl ?_
            refine wp2 (pc' := 124) rfl rfl ?_
            refine wp1 rfl rfl ?_
            refine wp0 rfl rfl ?_
            refine wp2 (pc' := 129) rfl rfl ?_
            refine wp1 rfl rfl ?_
            refine wp2 (pc' := 133) rfl rfl ?_
            refine wp1 rfl rfl ?_
            refine am_ev_at rfl rfl (mem_bad hI) ?_
            refine wp2 (pc' := 144) rfl rfl ?_
            refine wp0 rfl rfl ?_
            exact wp5z rfl rfl b0 ⟨_, hJ, rfl, rfl⟩
      · refine wp0 rfl rfl ?_
        refine wp0 rfl rfl ?_
        refine wpS (st' := [.int 0]) rfl ?_
        refine wp1 rfl rfl ?_
        refine wpV (lv' := [(0, .ref 24), (1, .int 1), (2, .int 0), (3, .int 0)]) rfl ?_
        refine wp1 rfl rfl ?_
        refine wpV (lv' := [(0, .ref 24), (1, .int 1), (2, .int 0), (3, .int 1)]) rfl ?_
        refine wp2 rfl rfl ?_
        refine wp1 rfl rfl ?_
        refine wp0 rfl rfl ?_
        refine wp2 (pc' := 96) rfl rfl ?_
        refine wp1 rfl rfl ?_
        refine wp1 rfl rfl ?_
        refine wp3 rfl (am_getf rfl rfl) ?_
        refine wp1 rfl rfl ?_
        refine wp3 rfl (am_iald rfl (by decide)) ?_
        refine wp0 rfl rfl ?_
        refine wp2b rfl rfl (fun c7 => ?_) (fun c7 => ?_)
        · refine wp0 rfl rfl ?_
          refine wp2 rfl rfl ?_
          refine wp0 rfl rfl ?_
          refine wpS (st' := [.int 1]) rfl ?_
          refine wp1 rfl rfl ?_
          refine wpV (lv' := [(0, .ref 24), (1, .int 1), (2, .int 1), (3, .int 1)]) rfl ?_
          refine wp1 rfl rfl ?_
          refine wpV (lv' := [(0, .ref 24), (1, .int 1), (2, .int 1), (3, .int 2)]) rfl ?_
          refine wp2 rfl rfl ?_
          refine wp1 rfl rfl ?_
          refine wp0 rfl rfl ?_
          refine wp2 (pc' := 96) rfl rfl ?_
          refine wp1 rfl rfl ?_
          refine wp1 rfl rfl ?_
          refine wp3 rfl (am_getf rfl rfl) ?_
          refine wp1 rfl rfl ?_
          refine wp3 rfl (am_iald rfl (by decide)) ?_
          refine wp0 rfl rfl ?_
          refine wp2b rfl rfl (fun c8 => ?_) (fun c8 => ?_)
          · refine wp0 rfl rfl ?_
            refine wp2 rfl rfl ?_
            refine wp0 rfl rfl ?_
            refine wpS (st' := [.int 2]) rfl ?_
            refine wp1 rfl rfl ?_
            refine wpV (lv' := [(0, .ref 24), (1, .int 1), (2, .int 2), (3, .int 2)]) rfl ?_
            refine wp1 rfl rfl ?_
            refine wpV (lv' := [(0, .ref 24), (1, .int 1), (2, .int 2), (3, .int 3)]) rfl ?_
            refine wp2 rfl rfl ?_
            refine wp1 rfl rfl ?_
            refine wp0 rfl rfl ?_
            refine wp2 (pc' := 120) rfl rfl ?_
            refine wp1 rfl rfl ?_
            refine wp2 (pc' := 124) rfl rfl ?_
            refine wp1 rfl rfl ?_
            refine wp0 rfl rfl ?_
            refine wp2 (pc' := 144) rfl rfl ?_
            refine wp0 rfl rfl ?_
            exact wp5z rfl rfl b0 ⟨_, hJ, rfl, rfl⟩
          · refine wp0 rfl rfl ?_
            refine wp0 rfl rfl ?_
            refine wpS (st' := [.int 1]) rfl ?_
            refine wp1 rfl rfl ?_
            refine wpV (lv' := [(0, .ref 24), (1, .int 1), (2, .int 1), (3, .int 2)]) rfl ?_
            refine wp1 rfl rfl ?_
            refine wpV (lv' := [(0, .ref 24), (1, .int 1), (2, .int 1), (3, .int 3)]) rfl ?_
            refine wp2 rfl rfl ?_
            refine wp1 rfl rfl ?_
            refine wp0 rfl rfl ?_
            refine wp2 (pc' := 120) rfl rfl ?_
            refine wp1 rfl rfl ?_
            refine wp2 (pc' := 124) rfl rfl ?_
            refine wp1 rfl rfl ?_
            refine wp0 rfl rfl ?_
            refine wp2 (pc' := 129) rfl rfl ?_
            refine wp1 rfl rfl ?_
            refine wp2 (pc' := 133) rfl rfl ?_
            refine wp1 rfl rfl ?_
            refine am_ev_at rfl rfl (mem_bad hI) ?_
            refine wp2 (pc' := 144) rfl rfl ?_
            refine wp0 rfl rfl ?_
            exact wp5z rfl rfl b0 ⟨_, hJ, rfl, rfl⟩
        · refine wp0 rfl rfl ?_
          refine wp0 rfl rfl ?_
          refine wpS (st' := [.int 0]) rfl ?_
          refine wp1 rfl rfl ?_
          refine wpV (lv' := [(0, .ref 24), (1, .int 1), (2, .int 0), (3, .int 1)]) rfl ?_
          refine wp1 rfl rfl ?_
          refine wpV (lv' := [(0, .ref 24), (1, .int 1), (2, .int 0), (3, .int 2)]) rfl ?_
          refine wp2 rfl rfl ?_
          refine wp1 rfl rfl ?_
          refine wp0 rfl rfl ?_
          refine wp2 (pc' := 96) rfl rfl ?_
          refine wp1 rfl rfl ?_
          refine wp1 rfl rfl ?_
          refine wp3 rfl (am_getf rfl rfl) ?_
          refine wp1 rfl rfl ?_
          refine wp3 rfl (am_iald rfl (by decide)) ?_
          refine wp0 rfl rfl ?_
          refine wp2b rfl rfl (fun c9 => ?_) (fun c9 => ?_)
          · refine wp0 rfl rfl ?_
            refine wp2 rfl rfl ?_
            refine wp0 rfl rfl ?_
            refine wpS (st' := [.int 1]) rfl ?_
            refine wp1 rfl rfl ?_
            refine wpV (lv' := [(0, .ref 24), (1, .int 1), (2, .int 1), (3, .int 2)]) rfl ?_
            refine wp1 rfl rfl ?_
            refine wpV (lv' := [(0, .ref 24), (1, .int 1), (2, .int 1), (3, .int 3)]) rfl ?_
            refine wp2 rfl rfl ?_
            refine wp1 rfl rfl ?_
            refine wp0 rfl rfl ?_
            refine wp2 (pc' := 120) rfl rfl ?_
            refine wp1 rfl rfl ?_
            refine wp2 (pc' := 124) rfl rfl ?_
            refine wp1 rfl rfl ?_
            refine wp0 rfl rfl ?_
            refine wp2 (pc' := 129) rfl rfl ?_
            refine wp1 rfl rfl ?_
            refine wp2 (pc' := 133) rfl rfl ?_
            refine wp1 rfl rfl ?_
            refine am_ev_at rfl rfl (mem_bad hI) ?_
            refine wp2 (pc' := 144) rfl rfl ?_
            refine wp0 rfl rfl ?_
            exact wp5z rfl rfl b0 ⟨_, hJ, rfl, rfl⟩
          · refine wp0 rfl rfl ?_
            refine wp0 rfl rfl ?_
            refine wpS (st' := [.int 0]) rfl ?_
            refine wp1 rfl rfl ?_
            refine wpV (lv' := [(0, .ref 24), (1, .int 1), (2, .int 0), (3, .int 2)]) rfl ?_
            refine wp1 rfl rfl ?_
            refine wpV (lv' := [(0, .ref 24), (1, .int 1), (2, .int 0), (3, .int 3)]) rfl ?_
            refine wp2 rfl rfl ?_
            refine wp1 rfl rfl ?_
            refine wp0 rfl rfl ?_
            refine wp2 (pc' := 120) rfl rfl ?_
            refine wp1 rfl rfl ?_
            refine wp2 (pc' := 124) rfl rfl ?_
            refine wp1 rfl rfl ?_
            refine wp0 rfl rfl ?_
            refine wp2 (pc' := 129) rfl rfl ?_
            refine wp1 rfl rfl ?_
            refine wp2 (pc' := 140) rfl rfl ?_
            refine wp0 rfl rfl ?_
            refine wp2 rfl rfl ?_
            exact (hA.elim c3 (fun h => h.elim c7 c9)).elim
    · refine wp0 rfl rfl ?_
      refine wp1 rfl rfl ?_
      refine wpV (lv' := [(0, .ref 24), (1, .int 0)]) rfl ?_
      refine wp0 rfl rfl ?_
      refine wp1 rfl rfl ?_
      refine wpV (lv' := [(0, .ref 24), (1, .int 0), (2, .int 0)]) rfl ?_
      refine wp0 rfl rfl ?_
      refine wp1 rfl rfl ?_
      refine wpV (lv' := [(0, .ref 24), (1, .int 0), (2, .int 0), (3, .int 0)]) rfl ?_
      refine wp1 rfl rfl ?_
      refine wp0 rfl rfl ?_
      refine wp2 (pc' := 96) rfl rfl ?_
      refine wp1 rfl rfl ?_
      refine wp1 rfl rfl ?_
      refine wp3 rfl (am_getf rfl rfl) ?_
      refine wp1 rfl rfl ?_
      refine wp3 rfl (am_iald rfl (by decide)) ?_
      refine wp0 rfl rfl ?_
      refine wp2b rfl rfl (fun c10 => ?_) (fun c10 => ?_)
      · refine wp0 rfl rfl ?_
        refine wp2 rfl rfl ?_
        refine wp0 rfl rfl ?_
        refine wpS (st' := [.int 1]) rfl ?_
        refine wp1 rfl rfl ?_
        refine wpV (lv' := [(0, .ref 24), (1, .int 0), (2, .int 1), (3, .int 0)]) rfl ?_
        refine wp1 rfl rfl ?_
        refine wpV (lv' := [(0, .ref 24), (1, .int 0), (2, .int 1), (3, .int 1)]) rfl ?_
        refine wp2 rfl rfl ?_
        refine wp1 rfl rfl ?_
        refine wp0 rfl rfl ?_
        refine wp2 (pc' := 96) rfl rfl ?_
        refine wp1 rfl rfl ?_
        refine wp1 rfl rfl ?_
        refine wp3 rfl (am_getf rfl rfl) ?_
        refine wp1 rfl rfl ?_
        refine wp3 rfl (am_iald rfl (by decide)) ?_
        refine wp0 rfl rfl ?_
        refine wp2b rfl rfl (fun c11 => ?_) (fun c11 => ?_)
        · refine wp0 rfl rfl ?_
          refine wp2 rfl rfl ?_
          refine wp0 rfl rfl ?_
          refine wpS (st' := [.int 2]) rfl ?_
          refine wp1 rfl rfl ?_
          refine wpV (lv' := [(0, .ref 24), (1, .int 0), (2, .int 2), (3, .int 1)]) rfl ?_
          refine wp1 rfl rfl ?_
          refine wpV (lv' := [(0, .ref 24), (1, .int 0), (2, .int 2), (3, .int 2)]) rfl ?_
          refine wp2 rfl rfl ?_
          refine wp1 rfl rfl ?_
          refine wp0 rfl rfl ?_
          refine wp2 (pc' := 96) rfl rfl ?_
          refine wp1 rfl rfl ?_
          refine wp1 rfl rfl ?_
          refine wp3 rfl (am_getf rfl rfl) ?_
          refine wp1 rfl rfl ?_
          refine wp3 rfl (am_iald rfl (by decide)) ?_
          refine wp0 rfl rfl ?_
          refine wp2b rfl rfl (fun c12 => ?_) (fun c12 => ?_)
          · refine wp0 rfl rfl ?_
            refine wp2 rfl rfl ?_
            refine wp0 rfl rfl ?_
            refine wpS (st' := [.int 3]) rfl ?_
            refine wp1 rfl rfl ?_
            refine wpV (lv' := [(0, .ref 24), (1, .int 0), (2, .int 3), (3, .int 2)]) rfl ?_
            refine wp1 rfl rfl ?_
            refine wpV (lv' := [(0, .ref 24), (1, .int 0), (2, .int 3), (3, .int 3)]) rfl ?_
            refine wp2 rfl rfl ?_
            refine wp1 rfl rfl ?_
            refine wp0 rfl rfl ?_
            refine wp2 (pc' := 120) rfl rfl ?_
            refine wp1 rfl rfl ?_
            refine wp2 (pc' := 144) rfl rfl ?_
            refine wp0 rfl rfl ?_
            exact wp5z rfl rfl b0 ⟨_, hJ, rfl, rfl⟩
          · refine wp0 rfl rfl ?_
            refine wp0 rfl rfl ?_
            refine wpS (st' := [.int 2]) rfl ?_
            refine wp1 rfl rfl ?_
            refine wpV (lv' := [(0, .ref 24), (1, .int 0), (2, .int 2), (3, .int 2)]) rfl ?_
            refine wp1 rfl rfl ?_
            refine wpV (lv' := [(0, .ref 24), (1, .int 0), (2, .int 2), (3, .int 3)]) rfl ?_
            refine wp2 rfl rfl ?_
            refine wp1 rfl rfl ?_
            refine wp0 rfl rfl ?_
            refine wp2 (pc' := 120) rfl rfl ?_
            refine wp1 rfl rfl ?_
            refine wp2 (pc' := 144) rfl rfl ?_
            refine wp0 rfl rfl ?_
            exact wp5z rfl rfl b0 ⟨_, hJ, rfl, rfl⟩
        · refine wp0 rfl rfl ?_
          refine wp0 rfl rfl ?_
          refine wpS (st' := [.int 1]) rfl ?_
          refine wp1 rfl rfl ?_
          refine wpV (lv' := [(0, .ref 24), (1, .int 0), (2, .int 1), (3, .int 1)]) rfl ?_
          refine wp1 rfl rfl ?_
          refine wpV (lv' := [(0, .ref 24), (1, .int 0), (2, .int 1), (3, .int 2)]) rfl ?_
          refine wp2 rfl rfl ?_
          refine wp1 rfl rfl ?_
          refine wp0 rfl rfl ?_
          refine wp2 (pc' := 96) rfl rfl ?_
          refine wp1 rfl rfl ?_
          refine wp1 rfl rfl ?_
          refine wp3 rfl (am_getf rfl rfl) ?_
          refine wp1 rfl rfl ?_
          refine wp3 rfl (am_iald rfl (by decide)) ?_
          refine wp0 rfl rfl ?_
          refine wp2b rfl rfl (fun c13 => ?_) (fun c13 => ?_)
          · refine wp0 rfl rfl ?_
            refine wp2 rfl rfl ?_
            refine wp0 rfl rfl ?_
            refine wpS (st' := [.int 2]) rfl ?_
            refine wp1 rfl rfl ?_
            refine wpV (lv' := [(0, .ref 24), (1, .int 0), (2, .int 2), (3, .int 2)]) rfl ?_
            refine wp1 rfl rfl ?_
            refine wpV (lv' := [(0, .ref 24), (1, .int 0), (2, .int 2), (3, .int 3)]) rfl ?_
            refine wp2 rfl rfl ?_
            refine wp1 rfl rfl ?_
            refine wp0 rfl rfl ?_
            refine wp2 (pc' := 120) rfl rfl ?_
            refine wp1 rfl rfl ?_
            refine wp2 (pc' := 144) rfl rfl ?_
            refine wp0 rfl rfl ?_
            exact wp5z rfl rfl b0 ⟨_, hJ, rfl, rfl⟩
          · refine wp0 rfl rfl ?_
            refine wp0 rfl rfl ?_
            refine wpS (st' := [.int 1]) rfl ?_
            refine wp1 rfl rfl ?_
            refine wpV (lv' := [(0, .ref 24), (1, .int 0), (2, .int 1), (3, .int 2)]) rfl ?_
            refine wp1 rfl rfl ?_
            refine wpV (lv' := [(0, .ref 24), (1, .int 0), (2, .int 1), (3, .int 3)]) rfl ?_
            refine wp2 rfl rfl ?_
            refine wp1 rfl rfl ?_
            refine wp0 rfl rfl ?_
            refine wp2 (pc' := 120) rfl rfl ?_
            refine wp1 rfl rfl ?_
            refine wp2 (pc' := 144) rfl rfl ?_
            refine wp0 rfl rfl ?_
            exact wp5z rfl rfl b0 ⟨_, hJ, rfl, rfl⟩
      · refine wp0 rfl rfl ?_
        refine wp0 rfl rfl ?_
        refine wpS (st' := [.int 0]) rfl ?_
        refine wp1 rfl rfl ?_
        refine wpV (lv' := [(0, .ref 24), (1, .int 0), (2, .int 0), (3, .int 0)]) rfl ?_
        refine wp1 rfl rfl ?_
        refine wpV (lv' := [(0, .ref 24), (1, .int 0), (2, .int 0), (3, .int 1)]) rfl ?_
        refine wp2 rfl rfl ?_
        refine wp1 rfl rfl ?_
        refine wp0 rfl rfl ?_
        refine wp2 (pc' := 96) rfl rfl ?_
        refine wp1 rfl rfl ?_
        refine wp1 rfl rfl ?_
        refine wp3 rfl (am_getf rfl rfl) ?_
        refine wp1 rfl rfl ?_
        refine wp3 rfl (am_iald rfl (by decide)) ?_
        refine wp0 rfl rfl ?_
        refine wp2b rfl rfl (fun c14 => ?_) (fun c14 => ?_)
        · refine wp0 rfl rfl ?_
          refine wp2 rfl rfl ?_
          refine wp0 rfl rfl ?_
          refine wpS (st' := [.int 1]) rfl ?_
          refine wp1 rfl rfl ?_
          refine wpV (lv' := [(0, .ref 24), (1, .int 0), (2, .int 1), (3, .int 1)]) rfl ?_
          refine wp1 rfl rfl ?_
          refine wpV (lv' := [(0, .ref 24), (1, .int 0), (2, .int 1), (3, .int 2)]) rfl ?_
          refine wp2 rfl rfl ?_
          refine wp1 rfl rfl ?_
          refine wp0 rfl rfl ?_
          refine wp2 (pc' := 96) rfl rfl ?_
          refine wp1 rfl rfl ?_
          refine wp1 rfl rfl ?_
          refine wp3 rfl (am_getf rfl rfl) ?_
          refine wp1 rfl rfl ?_
          refine wp3 rfl (am_iald rfl (by decide)) ?_
          refine wp0 rfl rfl ?_
          refine wp2b rfl rfl (fun c15 => ?_) (fun c15 => ?_)
          · refine wp0 rfl rfl ?_
            refine wp2 rfl rfl ?_
            refine wp0 rfl rfl ?_
            refine wpS (st' := [.int 2]) rfl ?_
            refine wp1 rfl rfl ?_
            refine wpV (lv' := [(0, .ref 24), (1, .int 0), (2, .int 2), (3, .int 2)]) rfl ?_
            refine wp1 rfl rfl ?_
            refine wpV (lv' := [(0, .ref 24), (1, .int 0), (2, .int 2), (3, .int 3)]) rfl ?_
            refine wp2 rfl rfl ?_
            refine wp1 rfl rfl ?_
            refine wp0 rfl rfl ?_
            refine wp2 (pc' := 120) rfl rfl ?_
            refine wp1 rfl rfl ?_
            refine wp2 (pc' := 144) rfl rfl ?_
            refine wp0 rfl rfl ?_
            exact wp5z rfl rfl b0 ⟨_, hJ, rfl, rfl⟩
          · refine wp0 rfl rfl ?_
            refine wp0 rfl rfl ?_
            refine wpS (st' := [.int 1]) rfl ?_
            refine wp1 rfl rfl ?_
            refine wpV (lv' := [(0, .ref 24), (1, .int 0), (2, .int 1), (3, .int 2)]) rfl ?_
            refine wp1 rfl rfl ?_
            refine wpV (lv' := [(0, .ref 24), (1, .int 0), (2, .int 1), (3, .int 3)]) rfl ?_
            refine wp2 rfl rfl ?_
            refine wp1 rfl rfl ?_
            refine wp0 rfl rfl ?_
            refine wp2 (pc' := 120) rfl rfl ?_
            refine wp1 rfl rfl ?_
            refine wp2 (pc' := 144) rfl rfl ?_
            refine wp0 rfl rfl ?_
            exact wp5z rfl rfl b0 ⟨_, hJ, rfl, rfl⟩
        · refine wp0 rfl rfl ?_
          refine wp0 rfl rfl ?_
          refine wpS (st' := [.int 0]) rfl ?_
          refine wp1 rfl rfl ?_
          refine wpV (lv' := [(0, .ref 24), (1, .int 0), (2, .int 0), (3, .int 1)]) rfl ?_
          refine wp1 rfl rfl ?_
          refine wpV (lv' := [(0, .ref 24), (1, .int 0), (2, .int 0), (3, .int 2)]) rfl ?_
          refine wp2 rfl rfl ?_
          refine wp1 rfl rfl ?_
          refine wp0 rfl rfl ?_
          refine wp2 (pc' := 96) rfl rfl ?_
          refine wp1 rfl rfl ?_
          refine wp1 rfl rfl ?_
          refine wp3 rfl (am_getf rfl rfl) ?_
          refine wp1 rfl rfl ?_
          refine wp3 rfl (am_iald rfl (by decide)) ?_
          refine wp0 rfl rfl ?_
          refine wp2b rfl rfl (fun c16 => ?_) (fun c16 => ?_)
          · refine wp0 rfl rfl ?_
            refine wp2 rfl rfl ?_
            refine wp0 rfl rfl ?_
            refine wpS (st' := [.int 1]) rfl ?_
            refine wp1 rfl rfl ?_
            refine wpV (lv' := [(0, .ref 24), (1, .int 0), (2, .int 1), (3, .int 2)]) rfl ?_
            refine wp1 rfl rfl ?_
            refine wpV (lv' := [(0, .ref 24), (1, .int 0), (2, .int 1), (3, .int 3)]) rfl ?_
            refine wp2 rfl rfl ?_
            refine wp1 rfl rfl ?_
            refine wp0 rfl rfl ?_
            refine wp2 (pc' := 120) rfl rfl ?_
            refine wp1 rfl rfl ?_
            refine wp2 (pc' := 144) rfl rfl ?_
            refine wp0 rfl rfl ?_
            exact wp5z rfl rfl b0 ⟨_, hJ, rfl, rfl⟩
          · refine wp0 rfl rfl ?_
            refine wp0 rfl rfl ?_
            refine wpS (st' := [.int 0]) rfl ?_
            refine wp1 rfl rfl ?_
            refine wpV (lv' := [(0, .ref 24), (1, .int 0), (2, .int 0), (3, .int 2)]) rfl ?_
            refine wp1 rfl rfl ?_
            refine wpV (lv' := [(0, .ref 24), (1, .int 0), (2, .int 0), (3, .int 3)]) rfl ?_
            refine wp2 rfl rfl ?_
            refine wp1 rfl rfl ?_
            refine wp0 rfl rfl ?_
            refine wp2 (pc' := 120) rfl rfl ?_
            refine wp1 rfl rfl ?_
            refine wp2 (pc' := 144) rfl rfl ?_
            refine wp0 rfl rfl ?_
            exact wp5z rfl rfl b0 ⟨_, hJ, rfl, rfl⟩
  · refine wp1 rfl rfl ?_
    refine wp3 rfl (am_getf rfl rfl) ?_
    refine wp0 rfl rfl ?_
    refine wp2b rfl rfl (fun c17 => ?_) (fun c17 => ?_)
    · refine wp1 rfl rfl ?_
      refine wp3 rfl (am_getf rfl rfl) ?_
      refine wp2b rfl rfl (fun c18 => ?_) (fun c18 => ?_)
      · refine wp0 rfl rfl ?_
        refine wp2 rfl rfl ?_
        refine wp1 rfl rfl ?_
        refine wpV (lv' := [(0, .ref 24), (1, .int 1)]) rfl ?_
        refine wp0 rfl rfl ?_
        refine wp1 rfl rfl ?_
        refine wpV (lv' := [(0, .ref 24), (1, .int 1), (2, .int 0)]) rfl ?_
        refine wp0 rfl rfl ?_
        refine wp1 rfl rfl ?_
        refine wpV (lv' := [(0, .ref 24), (1, .int 1), (2, .int 0), (3, .int 0)]) rfl ?_
        refine wp1 rfl rfl ?_
        refine wp0 rfl rfl ?_
        refine wp2 (pc' := 96) rfl rfl ?_
        refine wp1 rfl rfl ?_
        refine wp1 rfl rfl ?_
        refine wp3 rfl (am_getf rfl rfl) ?_
        refine wp1 rfl rfl ?_
        refine wp3 rfl (am_iald rfl (by decide)) ?_
        refine wp0 rfl rfl ?_
        refine wp2b rfl rfl (fun c19 => ?_) (fun c19 => ?_)
        · refine wp0 rfl rfl ?_
          refine wp2 rfl rfl ?_
          refine wp0 rfl rfl ?_
          refine wpS (st' := [.int 1]) rfl ?_
          refine wp1 rfl rfl ?_
          refine wpV (lv' := [(0, .ref 24), (1, .int 1), (2, .int 1), (3, .int 0)]) rfl ?_
          refine wp1 rfl rfl ?_
          refine wpV (lv' := [(0, .ref 24), (1, .int 1), (2, .int 1), (3, .int 1)]) rfl ?_
          refine wp2 rfl rfl ?_
          refine wp1 rfl rfl ?_
          refine wp0 rfl rfl ?_
          refine wp2 (pc' := 96) rfl rfl ?_
          refine wp1 rfl rfl ?_
          refine wp1 rfl rfl ?_
          refine wp3 rfl (am_getf rfl rfl) ?_
          refine wp1 rfl rfl ?_
          refine wp3 rfl (am_iald rfl (by decide)) ?_
          refine wp0 rfl rfl ?_
          refine wp2b rfl rfl (fun c20 => ?_) (fun c20 => ?_)
          · refine wp0 rfl rfl ?_
            refine wp2 rfl rfl ?_
            refine wp0 rfl rfl ?_
            refine wpS (st' := [.int 2]) rfl ?_
            refine wp1 rfl rfl ?_
            refine wpV (lv' := [(0, .ref 24), (1, .int 1), (2, .int 2), (3, .int 1)]) rfl ?_
            refine wp1 rfl rfl ?_
            refine wpV (lv' := [(0, .ref 24), (1, .int 1), (2, .int 2), (3, .int 2)]) rfl ?_
            refine wp2 rfl rfl ?_
            refine wp1 rfl rfl ?_
            refine wp0 rfl rfl ?_
            refine wp2 (pc' := 96) rfl rfl ?_
            refine wp1 rfl rfl ?_
            refine wp1 rfl rfl ?_
            refine wp3 rfl (am_getf rfl rfl) ?_
            refine wp1 rfl rfl ?_
            refine wp3 rfl (am_iald rfl (by decide)) ?_
            refine wp0 rfl rfl ?_
            refine wp2b rfl rfl (fun c21 => ?_) (fun c21 => ?_)
            · refine wp0 rfl rfl ?_
              refine wp2 rfl rfl ?_
              refine wp0 rfl rfl ?_
              refine wpS (st' := [.int 3]) rfl ?_
              refine wp1 rfl rfl ?_
              refine wpV (lv' := [(0, .ref 24), (1, .int 1), (2, .int 3), (3, .int 2)]) rfl ?_
              refine wp1 rfl rfl ?_
              refine wpV (lv' := [(0, .ref 24), (1, .int 1), (2, .int 3), (3, .int 3)]) rfl ?_
              refine wp2 rfl rfl ?_
              refine wp1 rfl rfl ?_
              refine wp0 rfl rfl ?_
              refine wp2 (pc' := 120) rfl rfl ?_
              refine wp1 rfl rfl ?_
              refine wp2 (pc' := 124) rfl rfl ?_
              refine wp1 rfl rfl ?_
              refine wp0 rfl rfl ?_
              refine wp2 (pc' := 144) rfl rfl ?_
              refine wp0 rfl rfl ?_
              exact wp5z rfl rfl b0 ⟨_, hJ, rfl, rfl⟩
            · refine wp0 rfl rfl ?_
              refine wp0 rfl rfl ?_
              refine wpS (st' := [.int 2]) rfl ?_
              refine wp1 rfl rfl ?_
              refine wpV (lv' := [(0, .ref 24), (1, .int 1), (2, .int 2), (3, .int 2)]) rfl ?_
              refine wp1 rfl rfl ?_
              refine wpV (lv' := [(0, .ref 24), (1, .int 1), (2, .int 2), (3, .int 3)]) rfl ?_
              refine wp2 rfl rfl ?_
              refine wp1 rfl rfl ?_
              refine wp0 rfl rfl ?_
              refine wp2 (pc' := 120) rfl rfl ?_
              refine wp1 rfl rfl ?_
              refine wp2 (pc' := 124) rfl rfl ?_
              refine wp1 rfl rfl ?_
              refine wp0 rfl rfl ?_
              refine wp2 (pc' := 144) rfl rfl ?_
              refine wp0 rfl rfl ?_
              exact wp5z rfl rfl b0 ⟨_, hJ, rfl, rfl⟩
          · refine wp0 rfl rfl ?_
            refine wp0 rfl rfl ?_
            refine wpS (st' := [.int 1]) rfl ?_
            refine wp1 rfl rfl ?_
            refine wpV (lv' := [(0, .ref 24), (1, .int 1), (2, .int 1), (3, .int 1)]) rfl ?_
            refine wp1 rfl rfl ?_
            refine wpV (lv' := [(0, .ref 24), (1, .int 1), (2, .int 1), (3, .int 2)]) rfl ?_
            refine wp2 rfl rfl ?_
            refine wp1 rfl rfl ?_
            refine wp0 rfl rfl ?_
            refine wp2 (pc' := 96) rfl rfl ?_
            refine wp1 rfl rfl ?_
            refine wp1 rfl rfl ?_
            refine wp3 rfl (am_getf rfl rfl) ?_
            refine wp1 rfl rfl ?_
            refine wp3 rfl (am_iald rfl (by decide)) ?_
            refine wp0 rfl rfl ?_
            refine wp2b rfl rfl (fun c22 => ?_) (fun c22 => ?_)
            · refine wp0 rfl rfl ?_
              refine wp2 rfl rfl ?_
              refine wp0 rfl rfl ?_
              refine wpS (st' := [.int 2]) rfl ?_
              refine wp1 rfl rfl ?_
              refine wpV (lv' := [(0, .ref 24), (1, .int 1), (2, .int 2), (3, .int 2)]) rfl ?_
              refine wp1 rfl rfl ?_
              refine wpV (lv' := [(0, .ref 24), (1, .int 1), (2, .int 2), (3, .int 3)]) rfl ?_
              refine wp2 rfl rfl ?_
              refine wp1 rfl rfl ?_
              refine wp0 rfl rfl ?_
              refine wp2 (pc' := 120) rfl rfl ?_
              refine wp1 rfl rfl ?_
              refine wp2 (pc' := 124) rfl rfl ?_
              refine wp1 rfl rfl ?_
              refine wp0 rfl rfl ?_
              refine wp2 (pc' := 144) rfl rfl ?_
              refine wp0 rfl rfl ?_
              exact wp5z rfl rfl b0 ⟨_, hJ, rfl, rfl⟩
            · refine wp0 rfl rfl ?_
              refine wp0 rfl rfl ?_
              refine wpS (st' := [.int 1]) rfl ?_
              refine wp1 rfl rfl ?_
              refine wpV (lv' := [(0, .ref 24), (1, .int 1), (2, .int 1), (3, .int 2)]) rfl ?_
              refine wp1 rfl rfl ?_
              refine wpV (lv' := [(0, .ref 24), (1, .int 1), (2, .int 1), (3, .int 3)]) rfl ?_
              refine wp2 rfl rfl ?_
              refine wp1 rfl rfl ?_
              refine wp0 rfl rfl ?_
              refine wp2 (pc' := 120) rfl rfl ?_
              refine wp1 rfl rfl ?_
              refine wp2 (pc' := 124) rfl rfl ?_
              refine wp1 rfl rfl ?_
              refine wp0 rfl rfl ?_
              refine wp2 (pc' := 129) rfl rfl ?_
              refine wp1 rfl rfl ?_
              refine wp2 (pc' := 133) rfl rfl ?_
              refine wp1 rfl rfl ?_
              refine am_ev_at rfl rfl (mem_bad hI) ?_
              refine wp2 (pc' := 144) rfl rfl ?_
              refine wp0 rfl rfl ?_
              exact wp5z rfl rfl b0 ⟨_, hJ, rfl, rfl⟩
        · refine wp0 rfl rfl ?_
          refine wp0 rfl rfl ?_
          refine wpS (st' := [.int 0]) rfl ?_
          refine wp1 rfl rfl ?_
          refine wpV (lv' := [(0, .ref 24), (1, .int 1), (2, .int 0), (3, .int 0)]) rfl ?_
          refine wp1 rfl rfl ?_
          refine wpV (lv' := [(0, .ref 24), (1, .int 1), (2, .int 0), (3, .int 1)]) rfl ?_
          refine wp2 rfl rfl ?_
          refine wp1 rfl rfl ?_
          refine wp0 rfl rfl ?_
          refine wp2 (pc' := 96) rfl rfl ?_
          refine wp1 rfl rfl ?_
          refine wp1 rfl rfl ?_
          refine wp3 rfl (am_getf rfl rfl) ?_
          refine wp1 rfl rfl ?_
          refine wp3 rfl (am_iald rfl (by decide)) ?_
          refine wp0 rfl rfl ?_
          refine wp2b rfl rfl (fun c23 => ?_) (fun c23 => ?_)
          · refine wp0 rfl rfl ?_
            refine wp2 rfl rfl ?_
            refine wp0 rfl rfl ?_
            refine wpS (st' := [.int 1]) rfl ?_
            refine wp1 rfl rfl ?_
            refine wpV (lv' := [(0, .ref 24), (1, .int 1), (2, .int 1), (3, .int 1)]) rfl ?_
            refine wp1 rfl rfl ?_
            refine wpV (lv' := [(0, .ref 24), (1, .int 1), (2, .int 1), (3, .int 2)]) rfl ?_
            refine wp2 rfl rfl ?_
            refine wp1 rfl rfl ?_
            refine wp0 rfl rfl ?_
            refine wp2 (pc' := 96) rfl rfl ?_
            refine wp1 rfl rfl ?_
            refine wp1 rfl rfl ?_
            refine wp3 rfl (am_getf rfl rfl) ?_
            refine wp1 rfl rfl ?_
            refine wp3 rfl (am_iald rfl (by decide)) ?_
            refine wp0 rfl rfl ?_
            refine wp2b rfl rfl (fun c24 => ?_) (fun c24 => ?_)
            · refine wp0 rfl rfl ?_
              refine wp2 rfl rfl ?_
              refine wp0 rfl rfl ?_
              refine wpS (st' := [.int 2]) rfl ?_
              refine wp1 rfl rfl ?_
              refine wpV (lv' := [(0, .ref 24), (1, .int 1), (2, .int 2), (3, .int 2)]) rfl ?_
              refine wp1 rfl rfl ?_
              refine wpV (lv' := [(0, .ref 24), (1, .int 1), (2, .int 2), (3, .int 3)]) rfl ?_
              refine wp2 rfl rfl ?_
              refine wp1 rfl rfl ?_
              refine wp0 rfl rfl ?_
              refine wp2 (pc' := 120) rfl rfl ?_
              refine wp1 rfl rfl ?_
              refine wp2 (pc' := 124) rfl rfl ?_
              refine wp1 rfl rfl ?_
              refine wp0 rfl rfl ?_
              refine wp2 (pc' := 144) rfl rfl ?_
              refine wp0 rfl rfl ?_
              exact wp5z rfl rfl b0 ⟨_, hJ, rfl, rfl⟩
            · refine wp0 rfl rfl ?_
              refine wp0 rfl rfl ?_
              refine wpS (st' := [.int 1]) rfl ?_
              refine wp1 rfl rfl ?_
              refine wpV (lv' := [(0, .ref 24), (1, .int 1), (2, .int 1), (3, .int 2)]) rfl ?_
              refine wp1 rfl rfl ?_
              refine wpV (lv' := [(0, .ref 24), (1, .int 1), (2, .int 1), (3, .int 3)]) rfl ?_
              refine wp2 rfl rfl ?_
              refine wp1 rfl rfl ?_
              refine wp0 rfl rfl ?_
              refine wp2 (pc' := 120) rfl rfl ?_
              refine wp1 rfl rfl ?_
              refine wp2 (pc' := 124) rfl rfl ?_
              refine wp1 rfl rfl ?_
              refine wp0 rfl rfl ?_
              refine wp2 (pc' := 129) rfl rfl ?_
              refine wp1 rfl rfl ?_
              refine wp2 (pc' := 133) rfl rfl ?_
              refine wp1 rfl rfl ?_
              refine am_ev_at rfl rfl (mem_bad hI) ?_
              refine wp2 (pc' := 144) rfl rfl ?_
              refine wp0 rfl rfl ?_
              exact wp5z rfl rfl b0 ⟨_, hJ, rfl, rfl⟩
          · refine wp0 rfl rfl ?_
            refine wp0 rfl rfl ?_
            refine wpS (st' := [.int 0]) rfl ?_
            refine wp1 rfl rfl ?_
            refine wpV (lv' := [(0, .ref 24), (1, .int 1), (2, .int 0), (3, .int 1)]) rfl ?_
            refine wp1 rfl rfl ?_
            refine wpV (lv' := [(0, .ref 24), (1, .int 1), (2, .int 0), (3, .int 2)]) rfl ?_
            refine wp2 rfl rfl ?_
            refine wp1 rfl rfl ?_
            refine wp0 rfl rfl ?_
            refine wp2 (pc' := 96) rfl rfl ?_
            refine wp1 rfl rfl ?_
            refine wp1 rfl rfl ?_
            refine wp3 rfl (am_getf rfl rfl) ?_
            refine wp1 rfl rfl ?_
            refine wp3 rfl (am_iald rfl (by decide)) ?_
            refine wp0 rfl rfl ?_
            refine wp2b rfl rfl (fun c25 => ?_) (fun c25 => ?_)
            · refine wp0 rfl rfl ?_
              refine wp2 rfl rfl ?_
              refine wp0 rfl rfl ?_
              refine wpS (st' := [.int 1]) rfl ?_
              refine wp1 rfl rfl ?_
              refine wpV (lv' := [(0, .ref 24), (1, .int 1), (2, .int 1), (3, .int 2)]) rfl ?_
              refine wp1 rfl rfl ?_
              refine wpV (lv' := [(0, .ref 24), (1, .int 1), (2, .int 1), (3, .int 3)]) rfl ?_
              refine wp2 rfl rfl ?_
              refine wp1 rfl rfl ?_
              refine wp0 rfl rfl ?_
              refine wp2 (pc' := 120) rfl rfl ?_
              refine wp1 rfl rfl ?_
              refine wp2 (pc' := 124) rfl rfl ?_
              refine wp1 rfl rfl ?_
              refine wp0 rfl rfl ?_
              refine wp2 (pc' := 129) rfl rfl ?_
              refine wp1 rfl rfl ?_
              refine wp2 (pc' := 133) rfl rfl ?_
              refine wp1 rfl rfl ?_
              refine am_ev_at rfl rfl (mem_bad hI) ?_
              refine wp2 (pc' := 144) rfl rfl ?_
              refine wp0 rfl rfl ?_
              exact wp5z rfl rfl b0 ⟨_, hJ, rfl, rfl⟩
            · refine wp0 rfl rfl ?_
              refine wp0 rfl rfl ?_
              refine wpS (st' := [.int 0]) rfl ?_
              refine wp1 rfl rfl ?_
              refine wpV (lv' := [(0, .ref 24), (1, .int 1), (2, .int 0), (3, .int 2)]) rfl ?_
              refine wp1 rfl rfl ?_
              refine wpV (lv' := [(0, .ref 24), (1, .int 1), (2, .int 0), (3, .int 3)]) rfl ?_
              refine wp2 rfl rfl ?_
              refine wp1 rfl rfl ?_
              refine wp0 rfl rfl ?_
              refine wp2 (pc' := 120) rfl rfl ?_
              refine wp1 rfl rfl ?_
              refine wp2 (pc' := 124) rfl rfl ?_
              refine wp1 rfl rfl ?_
              refine wp0 rfl rfl ?_
              refine wp2 (pc' := 129) rfl rfl ?_
              refine wp1 rfl rfl ?_
              refine wp2 (pc' := 140) rfl rfl ?_
              refine wp0 rfl rfl ?_
              refine wp2 rfl rfl ?_
              exact (hA.elim c19 (fun h => h.elim c23 c25)).elim
      · refine wp0 rfl rfl ?_
        refine wp1 rfl rfl ?_
        refine wpV (lv' := [(0, .ref 24), (1, .int 0)]) rfl ?_
        refine wp0 rfl rfl ?_
        refine wp1 rfl rfl ?_
        refine wpV (lv' := [(0, .ref 24), (1, .int 0), (2, .int 0)]) rfl ?_
        refine wp0 rfl rfl ?_
        refine wp1 rfl rfl ?_
        refine wpV (lv' := [(0, .ref 24), (1, .int 0), (2, .int 0), (3, .int 0)]) rfl ?_
        refine wp1 rfl rfl ?_
        refine wp0 rfl rfl ?_
        refine wp2 (pc' := 96) rfl rfl ?_
        refine wp1 rfl rfl ?_
        refine wp1 rfl rfl ?_
        refine wp3 rfl (am_getf rfl rfl) ?_
        refine wp1 rfl rfl ?_
        refine wp3 rfl (am_iald rfl (by decide)) ?_
        refine wp0 rfl rfl ?_
        refine wp2b rfl rfl (fun c26 => ?_) (fun c26 => ?_)
        · refine wp0 rfl rfl ?_
          refine wp2 rfl rfl ?_
          refine wp0 rfl rfl ?_
          refine wpS (st' := [.int 1]) rfl ?_
          refine wp1 rfl rfl ?_
          refine wpV (lv' := [(0, .ref 24), (1, .int 0), (2, .int 1), (3, .int 0)]) rfl ?_
          refine wp1 rfl rfl ?_
          refine wpV (lv' := [(0, .ref 24), (1, .int 0), (2, .int 1), (3, .int 1)]) rfl ?_
          refine wp2 rfl rfl ?_
          refine wp1 rfl rfl ?_
          refine wp0 rfl rfl ?_
          refine wp2 (pc' := 96) rfl rfl ?_
          refine wp1 rfl rfl ?_
          refine wp1 rfl rfl ?_
          refine wp3 rfl (am_getf rfl rfl) ?_
          refine wp1 rfl rfl ?_
          refine wp3 rfl (am_iald rfl (by decide)) ?_
          refine wp0 rfl rfl ?_
          refine wp2b rfl rfl (fun c27 => ?_) (fun c27 => ?_)
          · refine wp0 rfl rfl ?_
            refine wp2 rfl rfl ?_
            refine wp0 rfl rfl ?_
            refine wpS (st' := [.int 2]) rfl ?_
            refine wp1 rfl rfl ?_
            refine wpV (lv' := [(0, .ref 24), (1, .int 0), (2, .int 2), (3, .int 1)]) rfl ?_
            refine wp1 rfl rfl ?_
            refine wpV (lv' := [(0, .ref 24), (1, .int 0), (2, .int 2), (3, .int 2)]) rfl ?_
            refine wp2 rfl rfl ?_
            refine wp1 rfl rfl ?_
            refine wp0 rfl rfl ?_
            refine wp2 (pc' := 96) rfl rfl ?_
            refine wp1 rfl rfl ?_
            refine wp1 rfl rfl ?_
            refine wp3 rfl (am_getf rfl rfl) ?_
            refine wp1 rfl rfl ?_
            refine wp3 rfl (am_iald rfl (by decide)) ?_
            refine wp0 rfl rfl ?_
            refine wp2b rfl rfl (fun c28 => ?_) (fun c28 => ?_)
            · refine wp0 rfl rfl ?_
              refine wp2 rfl rfl ?_
              refine wp0 rfl rfl ?_
              refine wpS (st' := [.int 3]) rfl ?_
              refine wp1 rfl rfl ?_
              refine wpV (lv' := [(0, .ref 24), (1, .int 0), (2, .int 3), (3, .int 2)]) rfl ?_
              refine wp1 rfl rfl ?_
              refine wpV (lv' := [(0, .ref 24), (1, .int 0), (2, .int 3), (3, .int 3)]) rfl ?_
              refine wp2 rfl rfl ?_
              refine wp1 rfl rfl ?_
              refine wp0 rfl rfl ?_
              refine wp2 (pc' := 120) rfl rfl ?_
              refine wp1 rfl rfl ?_
              refine wp2 (pc' := 144) rfl rfl ?_
              refine wp0 rfl rfl ?_
              exact wp5z rfl rfl b0 ⟨_, hJ, rfl, rfl⟩
            · refine wp0 rfl rfl ?_
              refine wp0 rfl rfl ?_
              refine wpS (st' := [.int 2]) rfl ?_
              refine wp1 rfl rfl ?_
              refine wpV (lv' := [(0, .ref 24), (1, .int 0), (2, .int 2), (3, .int 2)]) rfl ?_
              refine wp1 rfl rfl ?_
              refine wpV (lv' := [(0, .ref 24), (1, .int 0), (2, .int 2), (3, .int 3)]) rfl ?_
              refine wp2 rfl rfl ?_
              refine wp1 rfl rfl ?_
              refine wp0 rfl rfl ?_
              refine wp2 (pc' := 120) rfl rfl ?_
              refine wp1 rfl rfl ?_
              refine wp2 (pc' := 144) rfl rfl ?_
              refine wp0 rfl rfl ?_
              exact wp5z rfl rfl b0 ⟨_, hJ, rfl, rfl⟩
          · refine wp0 rfl rfl ?_
            refine wp0 rfl rfl ?_
            refine wpS (st' := [.int 1]) rfl ?_
            refine wp1 rfl rfl ?_
            refine wpV (lv' := [(0, .ref 24), (1, .int 0), (2, .int 1), (3, .int 1)]) rfl ?_
            refine wp1 rfl rfl ?_
            refine wpV (lv' := [(0, .ref 24), (1, .int 0), (2, .int 1), (3, .int 2)]) rfl ?_
            refine wp2 rfl rfl ?_
            refine wp1 rfl rfl ?_
            refine wp0 rfl rfl ?_
            refine wp2 (pc' := 96) rfl rfl ?_
            refine wp1 rfl rfl ?_
            refine wp1 rfl rfl ?_
            refine wp3 rfl (am_getf rfl rfl) ?_
            refine wp1 rfl rfl ?_
            refine wp3 rfl (am_iald rfl (by decide)) ?_
            refine wp0 rfl rfl ?_
            refine wp2b rfl rfl (fun c29 => ?_) (fun c29 => ?_)
            · refine wp0 rfl rfl ?_
              refine wp2 rfl rfl ?_
              refine wp0 rfl rfl ?_
              refine wpS (st' := [.int 2]) rfl ?_
              refine wp1 rfl rfl ?_
              refine wpV (lv' := [(0, .ref 24), (1, .int 0), (2, .int 2), (3, .int 2)]) rfl ?_
              refine wp1 rfl rfl ?_
              refine wpV (lv' := [(0, .ref 24), (1, .int 0), (2, .int 2), (3, .int 3)]) rfl ?_
              refine wp2 rfl rfl ?_
              refine wp1 rfl rfl ?_
              refine wp0 rfl rfl ?_
              refine wp2 (pc' := 120) rfl rfl ?_
              refine wp1 rfl rfl ?_
              refine wp2 (pc' := 144) rfl rfl ?_
              refine wp0 rfl rfl ?_
              exact wp5z rfl rfl b0 ⟨_, hJ, rfl, rfl⟩
            · refine wp0 rfl rfl ?_
              refine wp0 rfl rfl ?_
              refine wpS (st' := [.int 1]) rfl ?_
              refine wp1 rfl rfl ?_
              refine wpV (lv' := [(0, .ref 24), (1, .int 0), (2, .int 1), (3, .int 2)]) rfl ?_
              refine wp1 rfl rfl ?_
              refine wpV (lv' := [(0, .ref 24), (1, .int 0), (2, .int 1), (3, .int 3)]) rfl ?_
              refine wp2 rfl rfl ?_
              refine wp1 rfl rfl ?_
              refine wp0 rfl rfl ?_
              refine wp2 (pc' := 120) rfl rfl ?_
              refine wp1 rfl rfl ?_
              refine wp2 (pc' := 144) rfl rfl ?_
              refine wp0 rfl rfl ?_
              exact wp5z rfl rfl b0 ⟨_, hJ, rfl, rfl⟩
        · refine wp0 rfl rfl ?_
          refine wp0 rfl rfl ?_
          refine wpS (st' := [.int 0]) rfl ?_
          refine wp1 rfl rfl ?_
          refine wpV (lv' := [(0, .ref 24), (1, .int 0), (2, .int 0), (3, .int 0)]) rfl ?_
          refine wp1 rfl rfl ?_
          refine wpV (lv' := [(0, .ref 24), (1, .int 0), (2, .int 0), (3, .int 1)]) rfl ?_
          refine wp2 rfl rfl ?_
          refine wp1 rfl rfl ?_
          refine wp0 rfl rfl ?_
          refine wp2 (pc' := 96) rfl rfl ?_
          refine wp1 rfl rfl ?_
          refine wp1 rfl rfl ?_
          refine wp3 rfl (am_getf rfl rfl) ?_
          refine wp1 rfl rfl ?_
          refine wp3 rfl (am_iald rfl (by decide)) ?_
          refine wp0 rfl rfl ?_
          refine wp2b rfl rfl (fun c30 => ?_) (fun c30 => ?_)
          · refine wp0 rfl rfl ?_
            refine wp2 rfl rfl ?_
            refine wp0 rfl rfl ?_
            refine wpS (st' := [.int 1]) rfl ?_
            refine wp1 rfl rfl ?_
            refine wpV (lv' := [(0, .ref 24), (1, .int 0), (2, .int 1), (3, .int 1)]) rfl ?_
            refine wp1 rfl rfl ?_
            refine wpV (lv' := [(0, .ref 24), (1, .int 0), (2, .int 1), (3, .int 2)]) rfl ?_
            refine wp2 rfl rfl ?_
            refine wp1 rfl rfl ?_
            refine wp0 rfl rfl ?_
            refine wp2 (pc' := 96) rfl rfl ?_
            refine wp1 rfl rfl ?_
            refine wp1 rfl rfl ?_
            refine wp3 rfl (am_getf rfl rfl) ?_
            refine wp1 rfl rfl ?_
            refine wp3 rfl (am_iald rfl (by decide)) ?_
            refine wp0 rfl rfl ?_
            refine wp2b rfl rfl (fun c31 => ?_) (fun c31 => ?_)
            · refine wp0 rfl rfl ?_
              refine wp2 rfl rfl ?_
              refine wp0 rfl rfl ?_
              refine wpS (st' := [.int 2]) rfl ?_
              refine wp1 rfl rfl ?_
              refine wpV (lv' := [(0, .ref 24), (1, .int 0), (2, .int 2), (3, .int 2)]) rfl ?_
              refine wp1 rfl rfl ?_
              refine wpV (lv' := [(0, .ref 24), (1, .int 0), (2, .int 2), (3, .int 3)]) rfl ?_
              refine wp2 rfl rfl ?_
              refine wp1 rfl rfl ?_
              refine wp0 rfl rfl ?_
              refine wp2 (pc' := 120) rfl rfl ?_
              refine wp1 rfl rfl ?_
              refine wp2 (pc' := 144) rfl rfl ?_
              refine wp0 rfl rfl ?_
              exact wp5z rfl rfl b0 ⟨_, hJ, rfl, rfl⟩
            · refine wp0 rfl rfl ?_
              refine wp0 rfl rfl ?_
              refine wpS (st' := [.int 1]) rfl ?_
              refine wp1 rfl rfl ?_
              refine wpV (lv' := [(0, .ref 24), (1, .int 0), (2, .int 1), (3, .int 2)]) rfl ?_
              refine wp1 rfl rfl ?_
              refine wpV (lv' := [(0, .ref 24), (1, .int 0), (2, .int 1), (3, .int 3)]) rfl ?_
              refine wp2 rfl rfl ?_
              refine wp1 rfl rfl ?_
              refine wp0 rfl rfl ?_
              refine wp2 (pc' := 120) rfl rfl ?_
              refine wp1 rfl rfl ?_
              refine wp2 (pc' := 144) rfl rfl ?_
              refine wp0 rfl rfl ?_
              exact wp5z rfl rfl b0 ⟨_, hJ, rfl, rfl⟩
          · refine wp0 rfl rfl ?_
            refine wp0 rfl rfl ?_
            refine wpS (st' := [.int 0]) rfl ?_
            refine wp1 rfl rfl ?_
            refine wpV (lv' := [(0, .ref 24), (1, .int 0), (2, .int 0), (3, .int 1)]) rfl ?_
            refine wp1 rfl rfl ?_
            refine wpV (lv' := [(0, .ref 24), (1, .int 0), (2, .int 0), (3, .int 2)]) rfl ?_
            refine wp2 rfl rfl ?_
            refine wp1 rfl rfl ?_
            refine wp0 rfl rfl ?_
            refine wp2 (pc' := 96) rfl rfl ?_
            refine wp1 rfl rfl ?_
            refine wp1 rfl rfl ?_
            refine wp3 rfl (am_getf rfl rfl) ?_
            refine wp1 rfl rfl ?_
            refine wp3 rfl (am_iald rfl (by decide)) ?_
            refine wp0 rfl rfl ?_
            refine wp2b rfl rfl (fun c32 => ?_) (fun c32 => ?_)
            · refine wp0 rfl rfl ?_
              refine wp2 rfl rfl ?_
              refine wp0 rfl rfl ?_
              refine wpS (st' := [.int 1]) rfl ?_
              refine wp1 rfl rfl ?_
              refine wpV (lv' := [(0, .ref 24), (1, .int 0), (2, .int 1), (3, .int 2)]) rfl ?_
              refine wp1 rfl rfl ?_
              refine wpV (lv' := [(0, .ref 24), (1, .int 0), (2, .int 1), (3, .int 3)]) rfl ?_
              refine wp2 rfl rfl ?_
              refine wp1 rfl rfl ?_
              refine wp0 rfl rfl ?_
              refine wp2 (pc' := 120) rfl rfl ?_
              refine wp1 rfl rfl ?_
              refine wp2 (pc' := 144) rfl rfl ?_
              refine wp0 rfl rfl ?_
              exact wp5z rfl rfl b0 ⟨_, hJ, rfl, rfl⟩
            · refine wp0 rfl rfl ?_
              refine wp0 rfl rfl ?_
              refine wpS (st' := [.int 0]) rfl ?_
              refine wp1 rfl rfl ?_
              refine wpV (lv' := [(0, .ref 24), (1, .int 0), (2, .int 0), (3, .int 2)]) rfl ?_
              refine wp1 rfl rfl ?_
              refine wpV (lv' := [(0, .ref 24), (1, .int 0), (2, .int 0), (3, .int 3)]) rfl ?_
              refine wp2 rfl rfl ?_
              refine wp1 rfl rfl ?_
              refine wp0 rfl rfl ?_
              refine wp2 (pc' := 120) rfl rfl ?_
              refine wp1 rfl rfl ?_
              refine wp2 (pc' := 144) rfl rfl ?_
              refine wp0 rfl rfl ?_
              exact wp5z rfl rfl b0 ⟨_, hJ, rfl, rfl⟩
    · refine wp1 rfl rfl ?_
      refine wp3 rfl (am_getf rfl rfl) ?_
      refine wp2b rfl rfl (fun c33 => ?_) (fun c33 => ?_)
      · refine wp0 rfl rfl ?_
        refine wp2 rfl rfl ?_
        refine wp1 rfl rfl ?_
        refine wpV (lv' := [(0, .ref 24), (1, .int 0)]) rfl ?_
        refine wp0 rfl rfl ?_
        refine wp1 rfl rfl ?_
        refine wpV (lv' := [(0, .ref 24), (1, .int 0), (2, .int 0)]) rfl ?_
        refine wp0 rfl rfl ?_
        refine wp1 rfl rfl ?_
        refine wpV (lv' := [(0, .ref 24), (1, .int 0), (2, .int 0), (3, .int 0)]) rfl ?_
        refine wp1 rfl rfl ?_
        refine wp0 rfl rfl ?_
        refine wp2 (pc' := 96) rfl rfl ?_
        refine wp1 rfl rfl ?_
        refine wp1 rfl rfl ?_
        refine wp3 rfl (am_getf rfl rfl) ?_
        refine wp1 rfl rfl ?_
        refine wp3 rfl (am_iald rfl (by decide)) ?_
        refine wp0 rfl rfl ?_
        refine wp2b rfl rfl (fun c34 => ?_) (fun c34 => ?_)
        · refine wp0 rfl rfl ?_
          refine wp2 rfl rfl ?_
          refine wp0 rfl rfl ?_
          refine wpS (st' := [.int 1]) rfl ?_
          refine wp1 rfl rfl ?_
          refine wpV (lv' := [(0, .ref 24), (1, .int 0), (2, .int 1), (3, .int 0)]) rfl ?_
          refine wp1 rfl rfl ?_
          refine wpV (lv' := [(0, .ref 24), (1, .int 0), (2, .int 1), (3, .int 1)]) rfl ?_
          refine wp2 rfl rfl ?_
          refine wp1 rfl rfl ?_
          refine wp0 rfl rfl ?_
          refine wp2 (pc' := 96) rfl rfl ?_
          refine wp1 rfl rfl ?_
          refine wp1 rfl rfl ?_
          refine wp3 rfl (am_getf rfl rfl) ?_
          refine wp1 rfl rfl ?_
          refine wp3 rfl (am_iald rfl (by decide)) ?_
          refine wp0 rfl rfl ?_
          refine wp2b rfl rfl (fun c35 => ?_) (fun c35 => ?_)
          · refine wp0 rfl rfl ?_
            refine wp2 rfl rfl ?_
            refine wp0 rfl rfl ?_
            refine wpS (st' := [.int 2]) rfl ?_
            refine wp1 rfl rfl ?_
            refine wpV (lv' := [(0, .ref 24), (1, .int 0), (2, .int 2), (3, .int 1)]) rfl ?_
            refine wp1 rfl rfl ?_
            refine wpV (lv' := [(0, .ref 24), (1, .int 0), (2, .int 2), (3, .int 2)]) rfl ?_
            refine wp2 rfl rfl ?_
            refine wp1 rfl rfl ?_
            refine wp0 rfl rfl ?_
            refine wp2 (pc' := 96) rfl rfl ?_
            refine wp1 rfl rfl ?_
            refine wp1 rfl rfl ?_
            refine wp3 rfl (am_getf rfl rfl) ?_
            refine wp1 rfl rfl ?_
            refine wp3 rfl (am_iald rfl (by decide)) ?_
            refine wp0 rfl rfl ?_
            refine wp2b rfl rfl (fun c36 => ?_) (fun c36 => ?_)
            · refine wp0 rfl rfl ?_
              refine wp2 rfl rfl ?_
              refine wp0 rfl rfl ?_
              refine wpS (st' := [.int 3]) rfl ?_
              refine wp1 rfl rfl ?_
              refine wpV (lv' := [(0, .ref 24), (1, .int 0), (2, .int 3), (3, .int 2)]) rfl ?_
              refine wp1 rfl rfl ?_
              refine wpV (lv' := [(0, .ref 24), (1, .int 0), (2, .int 3), (3, .int 3)]) rfl ?_
              refine wp2 rfl rfl ?_
              refine wp1 rfl rfl ?_
              refine wp0 rfl rfl ?_
              refine wp2 (pc' := 120) rfl rfl ?_
              refine wp1 rfl rfl ?_
              refine wp2 (pc' := 144) rfl rfl ?_
              refine wp0 rfl rfl ?_
              exact wp5z rfl rfl b0 ⟨_, hJ, rfl, rfl⟩
            · refine wp0 rfl rfl ?_
              refine wp0 rfl rfl ?_
              refine wpS (st' := [.int 2]) rfl ?_
              refine wp1 rfl rfl ?_
              refine wpV (lv' := [(0, .ref 24), (1, .int 0), (2, .int 2), (3, .int 2)]) rfl ?_
              refine wp1 rfl rfl ?_
              refine wpV (lv' := [(0, .ref 24), (1, .int 0), (2, .int 2), (3, .int 3)]) rfl ?_
              refine wp2 rfl rfl ?_
              refine wp1 rfl rfl ?_
              refine wp0 rfl rfl ?_
              refine wp2 (pc' := 120) rfl rfl ?_
              refine wp1 rfl rfl ?_
              refine wp2 (pc' := 144) rfl rfl ?_
              refine wp0 rfl rfl ?_
              exact wp5z rfl rfl b0 ⟨_, hJ, rfl, rfl⟩
          · refine wp0 rfl rfl ?_
            refine wp0 rfl rfl ?_
            refine wpS (st' := [.int 1]) rfl ?_
            refine wp1 rfl rfl ?_
            refine wpV (lv' := [(0, .ref 24), (1, .int 0), (2, .int 1), (3, .int 1)]) rfl ?_
            refine wp1 rfl rfl ?_
            refine wpV (lv' := [(0, .ref 24), (1, .int 0), (2, .int 1), (3, .int 2)]) rfl ?_
            refine wp2 rfl rfl ?_
            refine wp1 rfl rfl ?_
            refine wp0 rfl rfl ?_
            refine wp2 (pc' := 96) rfl rfl ?_
            refine wp1 rfl rfl ?_
            refine wp1 rfl rfl ?_
            refine wp3 rfl (am_getf rfl rfl) ?_
            refine wp1 rfl rfl ?_
            refine wp3 rfl (am_iald rfl (by decide)) ?_
            refine wp0 rfl rfl ?_
            refine wp2b rfl rfl (fun c37 => ?_) (fun c37 => ?_)
            · refine wp0 rfl rfl ?_
              refine wp2 rfl rfl ?_
              refine wp0 rfl rfl ?_
              refine wpS (st' := [.int 2]) rfl ?_
              refine wp1 rfl rfl ?_
              refine wpV (lv' := [(0, .ref 24), (1, .int 0), (2, .int 2), (3, .int 2)]) rfl ?_
              refine wp1 rfl rfl ?_
              refine wpV (lv' := [(0, .ref 24), (1, .int 0), (2, .int 2), (3, .int 3)]) rfl ?_
              refine wp2 rfl rfl ?_
              refine wp1 rfl rfl ?_
              refine wp0 rfl rfl ?_
              refine wp2 (pc' := 120) rfl rfl ?_
              refine wp1 rfl rfl ?_
              refine wp2 (pc' := 144) rfl rfl ?_
              refine wp0 rfl rfl ?_
              exact wp5z rfl rfl b0 ⟨_, hJ, rfl, rfl⟩
            · refine wp0 rfl rfl ?_
              refine wp0 rfl rfl ?_
              refine wpS (st' := [.int 1]) rfl ?_
              refine wp1 rfl rfl ?_
              refine wpV (lv' := [(0, .ref 24), (1, .int 0), (2, .int 1), (3, .int 2)]) rfl ?_
              refine wp1 rfl rfl ?_
              refine wpV (lv' := [(0, .ref 24), (1, .int 0), (2, .int 1), (3, .int 3)]) rfl ?_
              refine wp2 rfl rfl ?_
              refine wp1 rfl rfl ?_
              refine wp0 rfl rfl ?_
              refine wp2 (pc' := 120) rfl rfl ?_
              refine wp1 rfl rfl ?_
              refine wp2 (pc' := 144) rfl rfl ?_
              refine wp0 rfl rfl ?_
              exact wp5z rfl rfl b0 ⟨_, hJ, rfl, rfl⟩
        · refine wp0 rfl rfl ?_
          refine wp0 rfl rfl ?_
          refine wpS (st' := [.int 0]) rfl ?_
          refine wp1 rfl rfl ?_
          refine wpV (lv' := [(0, .ref 24), (1, .int 0), (2, .int 0), (3, .int 0)]) rfl ?_
          refine wp1 rfl rfl ?_
          refine wpV (lv' := [(0, .ref 24), (1, .int 0), (2, .int 0), (3, .int 1)]) rfl ?_
          refine wp2 rfl rfl ?_
          refine wp1 rfl rfl ?_
          refine wp0 rfl rfl ?_
          refine wp2 (pc' := 96) rfl rfl ?_
          refine wp1 rfl rfl ?_
          refine wp1 rfl rfl ?_
          refine wp3 rfl (am_getf rfl rfl) ?_
          refine wp1 rfl rfl ?_
          refine wp3 rfl (am_iald rfl (by decide)) ?_
          refine wp0 rfl rfl ?_
          refine wp2b rfl rfl (fun c38 => ?_) (fun c38 => ?_)
          · refine wp0 rfl rfl ?_
            refine wp2 rfl rfl ?_
            refine wp0 rfl rfl ?_
            refine wpS (st' := [.int 1]) rfl ?_
            refine wp1 rfl rfl ?_
            refine wpV (lv' := [(0, .ref 24), (1, .int 0), (2, .int 1), (3, .int 1)]) rfl ?_
            refine wp1 rfl rfl ?_
            refine wpV (lv' := [(0, .ref 24), (1, .int 0), (2, .int 1), (3, .int 2)]) rfl ?_
            refine wp2 rfl rfl ?_
            refine wp1 rfl rfl ?_
            refine wp0 rfl rfl ?_
            refine wp2 (pc' := 96) rfl rfl ?_
            refine wp1 rfl rfl ?_
            refine wp1 rfl rfl ?_
            refine wp3 rfl (am_getf rfl rfl) ?_
            refine wp1 rfl rfl ?_
            refine wp3 rfl (am_iald rfl (by decide)) ?_
            refine wp0 rfl rfl ?_
            refine wp2b rfl rfl (fun c39 => ?_) (fun c39 => ?_)
            · refine wp0 rfl rfl ?_
              refine wp2 rfl rfl ?_
              refine wp0 rfl rfl ?_
              refine wpS (st' := [.int 2]) rfl ?_
              refine wp1 rfl rfl ?_
              refine wpV (lv' := [(0, .ref 24), (1, .int 0), (2, .int 2), (3, .int 2)]) rfl ?_
              refine wp1 rfl rfl ?_
              refine wpV (lv' := [(0, .ref 24), (1, .int 0), (2, .int 2), (3, .int 3)]) rfl ?_
              refine wp2 rfl rfl ?_
              refine wp1 rfl rfl ?_
              refine wp0 rfl rfl ?_
              refine wp2 (pc' := 120) rfl rfl ?_
              refine wp1 rfl rfl ?_
              refine wp2 (pc' := 144) rfl rfl ?_
              refine wp0 rfl rfl ?_
              exact wp5z rfl rfl b0 ⟨_, hJ, rfl, rfl⟩
            · refine wp0 rfl rfl ?_
              refine wp0 rfl rfl ?_
              refine wpS (st' := [.int 1]) rfl ?_
              refine wp1 rfl rfl ?_
              refine wpV (lv' := [(0, .ref 24), (1, .int 0), (2, .int 1), (3, .int 2)]) rfl ?_
              refine wp1 rfl rfl ?_
              refine wpV (lv' := [(0, .ref 24), (1, .int 0), (2, .int 1), (3, .int 3)]) rfl ?_
              refine wp2 rfl rfl ?_
              refine wp1 rfl rfl ?_
              refine wp0 rfl rfl ?_
              refine wp2 (pc' := 120) rfl rfl ?_
              refine wp1 rfl rfl ?_
              refine wp2 (pc' := 144) rfl rfl ?_
              refine wp0 rfl rfl ?_
              exact wp5z rfl rfl b0 ⟨_, hJ, rfl, rfl⟩
          · refine wp0 rfl rfl ?_
            refine wp0 rfl rfl ?_
            refine wpS (st' := [.int 0]) rfl ?_
            refine wp1 rfl rfl ?_
            refine wpV (lv' := [(0, .ref 24), (1, .int 0), (2, .int 0), (3, .int 1)]) rfl ?_
            refine wp1 rfl rfl ?_
            refine wpV (lv' := [(0, .ref 24), (1, .int 0), (2, .int 0), (3, .int 2)]) rfl ?_
            refine wp2 rfl rfl ?_
            refine wp1 rfl rfl ?_
            refine wp0 rfl rfl ?_
            refine wp2 (pc' := 96) rfl rfl ?_
            refine wp1 rfl rfl ?_
            refine wp1 rfl rfl ?_
            refine wp3 rfl (am_getf rfl rfl) ?_
            refine wp1 rfl rfl ?_
            refine wp3 rfl (am_iald rfl (by decide)) ?_
            refine wp0 rfl rfl ?_
            refine wp2b rfl rfl (fun c40 => ?_) (fun c40 => ?_)
            · refine wp0 rfl rfl ?_
              refine wp2 rfl rfl ?_
              refine wp0 rfl rfl ?_
              refine wpS (st' := [.int 1]) rfl ?_
              refine wp1 rfl rfl ?_
              refine wpV (lv' := [(0, .ref 24), (1, .int 0), (2, .int 1), (3, .int 2)]) rfl ?_
              refine wp1 rfl rfl ?_
              refine wpV (lv' := [(0, .ref 24), (1, .int 0), (2, .int 1), (3, .int 3)]) rfl ?_
              refine wp2 rfl rfl ?_
              refine wp1 rfl rfl ?_
              refine wp0 rfl rfl ?_
              refine wp2 (pc' := 120) rfl rfl ?_
              refine wp1 rfl rfl ?_
              refine wp2 (pc' := 144) rfl rfl ?_
              refine wp0 rfl rfl ?_
              exact wp5z rfl rfl b0 ⟨_, hJ, rfl, rfl⟩
            · refine wp0 rfl rfl ?_
              refine wp0 rfl rfl ?_
              refine wpS (st' := [.int 0]) rfl ?_
              refine wp1 rfl rfl ?_
              refine wpV (lv' := [(0, .ref 24), (1, .int 0), (2, .int 0), (3, .int 2)]) rfl ?_
              refine wp1 rfl rfl ?_
              refine wpV (lv' := [(0, .ref 24), (1, .int 0), (2, .int 0), (3, .int 3)]) rfl ?_
              refine wp2 rfl rfl ?_
              refine wp1 rfl rfl ?_
              refine wp0 rfl rfl ?_
              refine wp2 (pc' := 120) rfl rfl ?_
              refine wp1 rfl rfl ?_
              refine wp2 (pc' := 144) rfl rfl ?_
              refine wp0 rfl rfl ?_
              exact wp5z rfl rfl b0 ⟨_, hJ, rfl, rfl⟩
      · refine wp1 rfl rfl ?_
        refine wp3 rfl (am_getf rfl rfl) ?_
        refine wp0 rfl rfl ?_
        refine wp2b rfl rfl (fun c41 => ?_) (fun c41 => ?_)
        · refine wp0 rfl rfl ?_
          refine wp2 rfl rfl ?_
          refine wp1 rfl rfl ?_
          refine wpV (lv' := [(0, .ref 24), (1, .int 0)]) rfl ?_
          refine wp0 rfl rfl ?_
          refine wp1 rfl rfl ?_
          refine wpV (lv' := [(0, .ref 24), (1, .int 0), (2, .int 0)]) rfl ?_
          refine wp0 rfl rfl ?_
          refine wp1 rfl rfl ?_
          refine wpV (lv' := [(0, .ref 24), (1, .int 0), (2, .int 0), (3, .int 0)]) rfl ?_
          refine wp1 rfl rfl ?_
          refine wp0 rfl rfl ?_
          refine wp2 (pc' := 96) rfl rfl ?_
          refine wp1 rfl rfl ?_
          refine wp1 rfl rfl ?_
          refine wp3 rfl (am_getf rfl rfl) ?_
          refine wp1 rfl rfl ?_
          refine wp3 rfl (am_iald rfl (by decide)) ?_
          refine wp0 rfl rfl ?_
          refine wp2b rfl rfl (fun c42 => ?_) (fun c42 => ?_)
          · refine wp0 rfl rfl ?_
            refine wp2 rfl rfl ?_
            refine wp0 rfl rfl ?_
            refine wpS (st' := [.int 1]) rfl ?_
            refine wp1 rfl rfl ?_
            refine wpV (lv' := [(0, .ref 24), (1, .int 0), (2, .int 1), (3, .int 0)]) rfl ?_
            refine wp1 rfl rfl ?_
            refine wpV (lv' := [(0, .ref 24), (1, .int 0), (2, .int 1), (3, .int 1)]) rfl ?_
            refine wp2 rfl rfl ?_
            refine wp1 rfl rfl ?_
            refine wp0 rfl rfl ?_
            refine wp2 (pc' := 96) rfl rfl ?_
            refine wp1 rfl rfl ?_
            refine wp1 rfl rfl ?_
            refine wp3 rfl (am_getf rfl rfl) ?_
            refine wp1 rfl rfl ?_
            refine wp3 rfl (am_iald rfl (by decide)) ?_
            refine wp0 rfl rfl ?_
            refine wp2b rfl rfl (fun c43 => ?_) (fun c43 => ?_)
            · refine wp0 rfl rfl ?_
              refine wp2 rfl rfl ?_
              refine wp0 rfl rfl ?_
              refine wpS (st' := [.int 2]) rfl ?_
              refine wp1 rfl rfl ?_
              refine wpV (lv' := [(0, .ref 24), (1, .int 0), (2, .int 2), (3, .int 1)]) rfl ?_
              refine wp1 rfl rfl ?_
              refine wpV (lv' := [(0, .ref 24), (1, .int 0), (2, .int 2), (3, .int 2)]) rfl ?_
              refine wp2 rfl rfl ?_
              refine wp1 rfl rfl ?_
              refine wp0 rfl rfl ?_
              refine wp2 (pc' := 96) rfl rfl ?_
              refine wp1 rfl rfl ?_
              refine wp1 rfl rfl ?_
              refine wp3 rfl (am_getf rfl rfl) ?_
              refine wp1 rfl rfl ?_
              refine wp3 rfl (am_iald rfl (by decide)) ?_
              refine wp0 rfl rfl ?_
              refine wp2b rfl rfl (fun c44 => ?_) (fun c44 => ?_)
              · refine wp0 rfl rfl ?_
                refine wp2 rfl rfl ?_
                refine wp0 rfl rfl ?_
                refine wpS (st' := [.int 3]) rfl ?_
                refine wp1 rfl rfl ?_
                refine wpV (lv' := [(0, .ref 24), (1, .int 0), (2, .int 3), (3, .int 2)]) rfl ?_
                refine wp1 rfl rfl ?_
                refine wpV (lv' := [(0, .ref 24), (1, .int 0), (2, .int 3), (3, .int 3)]) rfl ?_
                refine wp2 rfl rfl ?_
                refine wp1 rfl rfl ?_
                refine wp0 rfl rfl ?_
                refine wp2 (pc' := 120) rfl rfl ?_
                refine wp1 rfl rfl ?_
                refine wp2 (pc' := 144) rfl rfl ?_
                refine wp0 rfl rfl ?_
                exact wp5z rfl rfl b0 ⟨_, hJ, rfl, rfl⟩
              · refine wp0 rfl rfl ?_
                refine wp0 rfl rfl ?_
                refine wpS (st' := [.int 2]) rfl ?_
                refine wp1 rfl rfl ?_
                refine wpV (lv' := [(0, .ref 24), (1, .int 0), (2, .int 2), (3, .int 2)]) rfl ?_
                refine wp1 rfl rfl ?_
                refine wpV (lv' := [(0, .ref 24), (1, .int 0), (2, .int 2), (3, .int 3)]) rfl ?_
                refine wp2 rfl rfl ?_
                refine wp1 rfl rfl ?_
                refine wp0 rfl rfl ?_
                refine wp2 (pc' := 120) rfl rfl ?_
                refine wp1 rfl rfl ?_
                refine wp2 (pc' := 144) rfl rfl ?_
                refine wp0 rfl rfl ?_
                exact wp5z rfl rfl b0 ⟨_, hJ, rfl, rfl⟩
            · refine wp0 rfl rfl ?_
              refine wp0 rfl rfl ?_
              refine wpS (st' := [.int 1]) rfl ?_
              refine wp1 rfl rfl ?_
              refine wpV (lv' := [(0, .ref 24), (1, .int 0), (2, .int 1), (3, .int 1)]) rfl ?_
              refine wp1 rfl rfl ?_
              refine wpV (lv' := [(0, .ref 24), (1, .int 0), (2, .int 1), (3, .int 2)]) rfl ?_
              refine wp2 rfl rfl ?_
              refine wp1 rfl rfl ?_
              refine wp0 rfl rfl ?_
              refine wp2 (pc' := 96) rfl rfl ?_
              refine wp1 rfl rfl ?_
              refine wp1 rfl rfl ?_
              refine wp3 rfl (am_getf rfl rfl) ?_
              refine wp1 rfl rfl ?_
              refine wp3 rfl (am_iald rfl (by decide)) ?_
              refine wp0 rfl rfl ?_
              refine wp2b rfl rfl (fun c45 => ?_) (fun c45 => ?_)
              · refine wp0 rfl rfl ?_
                refine wp2 rfl rfl ?_
                refine wp0 rfl rfl ?_
                refine wpS (st' := [.int 2]) rfl ?_
                refine wp1 rfl rfl ?_
                refine wpV (lv' := [(0, .ref 24), (1, .int 0), (2, .int 2), (3, .int 2)]) rfl ?_
                refine wp1 rfl rfl ?_
                refine wpV (lv' := [(0, .ref 24), (1, .int 0), (2, .int 2), (3, .int 3)]) rfl ?_
                refine wp2 rfl rfl ?_
                refine wp1 rfl rfl ?_
                refine wp0 rfl rfl ?_
                refine wp2 (pc' := 120) rfl rfl ?_
                refine wp1 rfl rfl ?_
                refine wp2 (pc' := 144) rfl rfl ?_
                refine wp0 rfl rfl ?_
                exact wp5z rfl rfl b0 ⟨_, hJ, rfl, rfl⟩
              · refine wp0 rfl rfl ?_
                refine wp0 rfl rfl ?_
                refine wpS (st' := [.int 1]) rfl ?_
                refine wp1 rfl rfl ?_
                refine wpV (lv' := [(0, .ref 24), (1, .int 0), (2, .int 1), (3, .int 2)]) rfl ?_
                refine wp1 rfl rfl ?_
                refine wpV (lv' := [(0, .ref 24), (1, .int 0), (2, .int 1), (3, .int 3)]) rfl ?_
                refine wp2 rfl rfl ?_
                refine wp1 rfl rfl ?_
                refine wp0 rfl rfl ?_
                refine wp2 (pc' := 120) rfl rfl ?_
                refine wp1 rfl rfl ?_
                refine wp2 (pc' := 144) rfl rfl ?_
                refine wp0 rfl rfl ?_
                exact wp5z rfl rfl b0 ⟨_, hJ, rfl, rfl⟩
          · refine wp0 rfl rfl ?_
            refine wp0 rfl rfl ?_
            refine wpS (st' := [.int 0]) rfl ?_
            refine wp1 rfl rfl ?_
            refine wpV (lv' := [(0, .ref 24), (1, .int 0), (2, .int 0), (3, .int 0)]) rfl ?_
            refine wp1 rfl rfl ?_
            refine wpV (lv' := [(0, .ref 24), (1, .int 0), (2, .int 0), (3, .int 1)]) rfl ?_
            refine wp2 rfl rfl ?_
            refine wp1 rfl rfl ?_
            refine wp0 rfl rfl ?_
            refine wp2 (pc' := 96) rfl rfl ?_
            refine wp1 rfl rfl ?_
            refine wp1 rfl rfl ?_
            refine wp3 rfl (am_getf rfl rfl) ?_
            refine wp1 rfl rfl ?_
            refine wp3 rfl (am_iald rfl (by decide)) ?_
            refine wp0 rfl rfl ?_
            refine wp2b rfl rfl (fun c46 => ?_) (fun c46 => ?_)
            · refine wp0 rfl rfl ?_
              refine wp2 rfl rfl ?_
              refine wp0 rfl rfl ?_
              refine wpS (st' := [.int 1]) rfl ?_
              refine wp1 rfl rfl ?_
              refine wpV (lv' := [(0, .ref 24), (1, .int 0), (2, .int 1), (3, .int 1)]) rfl ?_
              refine wp1 rfl rfl ?_
              refine wpV (lv' := [(0, .ref 24), (1, .int 0), (2, .int 1), (3, .int 2)]) rfl ?_
              refine wp2 rfl rfl ?_
              refine wp1 rfl rfl ?_
              refine wp0 rfl rfl ?_
              refine wp2 (pc' := 96) rfl rfl ?_
              refine wp1 rfl rfl ?_
              refine wp1 rfl rfl ?_
              refine wp3 rfl (am_getf rfl rfl) ?_
              refine wp1 rfl rfl ?_
              refine wp3 rfl (am_iald rfl (by decide)) ?_
              refine wp0 rfl rfl ?_
              refine wp2b rfl rfl (fun c47 => ?_) (fun c47 => ?_)
              · refine wp0 rfl rfl ?_
                refine wp2 rfl rfl ?_
                refine wp0 rfl rfl ?_
                refine wpS (st' := [.int 2]) rfl ?_
                refine wp1 rfl rfl ?_
                refine wpV (lv' := [(0, .ref 24), (1, .int 0), (2, .int 2), (3, .int 2)]) rfl ?_
                refine wp1 rfl rfl ?_
                refine wpV (lv' := [(0, .ref 24), (1, .int 0), (2, .int 2), (3, .int 3)]) rfl ?_
                refine wp2 rfl rfl ?_
                refine wp1 rfl rfl ?_
                refine wp0 rfl rfl ?_
                refine wp2 (pc' := 120) rfl rfl ?_
                refine wp1 rfl rfl ?_
                refine wp2 (pc' := 144) rfl rfl ?_
                refine wp0 rfl rfl ?_
                exact wp5z rfl rfl b0 ⟨_, hJ, rfl, rfl⟩
              · refine wp0 rfl rfl ?_
                refine wp0 rfl rfl ?_
                refine wpS (st' := [.int 1]) rfl ?_
                refine wp1 rfl rfl ?_
                refine wpV (lv' := [(0, .ref 24), (1, .int 0), (2, .int 1), (3, .int 2)]) rfl ?_
                refine wp1 rfl rfl ?_
                refine wpV (lv' := [(0, .ref 24), (1, .int 0), (2, .int 1), (3, .int 3)]) rfl ?_
                refine wp2 rfl rfl ?_
                refine wp1 rfl rfl ?_
                refine wp0 rfl rfl ?_
                refine wp2 (pc' := 120) rfl rfl ?_
                refine wp1 rfl rfl ?_
                refine wp2 (pc' := 144) rfl rfl ?_
                refine wp0 rfl rfl ?_
                exact wp5z rfl rfl b0 ⟨_, hJ, rfl, rfl⟩
            · refine wp0 rfl rfl ?_
              refine wp0 rfl rfl ?_
              refine wpS (st' := [.int 0]) rfl ?_
              refine wp1 rfl rfl ?_
              refine wpV (lv' := [(0, .ref 24), (1, .int 0), (2, .int 0), (3, .int 1)]) rfl ?_
              refine wp1 rfl rfl ?_
              refine wpV (lv' := [(0, .ref 24), (1, .int 0), (2, .int 0), (3, .int 2)]) rfl ?_
              refine wp2 rfl rfl ?_
              refine wp1 rfl rfl ?_
              refine wp0 rfl rfl ?_
              refine wp2 (pc' := 96) rfl rfl ?_
              refine wp1 rfl rfl ?_
              refine wp1 rfl rfl ?_
              refine wp3 rfl (am_getf rfl rfl) ?_
              refine wp1 rfl rfl ?_
              refine wp3 rfl (am_iald rfl (by decide)) ?_
              refine wp0 rfl rfl ?_
              refine wp2b rfl rfl (fun c48 => ?_) (fun c48 => ?_)
              · refine wp0 rfl rfl ?_
                refine wp2 rfl rfl ?_
                refine wp0 rfl rfl ?_
                refine wpS (st' := [.int 1]) rfl ?_
                refine wp1 rfl rfl ?_
                refine wpV (lv' := [(0, .ref 24), (1, .int 0), (2, .int 1), (3, .int 2)]) rfl ?_
                refine wp1 rfl rfl ?_
                refine wpV (lv' := [(0, .ref 24), (1, .int 0), (2, .int 1), (3, .int 3)]) rfl ?_
                refine wp2 rfl rfl ?_
                refine wp1 rfl rfl ?_
                refine wp0 rfl rfl ?_
                refine wp2 (pc' := 120) rfl rfl ?_
                refine wp1 rfl rfl ?_
                refine wp2 (pc' := 144) rfl rfl ?_
                refine wp0 rfl rfl ?_
                exact wp5z rfl rfl b0 ⟨_, hJ, rfl, rfl⟩
              · refine wp0 rfl rfl ?_
                refine wp0 rfl rfl ?_
                refine wpS (st' := [.int 0]) rfl ?_
                refine wp1 rfl rfl ?_
                refine wpV (lv' := [(0, .ref 24), (1, .int 0), (2, .int 0), (3, .int 2)]) rfl ?_
                refine wp1 rfl rfl ?_
                refine wpV (lv' := [(0, .ref 24), (1, .int 0), (2, .int 0), (3, .int 3)]) rfl ?_
                refine wp2 rfl rfl ?_
                refine wp1 rfl rfl ?_
                refine wp0 rfl rfl ?_
                refine wp2 (pc' := 120) rfl rfl ?_
                refine wp1 rfl rfl ?_
                refine wp2 (pc' := 144) rfl rfl ?_
                refine wp0 rfl rfl ?_
                exact wp5z rfl rfl b0 ⟨_, hJ, rfl, rfl⟩
        · refine wp0 rfl rfl ?_
          refine wp2 rfl rfl ?_
          refine wp1 rfl rfl ?_
          refine wpV (lv' := [(0, .ref 24), (1, .int 1)]) rfl ?_
          refine wp0 rfl rfl ?_
          refine wp1 rfl rfl ?_
          refine wpV (lv' := [(0, .ref 24), (1, .int 1), (2, .int 0)]) rfl ?_
          refine wp0 rfl rfl ?_
          refine wp1 rfl rfl ?_
          refine wpV (lv' := [(0, .ref 24), (1, .int 1), (2, .int 0), (3, .int 0)]) rfl ?_
          refine wp1 rfl rfl ?_
          refine wp0 rfl rfl ?_
          refine wp2 (pc' := 96) rfl rfl ?_
          refine wp1 rfl rfl ?_
          refine wp1 rfl rfl ?_
          refine wp3 rfl (am_getf rfl rfl) ?_
          refine wp1 rfl rfl ?_
          refine wp3 rfl (am_iald rfl (by decide)) ?_
          refine wp0 rfl rfl ?_
          refine wp2b rfl rfl (fun c49 => ?_) (fun c49 => ?_)
          · refine wp0 rfl rfl ?_
            refine wp2 rfl rfl ?_
            refine wp0 rfl rfl ?_
            refine wpS (st' := [.int 1]) rfl ?_
            refine wp1 rfl rfl ?_
            refine wpV (lv' := [(0, .ref 24), (1, .int 1), (2, .int 1), (3, .int 0)]) rfl ?_
            refine wp1 rfl rfl ?_
            refine wpV (lv' := [(0, .ref 24), (1, .int 1), (2, .int 1), (3, .int 1)]) rfl ?_
            refine wp2 rfl rfl ?_
            refine wp1 rfl rfl ?_
            refine wp0 rfl rfl ?_
            refine wp2 (pc' := 96) rfl rfl ?_
            refine wp1 rfl rfl ?_
            refine wp1 rfl rfl ?_
            refine wp3 rfl (am_getf rfl rfl) ?_
            refine wp1 rfl rfl ?_
            refine wp3 rfl (am_iald rfl (by decide)) ?_
            refine wp0 rfl rfl ?_
            refine wp2b rfl rfl (fun c50 => ?_) (fun c50 => ?_)
            · refine wp0 rfl rfl ?_
              refine wp2 rfl rfl ?_
              refine wp0 rfl rfl ?_
              refine wpS (st' := [.int 2]) rfl ?_
              refine wp1 rfl rfl ?_
              refine wpV (lv' := [(0, .ref 24), (1, .int 1), (2, .int 2), (3, .int 1)]) rfl ?_
              refine wp1 rfl rfl ?_
              refine wpV (lv' := [(0, .ref 24), (1, .int 1), (2, .int 2), (3, .int 2)]) rfl ?_
              refine wp2 rfl rfl ?_
              refine wp1 rfl rfl ?_
              refine wp0 rfl rfl ?_
              refine wp2 (pc' := 96) rfl rfl ?_
              refine wp1 rfl rfl ?_
              refine wp1 rfl rfl ?_
              refine wp3 rfl (am_getf rfl rfl) ?_
              refine wp1 rfl rfl ?_
              refine wp3 rfl (am_iald rfl (by decide)) ?_
              refine wp0 rfl rfl ?_
              refine wp2b rfl rfl (fun c51 => ?_) (fun c51 => ?_)
              · refine wp0 rfl rfl ?_
                refine wp2 rfl rfl ?_
                refine wp0 rfl rfl ?_
                refine wpS (st' := [.int 3]) rfl ?_
                refine wp1 rfl rfl ?_
                refine wpV (lv' := [(0, .ref 24), (1, .int 1), (2, .int 3), (3, .int 2)]) rfl ?_
                refine wp1 rfl rfl ?_
                refine wpV (lv' := [(0, .ref 24), (1, .int 1), (2, .int 3), (3, .int 3)]) rfl ?_
                refine wp2 rfl rfl ?_
                refine wp1 rfl rfl ?_
                refine wp0 rfl rfl ?_
                refine wp2 (pc' := 120) rfl rfl ?_
                refine wp1 rfl rfl ?_
                refine wp2 (pc' := 124) rfl rfl ?_
                refine wp1 rfl rfl ?_
                refine wp0 rfl rfl ?_
                refine wp2 (pc' := 144) rfl rfl ?_
                refine wp0 rfl rfl ?_
                exact wp5z rfl rfl b0 ⟨_, hJ, rfl, rfl⟩
              · refine wp0 rfl rfl ?_
                refine wp0 rfl rfl ?_
                refine wpS (st' := [.int 2]) rfl ?_
                refine wp1 rfl rfl ?_
                refine wpV (lv' := [(0, .ref 24), (1, .int 1), (2, .int 2), (3, .int 2)]) rfl ?_
                refine wp1 rfl rfl ?_
                refine wpV (lv' := [(0, .ref 24), (1, .int 1), (2, .int 2), (3, .int 3)]) rfl ?_
                refine wp2 rfl rfl ?_
                refine wp1 rfl rfl ?_
                refine wp0 rfl rfl ?_
                refine wp2 (pc' := 120) rfl rfl ?_
                refine wp1 rfl rfl ?_
                refine wp2 (pc' := 124) rfl rfl ?_
                refine wp1 rfl rfl ?_
                refine wp0 rfl rfl ?_
                refine wp2 (pc' := 144) rfl rfl ?_
                refine wp0 rfl rfl ?_
                exact wp5z rfl rfl b0 ⟨_, hJ, rfl, rfl⟩
            · refine wp0 rfl rfl ?_
              refine wp0 rfl rfl ?_
              refine wpS (st' := [.int 1]) rfl ?_
              refine wp1 rfl rfl ?_
              refine wpV (lv' := [(0, .ref 24), (1, .int 1), (2, .int 1), (3, .int 1)]) rfl ?_
              refine wp1 rfl rfl ?_
              refine wpV (lv' := [(0, .ref 24), (1, .int 1), (2, .int 1), (3, .int 2)]) rfl ?_
              refine wp2 rfl rfl ?_
              refine wp1 rfl rfl ?_
              refine wp0 rfl rfl ?_
              refine wp2 (pc' := 96) rfl rfl ?_
              refine wp1 rfl rfl ?_
              refine wp1 rfl rfl ?_
              refine wp3 rfl (am_getf rfl rfl) ?_
              refine wp1 rfl rfl ?_
              refine wp3 rfl (am_iald rfl (by decide)) ?_
              refine wp0 rfl rfl ?_
              refine wp2b rfl rfl (fun c52 => ?_) (fun c52 => ?_)
              · refine wp0 rfl rfl ?_
                refine wp2 rfl rfl ?_
                refine wp0 rfl rfl ?_
                refine wpS (st' := [.int 2]) rfl ?_
                refine wp1 rfl rfl ?_
                refine wpV (lv' := [(0, .ref 24), (1, .int 1), (2, .int 2), (3, .int 2)]) rfl ?_
                refine wp1 rfl rfl ?_
                refine wpV (lv' := [(0, .ref 24), (1, .int 1), (2, .int 2), (3, .int 3)]) rfl ?_
                refine wp2 rfl rfl ?_
                refine wp1 rfl rfl ?_
                refine wp0 rfl rfl ?_
                refine wp2 (pc' := 120) rfl rfl ?_
                refine wp1 rfl rfl ?_
                refine wp2 (pc' := 124) rfl rfl ?_
                refine wp1 rfl rfl ?_
                refine wp0 rfl rfl ?_
                refine wp2 (pc' := 144) rfl rfl ?_
                refine wp0 rfl rfl ?_
                exact wp5z rfl rfl b0 ⟨_, hJ, rfl, rfl⟩
              · refine wp0 rfl rfl ?_
                refine wp0 rfl rfl ?_
                refine wpS (st' := [.int 1]) rfl ?_
                refine wp1 rfl rfl ?_
                refine wpV (lv' := [(0, .ref 24), (1, .int 1), (2, .int 1), (3, .int 2)]) rfl ?_
                refine wp1 rfl rfl ?_
                refine wpV (lv' := [(0, .ref 24), (1, .int 1), (2, .int 1), (3, .int 3)]) rfl ?_
                refine wp2 rfl rfl ?_
                refine wp1 rfl rfl ?_
                refine wp0 rfl rfl ?_
                refine wp2 (pc' := 120) rfl rfl ?_
                refine wp1 rfl rfl ?_
                refine wp2 (pc' := 124) rfl rfl ?_
                refine wp1 rfl rfl ?_
                refine wp0 rfl rfl ?_
                refine wp2 (pc' := 129) rfl rfl ?_
                refine wp1 rfl rfl ?_
                refine wp2 (pc' := 133) rfl rfl ?_
                refine wp1 rfl rfl ?_
                refine am_ev_at rfl rfl (mem_bad hI) ?_
                refine wp2 (pc' := 144) rfl rfl ?_
                refine wp0 rfl rfl ?_
                exact wp5z rfl rfl b0 ⟨_, hJ, rfl, rfl⟩
          · refine wp0 rfl rfl ?_
            refine wp0 rfl rfl ?_
            refine wpS (st' := [.int 0]) rfl ?_
            refine wp1 rfl rfl ?_
            refine wpV (lv' := [(0, .ref 24), (1, .int 1), (2, .int 0), (3, .int 0)]) rfl ?_
            refine wp1 rfl rfl ?_
            refine wpV (lv' := [(0, .ref 24), (1, .int 1), (2, .int 0), (3, .int 1)]) rfl ?_
            refine wp2 rfl rfl ?_
            refine wp1 rfl rfl ?_
            refine wp0 rfl rfl ?_
            refine wp2 (pc' := 96) rfl rfl ?_
            refine wp1 rfl rfl ?_
            refine wp1 rfl rfl ?_
            refine wp3 rfl (am_getf rfl rfl) ?_
            refine wp1 rfl rfl ?_
            refine wp3 rfl (am_iald rfl (by decide)) ?_
            refine wp0 rfl rfl ?_
            refine wp2b rfl rfl (fun c53 => ?_) (fun c53 => ?_)
            · refine wp0 rfl rfl ?_
              refine wp2 rfl rfl ?_
              refine wp0 rfl rfl ?_
              refine wpS (st' := [.int 1]) rfl ?_
              refine wp1 rfl rfl ?_
              refine wpV (lv' := [(0, .ref 24), (1, .int 1), (2, .int 1), (3, .int 1)]) rfl ?_
              refine wp1 rfl rfl ?_
              refine wpV (lv' := [(0, .ref 24), (1, .int 1), (2, .int 1), (3, .int 2)]) rfl ?_
              refine wp2 rfl rfl ?_
              refine wp1 rfl rfl ?_
              refine wp0 rfl rfl ?_
              refine wp2 (pc' := 96) rfl rfl ?_
              refine wp1 rfl rfl ?_
              refine wp1 rfl rfl ?_
              refine wp3 rfl (am_getf rfl rfl) ?_
              refine wp1 rfl rfl ?_
              refine wp3 rfl (am_iald rfl (by decide)) ?_
              refine wp0 rfl rfl ?_
              refine wp2b rfl rfl (fun c54 => ?_) (fun c54 => ?_)
              · refine wp0 rfl rfl ?_
                refine wp2 rfl rfl ?_
                refine wp0 rfl rfl ?_
                refine wpS (st' := [.int 2]) rfl ?_
                refine wp1 rfl rfl ?_
                refine wpV (lv' := [(0, .ref 24), (1, .int 1), (2, .int 2), (3, .int 2)]) rfl ?_
                refine wp1 rfl rfl ?_
                refine wpV (lv' := [(0, .ref 24), (1, .int 1), (2, .int 2), (3, .int 3)]) rfl ?_
                refine wp2 rfl rfl ?_
                refine wp1 rfl rfl ?_
                refine wp0 rfl rfl ?_
                refine wp2 (pc' := 120) rfl rfl ?_
                refine wp1 rfl rfl ?_
                refine wp2 (pc' := 124) rfl rfl ?_
                refine wp1 rfl rfl ?_
                refine wp0 rfl rfl ?_
                refine wp2 (pc' := 144) rfl rfl ?_
                refine wp0 rfl rfl ?_
                exact wp5z rfl rfl b0 ⟨_, hJ, rfl, rfl⟩
              · refine wp0 rfl rfl ?_
                refine wp0 rfl rfl ?_
                refine wpS (st' := [.int 1]) rfl ?_
                refine wp1 rfl rfl ?_
                refine wpV (lv' := [(0, .ref 24), (1, .int 1), (2, .int 1), (3, .int 2)]) rfl ?_
                refine wp1 rfl rfl ?_
                refine wpV (lv' := [(0, .ref 24), (1, .int 1), (2, .int 1), (3, .int 3)]) rfl ?_
                refine wp2 rfl rfl ?_
                refine wp1 rfl rfl ?_
                refine wp0 rfl rfl ?_
                refine wp2 (pc' := 120) rfl rfl ?_
                refine wp1 rfl rfl ?_
                refine wp2 (pc' := 124) rfl rfl ?_
                refine wp1 rfl rfl ?_
                refine wp0 rfl rfl ?_
                refine wp2 (pc' := 129) rfl rfl ?_
                refine wp1 rfl rfl ?_
                refine wp2 (pc' := 133) rfl rfl ?_
                refine wp1 rfl rfl ?_
                refine am_ev_at rfl rfl (mem_bad hI) ?_
                refine wp2 (pc' := 144) rfl rfl ?_
                refine wp0 rfl rfl ?_
                exact wp5z rfl rfl b0 ⟨_, hJ, rfl, rfl⟩
            · refine wp0 rfl rfl ?_
              refine wp0 rfl rfl ?_
              refine wpS (st' := [.int 0]) rfl ?_
              refine wp1 rfl rfl ?_
              refine wpV (lv' := [(0, .ref 24), (1, .int 1), (2, .int 0), (3, .int 1)]) rfl ?_
              refine wp1 rfl rfl ?_
              refine wpV (lv' := [(0, .ref 24), (1, .int 1), (2, .int 0), (3, .int 2)]) rfl ?_
              refine wp2 rfl rfl ?_
              refine wp1 rfl rfl ?_
              refine wp0 rfl rfl ?_
              refine wp2 (pc' := 96) rfl rfl ?_
              refine wp1 rfl rfl ?_
              refine wp1 rfl rfl ?_
              refine wp3 rfl (am_getf rfl rfl) ?_
              refine wp1 rfl rfl ?_
              refine wp3 rfl (am_iald rfl (by decide)) ?_
              refine wp0 rfl rfl ?_
              refine wp2b rfl rfl (fun c55 => ?_) (fun c55 => ?_)
              · refine wp0 rfl rfl ?_
                refine wp2 rfl rfl ?_
                refine wp0 rfl rfl ?_
                refine wpS (st' := [.int 1]) rfl ?_
                refine wp1 rfl rfl ?_
                refine wpV (lv' := [(0, .ref 24), (1, .int 1), (2, .int 1), (3, .int 2)]) rfl ?_
                refine wp1 rfl rfl ?_
                refine wpV (lv' := [(0, .ref 24), (1, .int 1), (2, .int 1), (3, .int 3)]) rfl ?_
                refine wp2 rfl rfl ?_
                refine wp1 rfl rfl ?_
                refine wp0 rfl rfl ?_
                refine wp2 (pc' := 120) rfl rfl ?_
                refine wp1 rfl rfl ?_
                refine wp2 (pc' := 124) rfl rfl ?_
                refine wp1 rfl rfl ?_
                refine wp0 rfl rfl ?_
                refine wp2 (pc' := 129) rfl rfl ?_
                refine wp1 rfl rfl ?_
                refine wp2 (pc' := 133) rfl rfl ?_
                refine wp1 rfl rfl ?_
                refine am_ev_at rfl rfl (mem_bad hI) ?_
                refine wp2 (pc' := 144) rfl rfl ?_
                refine wp0 rfl rfl ?_
                exact wp5z rfl rfl b0 ⟨_, hJ, rfl, rfl⟩
              · refine wp0 rfl rfl ?_
                refine wp0 rfl rfl ?_
                refine wpS (st' := [.int 0]) rfl ?_
                refine wp1 rfl rfl ?_
                refine wpV (lv' := [(0, .ref 24), (1, .int 1), (2, .int 0), (3, .int 2)]) rfl ?_
                refine wp1 rfl rfl ?_
                refine wpV (lv' := [(0, .ref 24), (1, .int 1), (2, .int 0), (3, .int 3)]) rfl ?_
                refine wp2 rfl rfl ?_
                refine wp1 rfl rfl ?_
                refine wp0 rfl rfl ?_
                refine wp2 (pc' := 120) rfl rfl ?_
                refine wp1 rfl rfl ?_
                refine wp2 (pc' := 124) rfl rfl ?_
                refine wp1 rfl rfl ?_
                refine wp0 rfl rfl ?_
                refine wp2 (pc' := 129) rfl rfl ?_
                refine wp1 rfl rfl ?_
                refine wp2 (pc' := 140) rfl rfl ?_
                refine wp0 rfl rfl ?_
                refine wp2 rfl rfl ?_
                exact (hA.elim c49 (fun h => h.elim c53 c55)).elim
theorem ops_bad' {m : ms} (ho : q_op m = 11) (hk : ¬ q_kinds m 1 = 2) : tb_ev L xs 161 [.ref 24] (HH s (MC m) D) (some (.int 0)) (HH s (MC m) D) := by
  have e : m = t_op m 11 := (show m = t_op m (q_op m) from rfl).trans (congrArg (t_op m) ho)
  rw [e]
  exact ops_bad hk
theorem siz_bad' {m : ms} (ho : q_op m = 19 ∨ q_op m = 20) (h1 : ¬ q_width m = 1) (h4 : ¬ q_width m = 4) (h8 : ¬ q_width m = 8) : tb_ev L xs 180 [.ref 24] (HH s (MC m) D) (some (.int 0)) (HH s (MC m) D) := by
  rcases ho with ho | ho
  · have e : m = t_op m 19 := (show m = t_op m (q_op m) from rfl).trans (congrArg (t_op m) ho)
    rw [e]
    exact siz_bad19 h1 h4 h8
  · have e : m = t_op m 20 := (show m = t_op m (q_op m) from rfl).trans (congrArg (t_op m) ho)
    rw [e]
    exact siz_bad20 h1 h4 h8
theorem snd_30 {m : ms} (hJ : K m) : tb_wp L xs 150 30 [] [] (HH s (MC m) D) (NX s D 0) := by
  refine wp0 rfl rfl ?_
  exact wp5z rfl rfl b0 ⟨_, hJ, rfl, rfl⟩
set_option maxRecDepth 20000 in
theorem snd_bad {m : ms} (hJ : K m) (h : ¬ SPf m.1) : tb_wp L xs 150 0 (lv_args 0 [.ref 24]) [] (HH s (MC m) D) (NX s D 0) := by
  refine wp1 rfl rfl ?_
  refine wp3 rfl (am_getf rfl rfl) ?_
  refine wp2b rfl rfl (fun c1 => ?_) (fun c1 => ?_)
  · exact wpL rfl rfl (snd_30 hJ)
  · refine wp1 rfl rfl ?_
    refine wp3 rfl (am_getf rfl rfl) ?_
    refine wp0 rfl rfl ?_
    refine wp2b rfl rfl (fun c2 => ?_) (fun c2 => ?_)
    · exact wpL rfl rfl (snd_30 hJ)
    · refine wp1 rfl rfl ?_
      by_cases hC : q_op m = 19 ∨ q_op m = 20 → q_width m = 1 ∨ q_width m = 4 ∨ q_width m = 8
      · refine wp4 rfl rfl (mf_180 hJ) (fun rv h1 hq => ?_)
        obtain ⟨m2, hJ2, hR2, rfl, x, rfl, hb⟩ := hq
        refine wp2b rfl rfl (fun c3 => ?_) (fun c3 => ?_)
        · exact wpL rfl rfl (snd_30 hJ2)
        · refine wp1 rfl rfl ?_
          by_cases hB : q_op m = 11 → q_kinds m 1 = 2
          · have hA : ¬ ((q_kinds m 0 = 2 ∨ q_kinds m 1 = 2 ∨ q_kinds m 2 = 2) → (q_index m).toInt < 16) := fun hA => h ⟨hA, hB, hC⟩
            have hA1 : q_kinds m 0 = 2 ∨ q_kinds m 1 = 2 ∨ q_kinds m 2 = 2 := Classical.byContradiction fun z => hA (fun y => absurd y z)
            have hA2 : ¬ (q_index m).toInt < 16 := fun z => hA (fun _ => z)
            refine wp4 rfl rfl (mf_161 hJ2) (fun rv h1 hq => ?_)
            obtain ⟨m3, hJ3, hR3, rfl, y, rfl, hb3⟩ := hq
            refine wp2b rfl rfl (fun c4 => ?_) (fun c4 => ?_)
            · exact wpL rfl rfl (snd_30 hJ3)
            · have ek : q_kinds m3 = q_kinds m := (kinds_tr hR3).trans (kinds_tr hR2)
              have ei : q_index m3 = q_index m := (congrArg (fun f : ms_fr => f.2.2.2.2.1) (hR3.1 (by decide))).trans (congrArg (fun f : ms_fr => f.2.2.2.2.1) (hR2.1 (by decide)))
              exact snd_bad32 hJ3 (by rw [ek]; exact hA1) (by rw [ei]; exact hA2)
          · have ho : q_op m = 11 := Classical.byContradiction fun z => hB (fun y => absurd y z)
            have hk : ¬ q_kinds m 1 = 2 := fun z => hB (fun _ => z)
            have ek : q_kinds m2 = q_kinds m := kinds_tr hR2
            have eo : q_op m2 = q_op m := congrArg (fun f : ms_fr => f.1) (hR2.1 (by decide))
            refine am_ev_at rfl rfl (ops_bad' (eo.trans ho) (by rw [ek]; exact hk)) ?_
            refine wp2 (pc' := 30) rfl rfl ?_
            exact wpL rfl rfl (snd_30 hJ2)
      · have ho : q_op m = 19 ∨ q_op m = 20 := Classical.byContradiction fun z => hC (fun y => absurd y z)
        have hw : ¬ (q_width m = 1 ∨ q_width m = 4 ∨ q_width m = 8) := fun z => hC (fun _ => z)
        refine am_ev_at rfl rfl (siz_bad' ho (fun z => hw (Or.inl z)) (fun z => hw (Or.inr (Or.inl z))) (fun z => hw (Or.inr (Or.inr z)))) ?_
        refine wp2 (pc' := 30) rfl rfl ?_
        exact wpL rfl rfl (snd_30 hJ)
theorem st_31 {m m0 : ms} (hJ : K m) : tb_wp L xs 182 31 [] [] (HH s (MC m) D) (NI 0 m0 s D) := by
  refine wp0 rfl rfl ?_
  exact wp5i rfl rfl ⟨_, hJ, RL0, rfl, _, rfl⟩
set_option maxRecDepth 20000 in
theorem st_33 {m m0 : ms} (hJ : K m) (l1 : Int32) (hS : SPf m.1) : tb_wp L xs 182 33 [(0, .ref 24), (1, .int l1)] [] (HH s (MC m) D) (NI 0 m0 s D) := by
  refine wp1 rfl rfl ?_
  refine wp1 rfl rfl ?_
  refine wp3 rfl (am_putf rfl (Nat.le_of_ble_eq_true rfl) rfl rfl) ?_
  have hJ1 : K (t_length m l1) := hJ
  refine wpH (h' := HH s (MC (t_length m l1)) D) rfl ?_
  refine wp1 rfl rfl ?_
  refine wp0 rfl rfl ?_
  refine wp3 rfl (am_putf rfl (Nat.le_of_ble_eq_true rfl) rfl rfl) ?_
  have hJ2 : K (t_halt (t_length m l1) 0) := hJ
  refine wpH (h' := HH s (MC (t_halt (t_length m l1) 0)) D) rfl ?_
  refine wp1 rfl rfl ?_
  refine wp0 rfl rfl ?_
  refine wp3 rfl (am_putf rfl (Nat.le_of_ble_eq_true rfl) rfl rfl) ?_
  have hJ3 : K (t_haltValue (t_halt (t_length m l1) 0) 0) := hJ
  have hS3 : SPf (t_haltValue (t_halt (t_length m l1) 0) 0).1 := hS
  refine wpH (h' := HH s (MC (t_haltValue (t_halt (t_length m l1) 0) 0)) D) rfl ?_
  generalize t_haltValue (t_halt (t_length m l1) 0) 0 = mA at hJ3 hS3 ⊢
  refine wp1 rfl rfl ?_
  refine wp3 rfl (am_getf rfl rfl) ?_
  refine wpTl (fun w ew => ?_)
  refine wp1 rfl rfl ?_
  refine wpV (lv' := [(0, .ref 24), (1, .int l1), (2, .long w)]) rfl ?_
  refine wp1 rfl rfl ?_
  refine wp4 rfl rfl (mf_140 hJ3) (fun rv h1 hq => ?_)
  obtain ⟨m4, hJ4, hR4, rfl, y, rfl⟩ := hq
  refine wp1 rfl rfl ?_
  refine wpV (lv' := [(0, .ref 24), (1, .int l1), (2, .long w), (4, .long y)]) rfl ?_
  refine wp0 rfl rfl ?_
  refine wp1 rfl rfl ?_
  refine wpV (lv' := [(0, .ref 24), (1, .int l1), (2, .long w), (4, .long y), (6, .int 0)]) rfl ?_
  refine am_wp_mono (Q := NI 1 mA s D) ?_ (fun v h ⟨m', a, b, c, d⟩ => ⟨m', a, RL0, c, d⟩)
  exact wpL rfl rfl (sb_182_62 _ hJ4 (RLt (RLr : RL 1 mA mA) hR4) w y 0 (by decide) hS3 (Nat.lt_succ_self _))
set_option maxRecDepth 20000 in
theorem mf_182 {m : ms} (hJ : K m) (l1 : Int32) : tb_wp L xs 182 0 (lv_args 0 [.ref 24, .int l1]) [] (HH s (MC m) D) (NI 0 m s D) := by
  refine wp1 rfl rfl ?_
  refine wp0 rfl rfl ?_
  refine wp3 rfl (am_putf rfl (Nat.le_of_ble_eq_true rfl) rfl rfl) ?_
  have hJ1 : K (t_thrown m 0) := hJ
  refine wpH (h' := HH s (MC (t_thrown m 0)) D) rfl ?_
  refine wp1 rfl rfl ?_
  refine wp0 rfl rfl ?_
  refine wp2b rfl rfl (fun c1 => ?_) (fun c1 => ?_)
  · exact wpL rfl rfl (st_31 hJ1)
  · refine wp1 rfl rfl ?_
    refine wp0 rfl rfl ?_
    refine wp2b rfl rfl (fun c2 => ?_) (fun c2 => ?_)
    · exact wpL rfl rfl (st_31 hJ1)
    · refine wp1 rfl rfl ?_
      refine wp3 rfl (am_getf rfl rfl) ?_
      refine wp0 rfl rfl ?_
      refine wp2b rfl rfl (fun c3 => ?_) (fun c3 => ?_)
      · exact wpL rfl rfl (st_31 hJ1)
      · refine wp1 rfl rfl ?_
        by_cases hS : SPf (t_thrown m 0).1
        · refine wp4 rfl rfl (mf_150 hJ1) (fun rv h1 hq => ?_)
          obtain ⟨m2, hJ2, hR2, rfl, x, rfl, hb⟩ := hq
          refine wp2b rfl rfl (fun c4 => ?_) (fun c4 => ?_)
          · exact wpL rfl rfl (st_31 hJ2)
          · exact st_33 hJ2 l1 (SPf_tr hR2 hS)
        · refine wp4 rfl rfl (snd_bad hJ1 hS) (fun rv h1 hq => ?_)
          obtain ⟨m2, hJ2, rfl, rfl⟩ := hq
          refine wp2 (pc' := 31) rfl rfl ?_
          exact wpL rfl rfl (st_31 hJ2)

end SM9

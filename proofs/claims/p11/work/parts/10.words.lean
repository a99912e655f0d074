/-! PRINTED by wip/tools/gen.py: the words of the table stand in the Statement's -/
abbrev tb_tbl : List Cond := lw_tbl.filter goodWord
abbrev tb_nst : List Cond := lw_tbl.filter am_isN
theorem tb_i0 {i : Nat} {w : Cond} (h : (k2_sels lw_privs)[i]? = some w) (g : goodWord w = true) : w ∈ tb_tbl := List.mem_filter.mpr ⟨List.mem_append_left _ (List.mem_of_getElem? h), g⟩
theorem tb_t1_in {i : Nat} {w : Cond} (h : tables_1_1[i]? = some w) : w ∈ lw_tbl := List.mem_append_right _ (List.mem_append_left _ (List.mem_of_getElem? h))
theorem tb_i1 {i : Nat} {w : Cond} (h : tables_1_1[i]? = some w) (g : goodWord w = true) : w ∈ tb_tbl := List.mem_filter.mpr ⟨tb_t1_in h, g⟩
theorem tb_n1 {i : Nat} {w : Cond} (h : tables_1_1[i]? = some w) (g : am_isN w = true) : w ∈ tb_nst := List.mem_filter.mpr ⟨tb_t1_in h, g⟩
theorem tb_t2_in {i : Nat} {w : Cond} (h : tables_1_2[i]? = some w) : w ∈ lw_tbl := List.mem_append_right _ (List.mem_append_right _ (List.mem_append_left _ (List.mem_of_getElem? h)))
theorem tb_i2 {i : Nat} {w : Cond} (h : tables_1_2[i]? = some w) (g : goodWord w = true) : w ∈ tb_tbl := List.mem_filter.mpr ⟨tb_t2_in h, g⟩
theorem tb_n2 {i : Nat} {w : Cond} (h : tables_1_2[i]? = some w) (g : am_isN w = true) : w ∈ tb_nst := List.mem_filter.mpr ⟨tb_t2_in h, g⟩
theorem tb_t3_in {i : Nat} {w : Cond} (h : tables_1_3[i]? = some w) : w ∈ lw_tbl := List.mem_append_right _ (List.mem_append_right _ (List.mem_append_right _ (List.mem_append_left _ (List.mem_of_getElem? h))))
theorem tb_i3 {i : Nat} {w : Cond} (h : tables_1_3[i]? = some w) (g : goodWord w = true) : w ∈ tb_tbl := List.mem_filter.mpr ⟨tb_t3_in h, g⟩
theorem tb_n3 {i : Nat} {w : Cond} (h : tables_1_3[i]? = some w) (g : am_isN w = true) : w ∈ tb_nst := List.mem_filter.mpr ⟨tb_t3_in h, g⟩
theorem tb_t4_in {i : Nat} {w : Cond} (h : tables_1_4[i]? = some w) : w ∈ lw_tbl := List.mem_append_right _ (List.mem_append_right _ (List.mem_append_right _ (List.mem_append_right _ (List.mem_append_left _ (List.mem_of_getElem? h)))))
theorem tb_i4 {i : Nat} {w : Cond} (h : tables_1_4[i]? = some w) (g : goodWord w = true) : w ∈ tb_tbl := List.mem_filter.mpr ⟨tb_t4_in h, g⟩
theorem tb_n4 {i : Nat} {w : Cond} (h : tables_1_4[i]? = some w) (g : am_isN w = true) : w ∈ tb_nst := List.mem_filter.mpr ⟨tb_t4_in h, g⟩
theorem tb_t5_in {i : Nat} {w : Cond} (h : tables_1_5[i]? = some w) : w ∈ lw_tbl := List.mem_append_right _ (List.mem_append_right _ (List.mem_append_right _ (List.mem_append_right _ (List.mem_append_right _ (List.mem_append_left _ (List.mem_of_getElem? h))))))
theorem tb_i5 {i : Nat} {w : Cond} (h : tables_1_5[i]? = some w) (g : goodWord w = true) : w ∈ tb_tbl := List.mem_filter.mpr ⟨tb_t5_in h, g⟩
theorem tb_n5 {i : Nat} {w : Cond} (h : tables_1_5[i]? = some w) (g : am_isN w = true) : w ∈ tb_nst := List.mem_filter.mpr ⟨tb_t5_in h, g⟩
theorem tb_t6_in {i : Nat} {w : Cond} (h : tables_1_6[i]? = some w) : w ∈ lw_tbl := List.mem_append_right _ (List.mem_append_right _ (List.mem_append_right _ (List.mem_append_right _ (List.mem_append_right _ (List.mem_append_right _ (List.mem_of_getElem? h))))))
theorem tb_i6 {i : Nat} {w : Cond} (h : tables_1_6[i]? = some w) (g : goodWord w = true) : w ∈ tb_tbl := List.mem_filter.mpr ⟨tb_t6_in h, g⟩
theorem tb_n6 {i : Nat} {w : Cond} (h : tables_1_6[i]? = some w) (g : am_isN w = true) : w ∈ tb_nst := List.mem_filter.mpr ⟨tb_t6_in h, g⟩
def tb_k0 : am_K := ([(18, (.int 262144)), (102, (.long 262144)), (212, (.long (-1))), (216, (.long (-9223372036854775808)))], [(10, 0, 0), (22, 0, 1), (31, 0, 2), (40, 0, 3), (47, 0, 4), (54, 0, 5), (61, 0, 6), (68, 0, 7), (76, 3, 2), (94, 0, 8), (98, 0, 9), (108, 1, 0), (112, 1, 1), (115, 1, 2), (118, 1, 3), (122, 1, 4), (125, 1, 5), (128, 1, 6), (131, 1, 7), (134, 1, 8), (137, 1, 9), (163, 3, 7), (170, 3, 8), (173, 3, 0), (176, 3, 4), (179, 3, 1), (203, 5, 0), (209, 3, 5)], [(10, 0, 0), (22, 0, 1), (31, 0, 2), (40, 0, 3), (47, 0, 4), (54, 0, 5), (61, 0, 6), (68, 0, 7)], [(7, 1), (16, 2), (26, 3), (35, 6), (44, 7), (51, 8), (58, 9), (65, 10)], [(9, 53), (19, 106), (28, 31), (37, 120), (46, 88), (53, 21), (60, 73), (67, 99), (72, 2), (80, 68), (86, 69), (90, 40), (93, 104), (104, 116), (140, 57), (144, 36), (147, 122), (150, 121), (153, 96), (154, 25), (155, 41), (159, 103), (162, 81), (166, 5), (183, 44), (189, 66), (192, 100), (196, 102), (199, 71), (206, 108)], [1], [])
set_option maxRecDepth 100000 in
theorem tb_v0_0 : ∀ r ∈ tb_k0.1, am_vc tb_tbl "FlagMachine" r := (am_fa1 (tb_i1 (i := 89) rfl rfl) (am_fa1 (tb_i2 (i := 203) rfl rfl) (am_fa1 (tb_i3 (i := 60) rfl rfl) (am_fa1 (tb_i3 (i := 197) rfl rfl) am_fa0))))
set_option maxRecDepth 100000 in
theorem tb_v0_1 : ∀ r ∈ tb_k0.2.1, am_vf tb_tbl tb_nst tb_cl "FlagMachine" r := (am_fa1 (am_vf_p rfl (Nat.le_of_ble_eq_true rfl) (tb_i2 (i := 167) rfl rfl)) (am_fa1 (am_vf_p rfl (Nat.le_of_ble_eq_true rfl) (tb_i2 (i := 168) rfl rfl)) (am_fa1 (am_vf_p rfl (Nat.le_of_ble_eq_true rfl) (tb_i2 (i := 169) rfl rfl)) (am_fa1 (am_vf_p rfl (Nat.le_of_ble_eq_true rfl) (tb_i2 (i := 170) rfl rfl)) (am_fa1 (am_vf_p rfl (Nat.le_of_ble_eq_true rfl) (tb_i2 (i := 171) rfl rfl)) (am_fa1 (am_vf_p rfl (Nat.le_of_ble_eq_true rfl) (tb_i2 (i := 172) rfl rfl)) (am_fa1 (am_vf_p rfl (Nat.le_of_ble_eq_true rfl) (tb_i2 (i := 173) rfl rfl)) (am_fa1 (am_vf_p rfl (Nat.le_of_ble_eq_true rfl) (tb_i2 (i := 174) rfl rfl)) (am_fa1 (am_vf_p rfl (Nat.le_of_ble_eq_true rfl) (tb_i1 (i := 174) rfl rfl)) (am_fa1 (am_vf_p rfl (Nat.le_of_ble_eq_true rfl) (tb_i2 (i := 175) rfl rfl)) (am_fa1 (am_vf_p rfl (Nat.le_of_ble_eq_true rfl) (tb_i2 (i := 176) rfl rfl)) (am_fa1 (am_vf_p rfl (Nat.le_of_ble_eq_true rfl) (tb_i1 (i := 33) rfl rfl)) (am_fa1 (am_vf_p rfl (Nat.le_of_ble_eq_true rfl) (tb_i1 (i := 38) rfl rfl)) (am_fa1 (am_vf_p rfl (Nat.le_of_ble_eq_true rfl) (tb_i1 (i := 41) rfl rfl)) (am_fa1 (am_vf_p rfl (Nat.le_of_ble_eq_true rfl) (tb_i1 (i := 45) rfl rfl)) (am_fa1 (am_vf_p rfl (Nat.le_of_ble_eq_true rfl) (tb_i1 (i := 49) rfl rfl)) (am_fa1 (am_vf_p rfl (Nat.le_of_ble_eq_true rfl) (tb_i1 (i := 52) rfl rfl)) (am_fa1 (am_vf_p rfl (Nat.le_of_ble_eq_true rfl) (tb_i1 (i := 55) rfl rfl)) (am_fa1 (am_vf_p rfl (Nat.le_of_ble_eq_true rfl) (tb_i1 (i := 58) rfl rfl)) (am_fa1 (am_vf_p rfl (Nat.le_of_ble_eq_true rfl) (tb_i1 (i := 61) rfl rfl)) (am_fa1 (am_vf_p rfl (Nat.le_of_ble_eq_true rfl) (tb_i1 (i := 62) rfl rfl)) (am_fa1 (am_vf_p rfl (Nat.le_of_ble_eq_true rfl) (tb_i1 (i := 195) rfl rfl)) (am_fa1 (am_vf_p rfl (Nat.le_of_ble_eq_true rfl) (tb_i1 (i := 197) rfl rfl)) (am_fa1 (am_vf_p rfl (Nat.le_of_ble_eq_true rfl) (tb_i1 (i := 165) rfl rfl)) (am_fa1 (am_vf_p rfl (Nat.le_of_ble_eq_true rfl) (tb_i1 (i := 182) rfl rfl)) (am_fa1 (am_vf_p rfl (Nat.le_of_ble_eq_true rfl) (tb_i1 (i := 172) rfl rfl)) (am_fa1 (am_vf_p rfl (Nat.le_of_ble_eq_true rfl) (tb_i1 (i := 151) rfl rfl)) (am_fa1 (am_vf_p rfl (Nat.le_of_ble_eq_true rfl) (tb_i1 (i := 187) rfl rfl)) am_fa0))))))))))))))))))))))))))))
set_option maxRecDepth 100000 in
theorem tb_v0_2 : ∀ r ∈ tb_k0.2.2.1, am_vg tb_tbl tb_cl "FlagMachine" r := (am_fa1 (am_vg_p rfl (Nat.le_of_ble_eq_true rfl) rfl rfl (tb_i2 (i := 167) rfl rfl)) (am_fa1 (am_vg_p rfl (Nat.le_of_ble_eq_true rfl) rfl rfl (tb_i2 (i := 168) rfl rfl)) (am_fa1 (am_vg_p rfl (Nat.le_of_ble_eq_true rfl) rfl rfl (tb_i2 (i := 169) rfl rfl)) (am_fa1 (am_vg_p rfl (Nat.le_of_ble_eq_true rfl) rfl rfl (tb_i2 (i := 170) rfl rfl)) (am_fa1 (am_vg_p rfl (Nat.le_of_ble_eq_true rfl) rfl rfl (tb_i2 (i := 171) rfl rfl)) (am_fa1 (am_vg_p rfl (Nat.le_of_ble_eq_true rfl) rfl rfl (tb_i2 (i := 172) rfl rfl)) (am_fa1 (am_vg_p rfl (Nat.le_of_ble_eq_true rfl) rfl rfl (tb_i2 (i := 173) rfl rfl)) (am_fa1 (am_vg_p rfl (Nat.le_of_ble_eq_true rfl) rfl rfl (tb_i2 (i := 174) rfl rfl)) am_fa0))))))))
set_option maxRecDepth 100000 in
theorem tb_v0_3 : ∀ r ∈ tb_k0.2.2.2.1, am_vn tb_tbl tb_cl "FlagMachine" r := (am_fa1 (am_vn_p rfl (tb_i1 (i := 26) rfl rfl)) (am_fa1 (am_vn_p rfl (tb_i1 (i := 87) rfl rfl)) (am_fa1 (am_vn_p rfl (tb_i1 (i := 106) rfl rfl)) (am_fa1 (am_vn_p rfl (tb_i1 (i := 217) rfl rfl)) (am_fa1 (am_vn_p rfl (tb_i1 (i := 233) rfl rfl)) (am_fa1 (am_vn_p rfl (tb_i2 (i := 18) rfl rfl)) (am_fa1 (am_vn_p rfl (tb_i2 (i := 34) rfl rfl)) (am_fa1 (am_vn_p rfl (tb_i2 (i := 47) rfl rfl)) am_fa0))))))))
set_option maxRecDepth 100000 in
theorem tb_v0_4 : ∀ r ∈ tb_k0.2.2.2.2.1, am_lnkM tb_tbl tb_nst "FlagMachine" r.1 (tb_mt r.2).1 := (am_fa1 (Or.inr ⟨_, (tb_n1 (i := 28) rfl rfl)⟩) (am_fa1 (Or.inl (tb_i1 (i := 90) rfl rfl)) (am_fa1 (Or.inl (tb_i1 (i := 108) rfl rfl)) (am_fa1 (Or.inl (tb_i1 (i := 219) rfl rfl)) (am_fa1 (Or.inl (tb_i1 (i := 235) rfl rfl)) (am_fa1 (Or.inl (tb_i2 (i := 20) rfl rfl)) (am_fa1 (Or.inl (tb_i2 (i := 36) rfl rfl)) (am_fa1 (Or.inl (tb_i2 (i := 49) rfl rfl)) (am_fa1 (Or.inl (tb_i2 (i := 75) rfl rfl)) (am_fa1 (Or.inl (tb_i2 (i := 79) rfl rfl)) (am_fa1 (Or.inl (tb_i2 (i := 88) rfl rfl)) (am_fa1 (Or.inl (tb_i2 (i := 150) rfl rfl)) (am_fa1 (Or.inl (tb_i2 (i := 163) rfl rfl)) (am_fa1 (Or.inl (tb_i2 (i := 204) rfl rfl)) (am_fa1 (Or.inl (tb_i2 (i := 228) rfl rfl)) (am_fa1 (Or.inl (tb_i3 (i := 32) rfl rfl)) (am_fa1 (Or.inl (tb_i3 (i := 45) rfl rfl)) (am_fa1 (Or.inl (tb_i3 (i := 142) rfl rfl)) (am_fa1 (Or.inl (tb_i3 (i := 148) rfl rfl)) (am_fa1 (Or.inl (tb_i3 (i := 204) rfl rfl)) (am_fa1 (Or.inl (tb_i4 (i := 3) rfl rfl)) (am_fa1 (Or.inl (tb_i4 (i := 4) rfl rfl)) (am_fa1 (Or.inl (tb_i4 (i := 53) rfl rfl)) (am_fa1 (Or.inl (tb_i4 (i := 122) rfl rfl)) (am_fa1 (Or.inl (tb_i4 (i := 134) rfl rfl)) (am_fa1 (Or.inl (tb_i4 (i := 135) rfl rfl)) (am_fa1 (Or.inl (tb_i4 (i := 144) rfl rfl)) (am_fa1 (Or.inl (tb_i4 (i := 152) rfl rfl)) (am_fa1 (Or.inl (tb_i4 (i := 160) rfl rfl)) (am_fa1 (Or.inl (tb_i4 (i := 161) rfl rfl)) am_fa0))))))))))))))))))))))))))))))
set_option maxRecDepth 100000 in
theorem tb_v0_5 : ∀ r ∈ tb_k0.2.2.2.2.2.1, Cond.methodLink "FlagMachine" r objectInit ∈ tb_tbl := (am_fa1 (tb_i1 (i := 23) rfl rfl) am_fa0)
set_option maxRecDepth 100000 in
theorem tb_v0_6 : ∀ r ∈ tb_k0.2.2.2.2.2.2, am_vx tb_tbl tb_tl "FlagMachine" r := am_fa0
theorem tb_v0 : am_vK tb_tbl tb_nst tb_cl tb_tl tb_mt "FlagMachine" tb_k0 := ⟨tb_v0_0, tb_v0_1, tb_v0_2, tb_v0_3, tb_v0_4, tb_v0_5, tb_v0_6⟩
def tb_k1 : am_K := ([(70, (.long 255)), (72, (.long 65535))], [(9, 1, 0), (15, 1, 3), (19, 1, 4), (45, 1, 1), (48, 1, 2), (57, 1, 5), (60, 1, 6), (63, 1, 7), (66, 1, 9)], [(15, 1, 3), (19, 1, 4)], [], [(22, 63), (26, 54), (29, 64), (32, 61), (35, 55), (39, 58), (42, 59), (51, 56), (54, 60), (74, 17)], [3], [])
set_option maxRecDepth 100000 in
theorem tb_v1_0 : ∀ r ∈ tb_k1.1, am_vc tb_tbl "FlagMachine$Instruction" r := (am_fa1 (tb_i3 (i := 27) rfl rfl) (am_fa1 (tb_i3 (i := 28) rfl rfl) am_fa0))
set_option maxRecDepth 100000 in
theorem tb_v1_1 : ∀ r ∈ tb_k1.2.1, am_vf tb_tbl tb_nst tb_cl "FlagMachine$Instruction" r := (am_fa1 (am_vf_p rfl (Nat.le_of_ble_eq_true rfl) (tb_i1 (i := 32) rfl rfl)) (am_fa1 (am_vf_p rfl (Nat.le_of_ble_eq_true rfl) (tb_i1 (i := 43) rfl rfl)) (am_fa1 (am_vf_p rfl (Nat.le_of_ble_eq_true rfl) (tb_i1 (i := 48) rfl rfl)) (am_fa1 (am_vf_p rfl (Nat.le_of_ble_eq_true rfl) (tb_i1 (i := 39) rfl rfl)) (am_fa1 (am_vf_p rfl (Nat.le_of_ble_eq_true rfl) (tb_i1 (i := 42) rfl rfl)) (am_fa1 (am_vf_p rfl (Nat.le_of_ble_eq_true rfl) (tb_i1 (i := 53) rfl rfl)) (am_fa1 (am_vf_p rfl (Nat.le_of_ble_eq_true rfl) (tb_i1 (i := 56) rfl rfl)) (am_fa1 (am_vf_p rfl (Nat.le_of_ble_eq_true rfl) (tb_i1 (i := 59) rfl rfl)) (am_fa1 (am_vf_p rfl (Nat.le_of_ble_eq_true rfl) (tb_i1 (i := 64) rfl rfl)) am_fa0)))))))))
set_option maxRecDepth 100000 in
theorem tb_v1_2 : ∀ r ∈ tb_k1.2.2.1, am_vg tb_tbl tb_cl "FlagMachine$Instruction" r := (am_fa1 (am_vg_p rfl (Nat.le_of_ble_eq_true rfl) rfl rfl (tb_i1 (i := 43) rfl rfl)) (am_fa1 (am_vg_p rfl (Nat.le_of_ble_eq_true rfl) rfl rfl (tb_i1 (i := 48) rfl rfl)) am_fa0))
set_option maxRecDepth 100000 in
theorem tb_v1_3 : ∀ r ∈ tb_k1.2.2.2.1, am_vn tb_tbl tb_cl "FlagMachine$Instruction" r := am_fa0
set_option maxRecDepth 100000 in
theorem tb_v1_4 : ∀ r ∈ tb_k1.2.2.2.2.1, am_lnkM tb_tbl tb_nst "FlagMachine$Instruction" r.1 (tb_mt r.2).1 := (am_fa1 (Or.inl (tb_i2 (i := 232) rfl rfl)) (am_fa1 (Or.inl (tb_i2 (i := 236) rfl rfl)) (am_fa1 (Or.inl (tb_i3 (i := 0) rfl rfl)) (am_fa1 (Or.inl (tb_i3 (i := 4) rfl rfl)) (am_fa1 (Or.inl (tb_i3 (i := 15) rfl rfl)) (am_fa1 (Or.inl (tb_i3 (i := 19) rfl rfl)) (am_fa1 (Or.inl (tb_i3 (i := 23) rfl rfl)) (am_fa1 (Or.inl (tb_i3 (i := 8) rfl rfl)) (am_fa1 (Or.inl (tb_i3 (i := 11) rfl rfl)) (am_fa1 (Or.inr ⟨_, (tb_n3 (i := 29) rfl rfl)⟩) am_fa0))))))))))
set_option maxRecDepth 100000 in
theorem tb_v1_5 : ∀ r ∈ tb_k1.2.2.2.2.2.1, Cond.methodLink "FlagMachine$Instruction" r objectInit ∈ tb_tbl := (am_fa1 (tb_i1 (i := 31) rfl rfl) am_fa0)
set_option maxRecDepth 100000 in
theorem tb_v1_6 : ∀ r ∈ tb_k1.2.2.2.2.2.2, am_vx tb_tbl tb_tl "FlagMachine$Instruction" r := am_fa0
theorem tb_v1 : am_vK tb_tbl tb_nst tb_cl tb_tl tb_mt "FlagMachine$Instruction" tb_k1 := ⟨tb_v1_0, tb_v1_1, tb_v1_2, tb_v1_3, tb_v1_4, tb_v1_5, tb_v1_6⟩
def tb_k2 : am_K := ([], [(17, 2, 0), (27, 11, 2), (34, 2, 1), (44, 11, 1), (61, 11, 0)], [(17, 2, 0)], [(15, 11)], [(23, 114), (31, 115), (38, 193), (47, 118), (54, 111), (58, 109), (65, 113), (75, 194), (78, 87)], [3], [(9, 1), (51, 2), (69, 0)])
set_option maxRecDepth 100000 in
theorem tb_v2_0 : ∀ r ∈ tb_k2.1, am_vc tb_tbl "FlagMachine$Stretch" r := am_fa0
set_option maxRecDepth 100000 in
theorem tb_v2_1 : ∀ r ∈ tb_k2.2.1, am_vf tb_tbl tb_nst tb_cl "FlagMachine$Stretch" r := (am_fa1 (am_vf_p rfl (Nat.le_of_ble_eq_true rfl) (tb_i1 (i := 99) rfl rfl)) (am_fa1 (am_vf_p rfl (Nat.le_of_ble_eq_true rfl) (tb_i2 (i := 128) rfl rfl)) (am_fa1 (am_vf_p rfl (Nat.le_of_ble_eq_true rfl) (tb_i1 (i := 100) rfl rfl)) (am_fa1 (am_vf_p rfl (Nat.le_of_ble_eq_true rfl) (tb_i2 (i := 126) rfl rfl)) (am_fa1 (am_vf_p rfl (Nat.le_of_ble_eq_true rfl) (tb_i2 (i := 124) rfl rfl)) am_fa0)))))
set_option maxRecDepth 100000 in
theorem tb_v2_2 : ∀ r ∈ tb_k2.2.2.1, am_vg tb_tbl tb_cl "FlagMachine$Stretch" r := (am_fa1 (am_vg_p rfl (Nat.le_of_ble_eq_true rfl) rfl rfl (tb_i1 (i := 99) rfl rfl)) am_fa0)
set_option maxRecDepth 100000 in
theorem tb_v2_3 : ∀ r ∈ tb_k2.2.2.2.1, am_vn tb_tbl tb_cl "FlagMachine$Stretch" r := (am_fa1 (am_vn_p rfl (tb_i1 (i := 97) rfl rfl)) am_fa0)
set_option maxRecDepth 100000 in
theorem tb_v2_4 : ∀ r ∈ tb_k2.2.2.2.2.1, am_lnkM tb_tbl tb_nst "FlagMachine$Stretch" r.1 (tb_mt r.2).1 := (am_fa1 (Or.inl (tb_i2 (i := 110) rfl rfl)) (am_fa1 (Or.inl (tb_i2 (i := 114) rfl rfl)) (am_fa1 (Or.inl (tb_i2 (i := 100) rfl rfl)) (am_fa1 (Or.inl (tb_i4 (i := 33) rfl rfl)) (am_fa1 (Or.inl (tb_i2 (i := 137) rfl rfl)) (am_fa1 (Or.inl (tb_i2 (i := 96) rfl rfl)) (am_fa1 (Or.inl (tb_i2 (i := 106) rfl rfl)) (am_fa1 (Or.inl (tb_i2 (i := 141) rfl rfl)) (am_fa1 (Or.inl (tb_i2 (i := 119) rfl rfl)) am_fa0)))))))))
set_option maxRecDepth 100000 in
theorem tb_v2_5 : ∀ r ∈ tb_k2.2.2.2.2.2.1, Cond.methodLink "FlagMachine$Stretch" r objectInit ∈ tb_tbl := (am_fa1 (tb_i1 (i := 93) rfl rfl) am_fa0)
set_option maxRecDepth 100000 in
theorem tb_v2_6 : ∀ r ∈ tb_k2.2.2.2.2.2.2, am_vx tb_tbl tb_tl "FlagMachine$Stretch" r := (am_fa1 (am_vx1 (tb_i1 (i := 94) rfl rfl) (tb_i1 (i := 95) rfl rfl) (tb_i1 (i := 4) rfl rfl) (tb_i1 (i := 96) rfl rfl)) (am_fa1 (am_vx2 (tb_i2 (i := 103) rfl rfl) (tb_i2 (i := 104) rfl rfl) (tb_i1 (i := 4) rfl rfl) (tb_i2 (i := 105) rfl rfl)) (am_fa1 (am_vx0 (tb_i2 (i := 147) rfl rfl) (tb_i2 (i := 149) rfl rfl) (tb_i2 (i := 148) rfl rfl) (tb_i1 (i := 15) rfl rfl) (by decide)) am_fa0)))
theorem tb_v2 : am_vK tb_tbl tb_nst tb_cl tb_tl tb_mt "FlagMachine$Stretch" tb_k2 := ⟨tb_v2_0, tb_v2_1, tb_v2_2, tb_v2_3, tb_v2_4, tb_v2_5, tb_v2_6⟩
def tb_k3 : am_K := ([(39, (.long 2147479552)), (44, (.long 4194304)), (92, (.long (-1)))], [(9, 3, 0), (18, 3, 1), (25, 3, 2), (29, 3, 3), (46, 3, 4), (50, 3, 7), (54, 3, 8), (57, 3, 5), (70, 3, 6), (73, 1, 5), (80, 1, 6), (83, 1, 7), (86, 1, 8), (94, 1, 3), (98, 1, 4), (108, 1, 9), (119, 5, 0)], [(9, 3, 0), (18, 3, 1), (25, 3, 2), (29, 3, 3)], [(15, 4), (22, 5)], [(17, 43), (24, 65), (33, 195), (41, 45), (60, 55), (66, 34), (76, 38), (89, 7), (100, 35), (104, 33), (111, 71), (115, 41), (123, 119), (128, 37), (132, 39), (136, 117)], [3], [])
set_option maxRecDepth 100000 in
theorem tb_v3_0 : ∀ r ∈ tb_k3.1, am_vc tb_tbl "FlagMachine$Core" r := (am_fa1 (tb_i2 (i := 157) rfl rfl) (am_fa1 (tb_i2 (i := 162) rfl rfl) (am_fa1 (tb_i3 (i := 98) rfl rfl) am_fa0)))
set_option maxRecDepth 100000 in
theorem tb_v3_1 : ∀ r ∈ tb_k3.2.1, am_vf tb_tbl tb_nst tb_cl "FlagMachine$Core" r := (am_fa1 (am_vf_p rfl (Nat.le_of_ble_eq_true rfl) (tb_i1 (i := 161) rfl rfl)) (am_fa1 (am_vf_p rfl (Nat.le_of_ble_eq_true rfl) (tb_i1 (i := 168) rfl rfl)) (am_fa1 (am_vf_p rfl (Nat.le_of_ble_eq_true rfl) (tb_i1 (i := 173) rfl rfl)) (am_fa1 (am_vf_p rfl (Nat.le_of_ble_eq_true rfl) (tb_i1 (i := 180) rfl rfl)) (am_fa1 (am_vf_p rfl (Nat.le_of_ble_eq_true rfl) (tb_i1 (i := 181) rfl rfl)) (am_fa1 (am_vf_p rfl (Nat.le_of_ble_eq_true rfl) (tb_i1 (i := 190) rfl rfl)) (am_fa1 (am_vf_p rfl (Nat.le_of_ble_eq_true rfl) (tb_i1 (i := 196) rfl rfl)) (am_fa1 (am_vf_p rfl (Nat.le_of_ble_eq_true rfl) (tb_i1 (i := 184) rfl rfl)) (am_fa1 (am_vf_p rfl (Nat.le_of_ble_eq_true rfl) (tb_i1 (i := 188) rfl rfl)) (am_fa1 (am_vf_p rfl (Nat.le_of_ble_eq_true rfl) (tb_i1 (i := 51) rfl rfl)) (am_fa1 (am_vf_p rfl (Nat.le_of_ble_eq_true rfl) (tb_i1 (i := 54) rfl rfl)) (am_fa1 (am_vf_p rfl (Nat.le_of_ble_eq_true rfl) (tb_i1 (i := 57) rfl rfl)) (am_fa1 (am_vf_p rfl (Nat.le_of_ble_eq_true rfl) (tb_i1 (i := 60) rfl rfl)) (am_fa1 (am_vf_p rfl (Nat.le_of_ble_eq_true rfl) (tb_i1 (i := 46) rfl rfl)) (am_fa1 (am_vf_p rfl (Nat.le_of_ble_eq_true rfl) (tb_i1 (i := 50) rfl rfl)) (am_fa1 (am_vf_p rfl (Nat.le_of_ble_eq_true rfl) (tb_i1 (i := 63) rfl rfl)) (am_fa1 (am_vf_p rfl (Nat.le_of_ble_eq_true rfl) (tb_i1 (i := 150) rfl rfl)) am_fa0)))))))))))))))))
set_option maxRecDepth 100000 in
theorem tb_v3_2 : ∀ r ∈ tb_k3.2.2.1, am_vg tb_tbl tb_cl "FlagMachine$Core" r := (am_fa1 (am_vg_p rfl (Nat.le_of_ble_eq_true rfl) rfl rfl (tb_i1 (i := 161) rfl rfl)) (am_fa1 (am_vg_p rfl (Nat.le_of_ble_eq_true rfl) rfl rfl (tb_i1 (i := 168) rfl rfl)) (am_fa1 (am_vg_p rfl (Nat.le_of_ble_eq_true rfl) rfl rfl (tb_i1 (i := 173) rfl rfl)) (am_fa1 (am_vg_p rfl (Nat.le_of_ble_eq_true rfl) rfl rfl (tb_i1 (i := 180) rfl rfl)) am_fa0))))
set_option maxRecDepth 100000 in
theorem tb_v3_3 : ∀ r ∈ tb_k3.2.2.2.1, am_vn tb_tbl tb_cl "FlagMachine$Core" r := (am_fa1 (am_vn_p rfl (tb_i1 (i := 112) rfl rfl)) (am_fa1 (am_vn_p rfl (tb_i1 (i := 139) rfl rfl)) am_fa0))
set_option maxRecDepth 100000 in
theorem tb_v3_4 : ∀ r ∈ tb_k3.2.2.2.2.1, am_lnkM tb_tbl tb_nst "FlagMachine$Core" r.1 (tb_mt r.2).1 := (am_fa1 (Or.inr ⟨_, (tb_n1 (i := 114) rfl rfl)⟩) (am_fa1 (Or.inr ⟨_, (tb_n1 (i := 141) rfl rfl)⟩) (am_fa1 (Or.inl (tb_i2 (i := 154) rfl rfl)) (am_fa1 (Or.inl (tb_i2 (i := 158) rfl rfl)) (am_fa1 (Or.inl (tb_i3 (i := 36) rfl rfl)) (am_fa1 (Or.inl (tb_i3 (i := 37) rfl rfl)) (am_fa1 (Or.inl (tb_i3 (i := 41) rfl rfl)) (am_fa1 (Or.inr ⟨_, (tb_n3 (i := 57) rfl rfl)⟩) (am_fa1 (Or.inl (tb_i3 (i := 53) rfl rfl)) (am_fa1 (Or.inl (tb_i3 (i := 61) rfl rfl)) (am_fa1 (Or.inl (tb_i3 (i := 65) rfl rfl)) (am_fa1 (Or.inl (tb_i3 (i := 76) rfl rfl)) (am_fa1 (Or.inl (tb_i3 (i := 80) rfl rfl)) (am_fa1 (Or.inl (tb_i3 (i := 94) rfl rfl)) (am_fa1 (Or.inl (tb_i3 (i := 99) rfl rfl)) (am_fa1 (Or.inl (tb_i3 (i := 103) rfl rfl)) am_fa0))))))))))))))))
set_option maxRecDepth 100000 in
theorem tb_v3_5 : ∀ r ∈ tb_k3.2.2.2.2.2.1, Cond.methodLink "FlagMachine$Core" r objectInit ∈ tb_tbl := (am_fa1 (tb_i1 (i := 111) rfl rfl) am_fa0)
set_option maxRecDepth 100000 in
theorem tb_v3_6 : ∀ r ∈ tb_k3.2.2.2.2.2.2, am_vx tb_tbl tb_tl "FlagMachine$Core" r := am_fa0
theorem tb_v3 : am_vK tb_tbl tb_nst tb_cl tb_tl tb_mt "FlagMachine$Core" tb_k3 := ⟨tb_v3_0, tb_v3_1, tb_v3_2, tb_v3_3, tb_v3_4, tb_v3_5, tb_v3_6⟩
def tb_k4 : am_K := ([(35, (.long 255)), (43, (.long (-1)))], [(7, 4, 0), (13, 4, 1), (16, 4, 2), (19, 4, 3), (22, 4, 4)], [], [], [(25, 47), (29, 19), (37, 192), (45, 51)], [1], [])
set_option maxRecDepth 100000 in
theorem tb_v4_0 : ∀ r ∈ tb_k4.1, am_vc tb_tbl "FlagMachine$Flags" r := (am_fa1 (tb_i3 (i := 127) rfl rfl) (am_fa1 (tb_i3 (i := 122) rfl rfl) am_fa0))
set_option maxRecDepth 100000 in
theorem tb_v4_1 : ∀ r ∈ tb_k4.2.1, am_vf tb_tbl tb_nst tb_cl "FlagMachine$Flags" r := (am_fa1 (am_vf_p rfl (Nat.le_of_ble_eq_true rfl) (tb_i1 (i := 118) rfl rfl)) (am_fa1 (am_vf_p rfl (Nat.le_of_ble_eq_true rfl) (tb_i1 (i := 121) rfl rfl)) (am_fa1 (am_vf_p rfl (Nat.le_of_ble_eq_true rfl) (tb_i1 (i := 122) rfl rfl)) (am_fa1 (am_vf_p rfl (Nat.le_of_ble_eq_true rfl) (tb_i1 (i := 124) rfl rfl)) (am_fa1 (am_vf_p rfl (Nat.le_of_ble_eq_true rfl) (tb_i1 (i := 125) rfl rfl)) am_fa0)))))
set_option maxRecDepth 100000 in
theorem tb_v4_2 : ∀ r ∈ tb_k4.2.2.1, am_vg tb_tbl tb_cl "FlagMachine$Flags" r := am_fa0
set_option maxRecDepth 100000 in
theorem tb_v4_3 : ∀ r ∈ tb_k4.2.2.2.1, am_vn tb_tbl tb_cl "FlagMachine$Flags" r := am_fa0
set_option maxRecDepth 100000 in
theorem tb_v4_4 : ∀ r ∈ tb_k4.2.2.2.2.1, am_lnkM tb_tbl tb_nst "FlagMachine$Flags" r.1 (tb_mt r.2).1 := (am_fa1 (Or.inl (tb_i4 (i := 96) rfl rfl)) (am_fa1 (Or.inr ⟨_, (tb_n3 (i := 119) rfl rfl)⟩) (am_fa1 (Or.inl (tb_i3 (i := 128) rfl rfl)) (am_fa1 (Or.inl (tb_i3 (i := 123) rfl rfl)) am_fa0))))
set_option maxRecDepth 100000 in
theorem tb_v4_5 : ∀ r ∈ tb_k4.2.2.2.2.2.1, Cond.methodLink "FlagMachine$Flags" r objectInit ∈ tb_tbl := (am_fa1 (tb_i1 (i := 117) rfl rfl) am_fa0)
set_option maxRecDepth 100000 in
theorem tb_v4_6 : ∀ r ∈ tb_k4.2.2.2.2.2.2, am_vx tb_tbl tb_tl "FlagMachine$Flags" r := am_fa0
theorem tb_v4 : am_vK tb_tbl tb_nst tb_cl tb_tl tb_mt "FlagMachine$Flags" tb_k4 := ⟨tb_v4_0, tb_v4_1, tb_v4_2, tb_v4_3, tb_v4_4, tb_v4_5, tb_v4_6⟩
def tb_k5 : am_K := ([(13, (.int 393472)), (32, (.int 327936)), (37, (.long 4194304)), (39, (.long 65536)), (49, (.long 4521984)), (51, (.long 2147414016)), (53, (.long 2147479552))], [(17, 5, 0), (21, 5, 1), (25, 5, 2)], [(17, 5, 0), (21, 5, 1), (25, 5, 2)], [(11, 2)], [(14, 106), (28, 67), (33, 107), (41, 110), (45, 72)], [5], [])
set_option maxRecDepth 100000 in
theorem tb_v5_0 : ∀ r ∈ tb_k5.1, am_vc tb_tbl "FlagMachine$Memory" r := (am_fa1 (tb_i1 (i := 146) rfl rfl) (am_fa1 (tb_i2 (i := 87) rfl rfl) (am_fa1 (tb_i3 (i := 72) rfl rfl) (am_fa1 (tb_i4 (i := 41) rfl rfl) (am_fa1 (tb_i3 (i := 73) rfl rfl) (am_fa1 (tb_i3 (i := 74) rfl rfl) (am_fa1 (tb_i3 (i := 75) rfl rfl) am_fa0)))))))
set_option maxRecDepth 100000 in
theorem tb_v5_1 : ∀ r ∈ tb_k5.2.1, am_vf tb_tbl tb_nst tb_cl "FlagMachine$Memory" r := (am_fa1 (am_vf_p rfl (Nat.le_of_ble_eq_true rfl) (tb_i1 (i := 148) rfl rfl)) (am_fa1 (am_vf_p rfl (Nat.le_of_ble_eq_true rfl) (tb_i1 (i := 152) rfl rfl)) (am_fa1 (am_vf_p rfl (Nat.le_of_ble_eq_true rfl) (tb_i1 (i := 153) rfl rfl)) am_fa0)))
set_option maxRecDepth 100000 in
theorem tb_v5_2 : ∀ r ∈ tb_k5.2.2.1, am_vg tb_tbl tb_cl "FlagMachine$Memory" r := (am_fa1 (am_vg_p rfl (Nat.le_of_ble_eq_true rfl) rfl rfl (tb_i1 (i := 148) rfl rfl)) (am_fa1 (am_vg_p rfl (Nat.le_of_ble_eq_true rfl) rfl rfl (tb_i1 (i := 152) rfl rfl)) (am_fa1 (am_vg_p rfl (Nat.le_of_ble_eq_true rfl) rfl rfl (tb_i1 (i := 153) rfl rfl)) am_fa0)))
set_option maxRecDepth 100000 in
theorem tb_v5_3 : ∀ r ∈ tb_k5.2.2.2.1, am_vn tb_tbl tb_cl "FlagMachine$Memory" r := (am_fa1 (am_vn_p rfl (tb_i1 (i := 145) rfl rfl)) am_fa0)
set_option maxRecDepth 100000 in
theorem tb_v5_4 : ∀ r ∈ tb_k5.2.2.2.2.1, am_lnkM tb_tbl tb_nst "FlagMachine$Memory" r.1 (tb_mt r.2).1 := (am_fa1 (Or.inl (tb_i1 (i := 147) rfl rfl)) (am_fa1 (Or.inl (tb_i2 (i := 83) rfl rfl)) (am_fa1 (Or.inl (tb_i2 (i := 92) rfl rfl)) (am_fa1 (Or.inl (tb_i4 (i := 42) rfl rfl)) (am_fa1 (Or.inl (tb_i3 (i := 69) rfl rfl)) am_fa0)))))
set_option maxRecDepth 100000 in
theorem tb_v5_5 : ∀ r ∈ tb_k5.2.2.2.2.2.1, Cond.methodLink "FlagMachine$Memory" r objectInit ∈ tb_tbl := (am_fa1 (tb_i1 (i := 144) rfl rfl) am_fa0)
set_option maxRecDepth 100000 in
theorem tb_v5_6 : ∀ r ∈ tb_k5.2.2.2.2.2.2, am_vx tb_tbl tb_tl "FlagMachine$Memory" r := am_fa0
theorem tb_v5 : am_vK tb_tbl tb_nst tb_cl tb_tl tb_mt "FlagMachine$Memory" tb_k5 := ⟨tb_v5_0, tb_v5_1, tb_v5_2, tb_v5_3, tb_v5_4, tb_v5_5, tb_v5_6⟩
def tb_k6 : am_K := ([(66, (.long (-1)))], [(9, 6, 0), (15, 3, 1), (21, 6, 1), (22, 3, 3), (26, 6, 2), (27, 1, 1), (37, 3, 7), (60, 4, 0)], [(9, 6, 0), (21, 6, 1), (26, 6, 2)], [], [(33, 32), (40, 123), (44, 7), (48, 42), (52, 62), (56, 124), (68, 52), (72, 49), (75, 48), (79, 35), (82, 37)], [3], [])
set_option maxRecDepth 100000 in
theorem tb_v6_0 : ∀ r ∈ tb_k6.1, am_vc tb_tbl "FlagMachine$Sums" r := (am_fa1 (tb_i3 (i := 88) rfl rfl) am_fa0)
set_option maxRecDepth 100000 in
theorem tb_v6_1 : ∀ r ∈ tb_k6.2.1, am_vf tb_tbl tb_nst tb_cl "FlagMachine$Sums" r := (am_fa1 (am_vf_p rfl (Nat.le_of_ble_eq_true rfl) (tb_i1 (i := 223) rfl rfl)) (am_fa1 (am_vf_p rfl (Nat.le_of_ble_eq_true rfl) (tb_i1 (i := 166) rfl rfl)) (am_fa1 (am_vf_p rfl (Nat.le_of_ble_eq_true rfl) (tb_i1 (i := 224) rfl rfl)) (am_fa1 (am_vf_p rfl (Nat.le_of_ble_eq_true rfl) (tb_i1 (i := 178) rfl rfl)) (am_fa1 (am_vf_p rfl (Nat.le_of_ble_eq_true rfl) (tb_i1 (i := 225) rfl rfl)) (am_fa1 (am_vf_p rfl (Nat.le_of_ble_eq_true rfl) (tb_i1 (i := 34) rfl rfl)) (am_fa1 (am_vf_p rfl (Nat.le_of_ble_eq_true rfl) (tb_i1 (i := 191) rfl rfl)) (am_fa1 (am_vf_p rfl (Nat.le_of_ble_eq_true rfl) (tb_i1 (i := 119) rfl rfl)) am_fa0))))))))
set_option maxRecDepth 100000 in
theorem tb_v6_2 : ∀ r ∈ tb_k6.2.2.1, am_vg tb_tbl tb_cl "FlagMachine$Sums" r := (am_fa1 (am_vg_p rfl (Nat.le_of_ble_eq_true rfl) rfl rfl (tb_i1 (i := 223) rfl rfl)) (am_fa1 (am_vg_p rfl (Nat.le_of_ble_eq_true rfl) rfl rfl (tb_i1 (i := 224) rfl rfl)) (am_fa1 (am_vg_p rfl (Nat.le_of_ble_eq_true rfl) rfl rfl (tb_i1 (i := 225) rfl rfl)) am_fa0)))
set_option maxRecDepth 100000 in
theorem tb_v6_3 : ∀ r ∈ tb_k6.2.2.2.1, am_vn tb_tbl tb_cl "FlagMachine$Sums" r := am_fa0
set_option maxRecDepth 100000 in
theorem tb_v6_4 : ∀ r ∈ tb_k6.2.2.2.2.1, am_lnkM tb_tbl tb_nst "FlagMachine$Sums" r.1 (tb_mt r.2).1 := (am_fa1 (Or.inl (tb_i3 (i := 49) rfl rfl)) (am_fa1 (Or.inl (tb_i3 (i := 84) rfl rfl)) (am_fa1 (Or.inr ⟨_, (tb_n3 (i := 89) rfl rfl)⟩) (am_fa1 (Or.inl (tb_i3 (i := 90) rfl rfl)) (am_fa1 (Or.inl (tb_i3 (i := 107) rfl rfl)) (am_fa1 (Or.inl (tb_i3 (i := 111) rfl rfl)) (am_fa1 (Or.inl (tb_i3 (i := 115) rfl rfl)) (am_fa1 (Or.inl (tb_i3 (i := 134) rfl rfl)) (am_fa1 (Or.inl (tb_i3 (i := 138) rfl rfl)) (am_fa1 (Or.inl (tb_i3 (i := 146) rfl rfl)) (am_fa1 (Or.inl (tb_i3 (i := 147) rfl rfl)) am_fa0)))))))))))
set_option maxRecDepth 100000 in
theorem tb_v6_5 : ∀ r ∈ tb_k6.2.2.2.2.2.1, Cond.methodLink "FlagMachine$Sums" r objectInit ∈ tb_tbl := (am_fa1 (tb_i1 (i := 222) rfl rfl) am_fa0)
set_option maxRecDepth 100000 in
theorem tb_v6_6 : ∀ r ∈ tb_k6.2.2.2.2.2.2, am_vx tb_tbl tb_tl "FlagMachine$Sums" r := am_fa0
theorem tb_v6 : am_vK tb_tbl tb_nst tb_cl tb_tl tb_mt "FlagMachine$Sums" tb_k6 := ⟨tb_v6_0, tb_v6_1, tb_v6_2, tb_v6_3, tb_v6_4, tb_v6_5, tb_v6_6⟩
def tb_k7 : am_K := ([(46, (.long (-1))), (97, (.long 255))], [(9, 7, 0), (15, 3, 3), (21, 7, 1), (32, 1, 1), (38, 3, 0), (56, 3, 7), (66, 7, 2), (70, 7, 3), (77, 3, 1), (89, 1, 3), (110, 7, 4), (113, 7, 5)], [(9, 7, 0), (21, 7, 1)], [], [(22, 95), (26, 89), (29, 94), (42, 17), (48, 37), (52, 32), (59, 35), (62, 93), (73, 97), (81, 98), (84, 50), (93, 42), (99, 90), (103, 91), (106, 41), (116, 19), (120, 7), (123, 92), (127, 3)], [3], [])
set_option maxRecDepth 100000 in
theorem tb_v7_0 : ∀ r ∈ tb_k7.1, am_vc tb_tbl "FlagMachine$Products" r := (am_fa1 (tb_i3 (i := 189) rfl rfl) (am_fa1 (tb_i3 (i := 184) rfl rfl) am_fa0))
set_option maxRecDepth 100000 in
theorem tb_v7_1 : ∀ r ∈ tb_k7.2.1, am_vf tb_tbl tb_nst tb_cl "FlagMachine$Products" r := (am_fa1 (am_vf_p rfl (Nat.le_of_ble_eq_true rfl) (tb_i1 (i := 239) rfl rfl)) (am_fa1 (am_vf_p rfl (Nat.le_of_ble_eq_true rfl) (tb_i1 (i := 176) rfl rfl)) (am_fa1 (am_vf_p rfl (Nat.le_of_ble_eq_true rfl) (tb_i2 (i := 0) rfl rfl)) (am_fa1 (am_vf_p rfl (Nat.le_of_ble_eq_true rfl) (tb_i1 (i := 35) rfl rfl)) (am_fa1 (am_vf_p rfl (Nat.le_of_ble_eq_true rfl) (tb_i1 (i := 162) rfl rfl)) (am_fa1 (am_vf_p rfl (Nat.le_of_ble_eq_true rfl) (tb_i1 (i := 193) rfl rfl)) (am_fa1 (am_vf_p rfl (Nat.le_of_ble_eq_true rfl) (tb_i2 (i := 1) rfl rfl)) (am_fa1 (am_vf_p rfl (Nat.le_of_ble_eq_true rfl) (tb_i2 (i := 2) rfl rfl)) (am_fa1 (am_vf_p rfl (Nat.le_of_ble_eq_true rfl) (tb_i1 (i := 170) rfl rfl)) (am_fa1 (am_vf_p rfl (Nat.le_of_ble_eq_true rfl) (tb_i1 (i := 44) rfl rfl)) (am_fa1 (am_vf_p rfl (Nat.le_of_ble_eq_true rfl) (tb_i2 (i := 3) rfl rfl)) (am_fa1 (am_vf_p rfl (Nat.le_of_ble_eq_true rfl) (tb_i2 (i := 4) rfl rfl)) am_fa0))))))))))))
set_option maxRecDepth 100000 in
theorem tb_v7_2 : ∀ r ∈ tb_k7.2.2.1, am_vg tb_tbl tb_cl "FlagMachine$Products" r := (am_fa1 (am_vg_p rfl (Nat.le_of_ble_eq_true rfl) rfl rfl (tb_i1 (i := 239) rfl rfl)) (am_fa1 (am_vg_p rfl (Nat.le_of_ble_eq_true rfl) rfl rfl (tb_i2 (i := 0) rfl rfl)) am_fa0))
set_option maxRecDepth 100000 in
theorem tb_v7_3 : ∀ r ∈ tb_k7.2.2.2.1, am_vn tb_tbl tb_cl "FlagMachine$Products" r := am_fa0
set_option maxRecDepth 100000 in
theorem tb_v7_4 : ∀ r ∈ tb_k7.2.2.2.2.1, am_lnkM tb_tbl tb_nst "FlagMachine$Products" r.1 (tb_mt r.2).1 := (am_fa1 (Or.inl (tb_i3 (i := 152) rfl rfl)) (am_fa1 (Or.inl (tb_i3 (i := 180) rfl rfl)) (am_fa1 (Or.inl (tb_i3 (i := 199) rfl rfl)) (am_fa1 (Or.inr ⟨_, (tb_n3 (i := 162) rfl rfl)⟩) (am_fa1 (Or.inl (tb_i3 (i := 171) rfl rfl)) (am_fa1 (Or.inl (tb_i3 (i := 156) rfl rfl)) (am_fa1 (Or.inl (tb_i3 (i := 157) rfl rfl)) (am_fa1 (Or.inl (tb_i3 (i := 158) rfl rfl)) (am_fa1 (Or.inl (tb_i3 (i := 167) rfl rfl)) (am_fa1 (Or.inl (tb_i3 (i := 172) rfl rfl)) (am_fa1 (Or.inl (tb_i3 (i := 176) rfl rfl)) (am_fa1 (Or.inl (tb_i3 (i := 203) rfl rfl)) (am_fa1 (Or.inl (tb_i3 (i := 185) rfl rfl)) (am_fa1 (Or.inl (tb_i3 (i := 190) rfl rfl)) (am_fa1 (Or.inl (tb_i3 (i := 198) rfl rfl)) (am_fa1 (Or.inr ⟨_, (tb_n3 (i := 175) rfl rfl)⟩) (am_fa1 (Or.inr ⟨_, (tb_n3 (i := 166) rfl rfl)⟩) (am_fa1 (Or.inl (tb_i3 (i := 163) rfl rfl)) (am_fa1 (Or.inr ⟨_, (tb_n3 (i := 194) rfl rfl)⟩) am_fa0)))))))))))))))))))
set_option maxRecDepth 100000 in
theorem tb_v7_5 : ∀ r ∈ tb_k7.2.2.2.2.2.1, Cond.methodLink "FlagMachine$Products" r objectInit ∈ tb_tbl := (am_fa1 (tb_i1 (i := 238) rfl rfl) am_fa0)
set_option maxRecDepth 100000 in
theorem tb_v7_6 : ∀ r ∈ tb_k7.2.2.2.2.2.2, am_vx tb_tbl tb_tl "FlagMachine$Products" r := am_fa0
theorem tb_v7 : am_vK tb_tbl tb_nst tb_cl tb_tl tb_mt "FlagMachine$Products" tb_k7 := ⟨tb_v7_0, tb_v7_1, tb_v7_2, tb_v7_3, tb_v7_4, tb_v7_5, tb_v7_6⟩
def tb_k8 : am_K := ([(96, (.long 255))], [(7, 8, 0), (13, 3, 1), (19, 8, 1), (20, 3, 3), (24, 8, 2), (39, 1, 1), (49, 3, 7), (66, 4, 0), (76, 4, 4), (86, 4, 2)], [(7, 8, 0), (19, 8, 1), (24, 8, 2)], [], [(25, 26), (29, 30), (32, 29), (35, 27), (45, 32), (52, 28), (56, 19), (62, 42), (72, 24), (79, 51), (83, 7), (89, 23), (93, 22)], [1], [])
set_option maxRecDepth 100000 in
theorem tb_v8_0 : ∀ r ∈ tb_k8.1, am_vc tb_tbl "FlagMachine$Bits" r := (am_fa1 (tb_i3 (i := 224) rfl rfl) am_fa0)
set_option maxRecDepth 100000 in
theorem tb_v8_1 : ∀ r ∈ tb_k8.2.1, am_vf tb_tbl tb_nst tb_cl "FlagMachine$Bits" r := (am_fa1 (am_vf_p rfl (Nat.le_of_ble_eq_true rfl) (tb_i2 (i := 24) rfl rfl)) (am_fa1 (am_vf_p rfl (Nat.le_of_ble_eq_true rfl) (tb_i1 (i := 167) rfl rfl)) (am_fa1 (am_vf_p rfl (Nat.le_of_ble_eq_true rfl) (tb_i2 (i := 25) rfl rfl)) (am_fa1 (am_vf_p rfl (Nat.le_of_ble_eq_true rfl) (tb_i1 (i := 179) rfl rfl)) (am_fa1 (am_vf_p rfl (Nat.le_of_ble_eq_true rfl) (tb_i2 (i := 26) rfl rfl)) (am_fa1 (am_vf_p rfl (Nat.le_of_ble_eq_true rfl) (tb_i1 (i := 36) rfl rfl)) (am_fa1 (am_vf_p rfl (Nat.le_of_ble_eq_true rfl) (tb_i1 (i := 194) rfl rfl)) (am_fa1 (am_vf_p rfl (Nat.le_of_ble_eq_true rfl) (tb_i1 (i := 120) rfl rfl)) (am_fa1 (am_vf_p rfl (Nat.le_of_ble_eq_true rfl) (tb_i1 (i := 126) rfl rfl)) (am_fa1 (am_vf_p rfl (Nat.le_of_ble_eq_true rfl) (tb_i1 (i := 123) rfl rfl)) am_fa0))))))))))
set_option maxRecDepth 100000 in
theorem tb_v8_2 : ∀ r ∈ tb_k8.2.2.1, am_vg tb_tbl tb_cl "FlagMachine$Bits" r := (am_fa1 (am_vg_p rfl (Nat.le_of_ble_eq_true rfl) rfl rfl (tb_i2 (i := 24) rfl rfl)) (am_fa1 (am_vg_p rfl (Nat.le_of_ble_eq_true rfl) rfl rfl (tb_i2 (i := 25) rfl rfl)) (am_fa1 (am_vg_p rfl (Nat.le_of_ble_eq_true rfl) rfl rfl (tb_i2 (i := 26) rfl rfl)) am_fa0)))
set_option maxRecDepth 100000 in
theorem tb_v8_3 : ∀ r ∈ tb_k8.2.2.2.1, am_vn tb_tbl tb_cl "FlagMachine$Bits" r := am_fa0
set_option maxRecDepth 100000 in
theorem tb_v8_4 : ∀ r ∈ tb_k8.2.2.2.2.1, am_lnkM tb_tbl tb_nst "FlagMachine$Bits" r.1 (tb_mt r.2).1 := (am_fa1 (Or.inl (tb_i3 (i := 208) rfl rfl)) (am_fa1 (Or.inl (tb_i3 (i := 220) rfl rfl)) (am_fa1 (Or.inl (tb_i3 (i := 225) rfl rfl)) (am_fa1 (Or.inl (tb_i3 (i := 229) rfl rfl)) (am_fa1 (Or.inl (tb_i3 (i := 212) rfl rfl)) (am_fa1 (Or.inl (tb_i3 (i := 233) rfl rfl)) (am_fa1 (Or.inr ⟨_, (tb_n3 (i := 236) rfl rfl)⟩) (am_fa1 (Or.inl (tb_i3 (i := 219) rfl rfl)) (am_fa1 (Or.inl (tb_i3 (i := 238) rfl rfl)) (am_fa1 (Or.inl (tb_i4 (i := 2) rfl rfl)) (am_fa1 (Or.inr ⟨_, (tb_n3 (i := 237) rfl rfl)⟩) (am_fa1 (Or.inl (tb_i3 (i := 213) rfl rfl)) (am_fa1 (Or.inl (tb_i3 (i := 216) rfl rfl)) am_fa0)))))))))))))
set_option maxRecDepth 100000 in
theorem tb_v8_5 : ∀ r ∈ tb_k8.2.2.2.2.2.1, Cond.methodLink "FlagMachine$Bits" r objectInit ∈ tb_tbl := (am_fa1 (tb_i2 (i := 23) rfl rfl) am_fa0)
set_option maxRecDepth 100000 in
theorem tb_v8_6 : ∀ r ∈ tb_k8.2.2.2.2.2.2, am_vx tb_tbl tb_tl "FlagMachine$Bits" r := am_fa0
theorem tb_v8 : am_vK tb_tbl tb_nst tb_cl tb_tl tb_mt "FlagMachine$Bits" tb_k8 := ⟨tb_v8_0, tb_v8_1, tb_v8_2, tb_v8_3, tb_v8_4, tb_v8_5, tb_v8_6⟩
def tb_k9 : am_K := ([(104, (.long 8))], [(9, 9, 0), (15, 3, 3), (21, 9, 1), (45, 3, 1), (49, 1, 2), (82, 3, 7), (85, 1, 1), (88, 3, 6), (100, 3, 0), (119, 3, 5), (122, 1, 3), (129, 3, 4)], [(9, 9, 0), (21, 9, 1)], [], [(22, 76), (25, 83), (28, 82), (31, 84), (35, 77), (39, 74), (42, 75), (55, 46), (61, 42), (65, 85), (68, 79), (71, 78), (74, 80), (78, 86), (92, 32), (96, 17), (106, 39), (110, 33), (113, 55), (116, 34), (126, 35)], [3], [])
set_option maxRecDepth 100000 in
theorem tb_v9_0 : ∀ r ∈ tb_k9.1, am_vc tb_tbl "FlagMachine$Moves" r := (am_fa1 (tb_i4 (i := 67) rfl rfl) am_fa0)
set_option maxRecDepth 100000 in
theorem tb_v9_1 : ∀ r ∈ tb_k9.2.1, am_vf tb_tbl tb_nst tb_cl "FlagMachine$Moves" r := (am_fa1 (am_vf_p rfl (Nat.le_of_ble_eq_true rfl) (tb_i2 (i := 40) rfl rfl)) (am_fa1 (am_vf_p rfl (Nat.le_of_ble_eq_true rfl) (tb_i1 (i := 177) rfl rfl)) (am_fa1 (am_vf_p rfl (Nat.le_of_ble_eq_true rfl) (tb_i2 (i := 41) rfl rfl)) (am_fa1 (am_vf_p rfl (Nat.le_of_ble_eq_true rfl) (tb_i1 (i := 169) rfl rfl)) (am_fa1 (am_vf_p rfl (Nat.le_of_ble_eq_true rfl) (tb_i1 (i := 40) rfl rfl)) (am_fa1 (am_vf_p rfl (Nat.le_of_ble_eq_true rfl) (tb_i1 (i := 192) rfl rfl)) (am_fa1 (am_vf_p rfl (Nat.le_of_ble_eq_true rfl) (tb_i1 (i := 37) rfl rfl)) (am_fa1 (am_vf_p rfl (Nat.le_of_ble_eq_true rfl) (tb_i1 (i := 189) rfl rfl)) (am_fa1 (am_vf_p rfl (Nat.le_of_ble_eq_true rfl) (tb_i1 (i := 164) rfl rfl)) (am_fa1 (am_vf_p rfl (Nat.le_of_ble_eq_true rfl) (tb_i1 (i := 186) rfl rfl)) (am_fa1 (am_vf_p rfl (Nat.le_of_ble_eq_true rfl) (tb_i1 (i := 47) rfl rfl)) (am_fa1 (am_vf_p rfl (Nat.le_of_ble_eq_true rfl) (tb_i1 (i := 183) rfl rfl)) am_fa0))))))))))))
set_option maxRecDepth 100000 in
theorem tb_v9_2 : ∀ r ∈ tb_k9.2.2.1, am_vg tb_tbl tb_cl "FlagMachine$Moves" r := (am_fa1 (am_vg_p rfl (Nat.le_of_ble_eq_true rfl) rfl rfl (tb_i2 (i := 40) rfl rfl)) (am_fa1 (am_vg_p rfl (Nat.le_of_ble_eq_true rfl) rfl rfl (tb_i2 (i := 41) rfl rfl)) am_fa0))
set_option maxRecDepth 100000 in
theorem tb_v9_3 : ∀ r ∈ tb_k9.2.2.2.1, am_vn tb_tbl tb_cl "FlagMachine$Moves" r := am_fa0
set_option maxRecDepth 100000 in
theorem tb_v9_4 : ∀ r ∈ tb_k9.2.2.2.2.1, am_lnkM tb_tbl tb_nst "FlagMachine$Moves" r.1 (tb_mt r.2).1 := (am_fa1 (Or.inl (tb_i4 (i := 57) rfl rfl)) (am_fa1 (Or.inl (tb_i4 (i := 63) rfl rfl)) (am_fa1 (Or.inl (tb_i4 (i := 69) rfl rfl)) (am_fa1 (Or.inl (tb_i4 (i := 76) rfl rfl)) (am_fa1 (Or.inl (tb_i4 (i := 80) rfl rfl)) (am_fa1 (Or.inl (tb_i4 (i := 84) rfl rfl)) (am_fa1 (Or.inl (tb_i4 (i := 88) rfl rfl)) (am_fa1 (Or.inl (tb_i4 (i := 92) rfl rfl)) (am_fa1 (Or.inl (tb_i4 (i := 62) rfl rfl)) (am_fa1 (Or.inl (tb_i4 (i := 100) rfl rfl)) (am_fa1 (Or.inl (tb_i4 (i := 104) rfl rfl)) (am_fa1 (Or.inl (tb_i4 (i := 108) rfl rfl)) (am_fa1 (Or.inl (tb_i4 (i := 112) rfl rfl)) (am_fa1 (Or.inl (tb_i4 (i := 117) rfl rfl)) (am_fa1 (Or.inl (tb_i4 (i := 61) rfl rfl)) (am_fa1 (Or.inr ⟨_, (tb_n4 (i := 121) rfl rfl)⟩) (am_fa1 (Or.inl (tb_i4 (i := 68) rfl rfl)) (am_fa1 (Or.inl (tb_i4 (i := 73) rfl rfl)) (am_fa1 (Or.inl (tb_i4 (i := 74) rfl rfl)) (am_fa1 (Or.inl (tb_i4 (i := 75) rfl rfl)) (am_fa1 (Or.inl (tb_i4 (i := 116) rfl rfl)) am_fa0)))))))))))))))))))))
set_option maxRecDepth 100000 in
theorem tb_v9_5 : ∀ r ∈ tb_k9.2.2.2.2.2.1, Cond.methodLink "FlagMachine$Moves" r objectInit ∈ tb_tbl := (am_fa1 (tb_i2 (i := 39) rfl rfl) am_fa0)
set_option maxRecDepth 100000 in
theorem tb_v9_6 : ∀ r ∈ tb_k9.2.2.2.2.2.2, am_vx tb_tbl tb_tl "FlagMachine$Moves" r := am_fa0
theorem tb_v9 : am_vK tb_tbl tb_nst tb_cl tb_tl tb_mt "FlagMachine$Moves" tb_k9 := ⟨tb_v9_0, tb_v9_1, tb_v9_2, tb_v9_3, tb_v9_4, tb_v9_5, tb_v9_6⟩
def tb_k10 : am_K := ([(11, (.int 65536)), (73, (.long 12)), (88, (.long 60)), (94, (.long (-38))), (104, (.long (-14))), (109, (.long (-28)))], [(15, 10, 1), (21, 10, 2), (24, 10, 0), (28, 10, 3), (32, 10, 4), (35, 10, 5), (46, 3, 0), (52, 3, 5), (56, 3, 1), (75, 3, 2), (106, 5, 0)], [(15, 10, 1), (21, 10, 2), (24, 10, 0)], [(9, 2)], [(12, 106), (38, 116), (42, 108), (60, 44), (66, 105), (70, 101), (79, 70), (85, 66), (90, 41), (96, 3), (100, 71), (111, 112)], [3], [])
set_option maxRecDepth 100000 in
theorem tb_v10_0 : ∀ r ∈ tb_k10.1, am_vc tb_tbl "FlagMachine$Services" r := (am_fa1 (tb_i2 (i := 54) rfl rfl) (am_fa1 (tb_i4 (i := 36) rfl rfl) (am_fa1 (tb_i4 (i := 50) rfl rfl) (am_fa1 (tb_i4 (i := 52) rfl rfl) (am_fa1 (tb_i4 (i := 18) rfl rfl) (am_fa1 (tb_i4 (i := 28) rfl rfl) am_fa0))))))
set_option maxRecDepth 100000 in
theorem tb_v10_1 : ∀ r ∈ tb_k10.2.1, am_vf tb_tbl tb_nst tb_cl "FlagMachine$Services" r := (am_fa1 (am_vf_p rfl (Nat.le_of_ble_eq_true rfl) (tb_i2 (i := 57) rfl rfl)) (am_fa1 (am_vf_p rfl (Nat.le_of_ble_eq_true rfl) (tb_i2 (i := 58) rfl rfl)) (am_fa1 (am_vf_p rfl (Nat.le_of_ble_eq_true rfl) (tb_i2 (i := 56) rfl rfl)) (am_fa1 (am_vf_p rfl (Nat.le_of_ble_eq_true rfl) (tb_i2 (i := 59) rfl rfl)) (am_fa1 (am_vf_p rfl (Nat.le_of_ble_eq_true rfl) (tb_i2 (i := 60) rfl rfl)) (am_fa1 (am_vf_p rfl (Nat.le_of_ble_eq_true rfl) (tb_i2 (i := 61) rfl rfl)) (am_fa1 (am_vf_p rfl (Nat.le_of_ble_eq_true rfl) (tb_i1 (i := 163) rfl rfl)) (am_fa1 (am_vf_p rfl (Nat.le_of_ble_eq_true rfl) (tb_i1 (i := 185) rfl rfl)) (am_fa1 (am_vf_p rfl (Nat.le_of_ble_eq_true rfl) (tb_i1 (i := 171) rfl rfl)) (am_fa1 (am_vf_p rfl (Nat.le_of_ble_eq_true rfl) (tb_i1 (i := 175) rfl rfl)) (am_fa1 (am_vf_p rfl (Nat.le_of_ble_eq_true rfl) (tb_i1 (i := 149) rfl rfl)) am_fa0)))))))))))
set_option maxRecDepth 100000 in
theorem tb_v10_2 : ∀ r ∈ tb_k10.2.2.1, am_vg tb_tbl tb_cl "FlagMachine$Services" r := (am_fa1 (am_vg_p rfl (Nat.le_of_ble_eq_true rfl) rfl rfl (tb_i2 (i := 57) rfl rfl)) (am_fa1 (am_vg_p rfl (Nat.le_of_ble_eq_true rfl) rfl rfl (tb_i2 (i := 58) rfl rfl)) (am_fa1 (am_vg_p rfl (Nat.le_of_ble_eq_true rfl) rfl rfl (tb_i2 (i := 56) rfl rfl)) am_fa0)))
set_option maxRecDepth 100000 in
theorem tb_v10_3 : ∀ r ∈ tb_k10.2.2.2.1, am_vn tb_tbl tb_cl "FlagMachine$Services" r := (am_fa1 (am_vn_p rfl (tb_i2 (i := 53) rfl rfl)) am_fa0)
set_option maxRecDepth 100000 in
theorem tb_v10_4 : ∀ r ∈ tb_k10.2.2.2.2.1, am_lnkM tb_tbl tb_nst "FlagMachine$Services" r.1 (tb_mt r.2).1 := (am_fa1 (Or.inl (tb_i2 (i := 55) rfl rfl)) (am_fa1 (Or.inl (tb_i4 (i := 23) rfl rfl)) (am_fa1 (Or.inl (tb_i4 (i := 19) rfl rfl)) (am_fa1 (Or.inl (tb_i4 (i := 8) rfl rfl)) (am_fa1 (Or.inl (tb_i4 (i := 12) rfl rfl)) (am_fa1 (Or.inl (tb_i4 (i := 24) rfl rfl)) (am_fa1 (Or.inl (tb_i4 (i := 37) rfl rfl)) (am_fa1 (Or.inl (tb_i4 (i := 46) rfl rfl)) (am_fa1 (Or.inl (tb_i4 (i := 51) rfl rfl)) (am_fa1 (Or.inr ⟨_, (tb_n4 (i := 16) rfl rfl)⟩) (am_fa1 (Or.inl (tb_i4 (i := 17) rfl rfl)) (am_fa1 (Or.inl (tb_i4 (i := 29) rfl rfl)) am_fa0))))))))))))
set_option maxRecDepth 100000 in
theorem tb_v10_5 : ∀ r ∈ tb_k10.2.2.2.2.2.1, Cond.methodLink "FlagMachine$Services" r objectInit ∈ tb_tbl := (am_fa1 (tb_i2 (i := 52) rfl rfl) am_fa0)
set_option maxRecDepth 100000 in
theorem tb_v10_6 : ∀ r ∈ tb_k10.2.2.2.2.2.2, am_vx tb_tbl tb_tl "FlagMachine$Services" r := am_fa0
theorem tb_v10 : am_vK tb_tbl tb_nst tb_cl tb_tl tb_mt "FlagMachine$Services" tb_k10 := ⟨tb_v10_0, tb_v10_1, tb_v10_2, tb_v10_3, tb_v10_4, tb_v10_5, tb_v10_6⟩
def tb_k11 : am_K := ([], [], [(9, 11, 2), (15, 11, 0), (19, 11, 1)], [], [], [3], [])
set_option maxRecDepth 100000 in
theorem tb_v11_0 : ∀ r ∈ tb_k11.1, am_vc tb_tbl "FlagMachine$Page" r := am_fa0
set_option maxRecDepth 100000 in
theorem tb_v11_1 : ∀ r ∈ tb_k11.2.1, am_vf tb_tbl tb_nst tb_cl "FlagMachine$Page" r := am_fa0
set_option maxRecDepth 100000 in
theorem tb_v11_2 : ∀ r ∈ tb_k11.2.2.1, am_vg tb_tbl tb_cl "FlagMachine$Page" r := (am_fa1 (am_vg_p rfl (Nat.le_of_ble_eq_true rfl) rfl rfl (tb_i2 (i := 127) rfl rfl)) (am_fa1 (am_vg_p rfl (Nat.le_of_ble_eq_true rfl) rfl rfl (tb_i2 (i := 123) rfl rfl)) (am_fa1 (am_vg_p rfl (Nat.le_of_ble_eq_true rfl) rfl rfl (tb_i2 (i := 125) rfl rfl)) am_fa0)))
set_option maxRecDepth 100000 in
theorem tb_v11_3 : ∀ r ∈ tb_k11.2.2.2.1, am_vn tb_tbl tb_cl "FlagMachine$Page" r := am_fa0
set_option maxRecDepth 100000 in
theorem tb_v11_4 : ∀ r ∈ tb_k11.2.2.2.2.1, am_lnkM tb_tbl tb_nst "FlagMachine$Page" r.1 (tb_mt r.2).1 := am_fa0
set_option maxRecDepth 100000 in
theorem tb_v11_5 : ∀ r ∈ tb_k11.2.2.2.2.2.1, Cond.methodLink "FlagMachine$Page" r objectInit ∈ tb_tbl := (am_fa1 (tb_i2 (i := 122) rfl rfl) am_fa0)
set_option maxRecDepth 100000 in
theorem tb_v11_6 : ∀ r ∈ tb_k11.2.2.2.2.2.2, am_vx tb_tbl tb_tl "FlagMachine$Page" r := am_fa0
theorem tb_v11 : am_vK tb_tbl tb_nst tb_cl tb_tl tb_mt "FlagMachine$Page" tb_k11 := ⟨tb_v11_0, tb_v11_1, tb_v11_2, tb_v11_3, tb_v11_4, tb_v11_5, tb_v11_6⟩
def tb_k12 : am_K := ([(9, (.int 262144)), (17, (.int 65536)), (82, (.long 2147479552)), (88, (.long 4194304)), (112, (.long 262144)), (126, (.long (-128))), (128, (.long 127)), (134, (.long (-2147483648))), (136, (.long 2147483647)), (145, (.long 255)), (147, (.long 65535)), (163, (.int 1048576)), (164, (.long 2147414016)), (166, (.long 65536)), (168, (.int 2097152)), (169, (.int 65535)), (192, (.long 4294967295)), (210, (.long (-256))), (247, (.long 2)), (249, (.long 4)), (251, (.long 64)), (253, (.long 128)), (255, (.long 2048)), (277, (.long (-1))), (279, (.long (-9223372036854775808))), (285, (.long (-65536))), (294, (.long 8)), (308, (.long 1048576)), (317, (.long (-14))), (319, (.long (-28))), (321, (.long 12)), (323, (.long 60)), (325, (.long (-38)))], [(10, 12, 1), (14, 12, 2), (18, 12, 3), (21, 12, 4), (24, 12, 5), (27, 12, 6), (30, 12, 16), (34, 12, 17), (37, 12, 30), (41, 12, 33), (44, 12, 34), (47, 12, 35), (50, 12, 39), (54, 12, 40), (61, 12, 0), (64, 12, 7), (67, 12, 8), (70, 12, 9), (73, 12, 10), (76, 12, 11), (79, 12, 12), (90, 12, 18), (94, 12, 13), (97, 12, 14), (100, 12, 15), (103, 12, 26), (106, 12, 19), (109, 12, 20), (114, 12, 31), (117, 12, 32), (120, 12, 36), (123, 12, 38), (170, 12, 27), (173, 12, 28), (204, 12, 29), (220, 12, 23), (227, 12, 24), (230, 12, 22), (237, 12, 21), (240, 12, 25), (305, 12, 37)], [(10, 12, 1), (14, 12, 2), (18, 12, 3), (21, 12, 4), (24, 12, 5), (27, 12, 6), (30, 12, 16), (34, 12, 17), (50, 12, 39), (54, 12, 40)], [], [(57, 128), (84, 174), (130, 148), (138, 146), (142, 149), (149, 180), (153, 161), (156, 155), (159, 142), (176, 139), (180, 183), (184, 133), (188, 175), (194, 151), (197, 171), (200, 135), (207, 152), (212, 176), (216, 184), (224, 189), (233, 131), (243, 191), (257, 187), (261, 126), (265, 186), (268, 169), (271, 127), (274, 178), (281, 144), (287, 143), (290, 137), (296, 168), (299, 166), (302, 147), (310, 140), (313, 153), (327, 129), (330, 156), (333, 179), (336, 157), (340, 136), (343, 167), (347, 177), (350, 141), (353, 134), (356, 181), (359, 172), (362, 132), (365, 188), (368, 185), (371, 150), (374, 164)], [1], [])
set_option maxRecDepth 100000 in
theorem tb_v12_0 : ∀ r ∈ tb_k12.1, am_vc tb_tbl "FlagMachineModel" r := (am_fa1 (tb_i4 (i := 172) rfl rfl) (am_fa1 (tb_i4 (i := 173) rfl rfl) (am_fa1 (tb_i4 (i := 178) rfl rfl) (am_fa1 (tb_i4 (i := 187) rfl rfl) (am_fa1 (tb_i5 (i := 80) rfl rfl) (am_fa1 (tb_i5 (i := 121) rfl rfl) (am_fa1 (tb_i5 (i := 122) rfl rfl) (am_fa1 (tb_i5 (i := 127) rfl rfl) (am_fa1 (tb_i5 (i := 128) rfl rfl) (am_fa1 (tb_i5 (i := 129) rfl rfl) (am_fa1 (tb_i5 (i := 130) rfl rfl) (am_fa1 (tb_i5 (i := 180) rfl rfl) (am_fa1 (tb_i5 (i := 181) rfl rfl) (am_fa1 (tb_i5 (i := 182) rfl rfl) (am_fa1 (tb_i5 (i := 183) rfl rfl) (am_fa1 (tb_i5 (i := 192) rfl rfl) (am_fa1 (tb_i5 (i := 167) rfl rfl) (am_fa1 (tb_i5 (i := 220) rfl rfl) (am_fa1 (tb_i5 (i := 139) rfl rfl) (am_fa1 (tb_i4 (i := 183) rfl rfl) (am_fa1 (tb_i4 (i := 184) rfl rfl) (am_fa1 (tb_i4 (i := 185) rfl rfl) (am_fa1 (tb_i4 (i := 186) rfl rfl) (am_fa1 (tb_i6 (i := 0) rfl rfl) (am_fa1 (tb_i5 (i := 200) rfl rfl) (am_fa1 (tb_i6 (i := 5) rfl rfl) (am_fa1 (tb_i6 (i := 36) rfl rfl) (am_fa1 (tb_i6 (i := 61) rfl rfl) (am_fa1 (tb_i6 (i := 62) rfl rfl) (am_fa1 (tb_i6 (i := 63) rfl rfl) (am_fa1 (tb_i6 (i := 64) rfl rfl) (am_fa1 (tb_i6 (i := 65) rfl rfl) (am_fa1 (tb_i6 (i := 66) rfl rfl) am_fa0)))))))))))))))))))))))))))))))))
set_option maxRecDepth 100000 in
theorem tb_v12_1 : ∀ r ∈ tb_k12.2.1, am_vf tb_tbl tb_nst tb_cl "FlagMachineModel" r := (am_fa1 (am_vf_p rfl (Nat.le_of_ble_eq_true rfl) (tb_i4 (i := 189) rfl rfl)) (am_fa1 (am_vf_p rfl (Nat.le_of_ble_eq_true rfl) (tb_i4 (i := 190) rfl rfl)) (am_fa1 (am_vf_p rfl (Nat.le_of_ble_eq_true rfl) (tb_i4 (i := 191) rfl rfl)) (am_fa1 (am_vf_p rfl (Nat.le_of_ble_eq_true rfl) (tb_i4 (i := 192) rfl rfl)) (am_fa1 (am_vf_p rfl (Nat.le_of_ble_eq_true rfl) (tb_i4 (i := 193) rfl rfl)) (am_fa1 (am_vf_p rfl (Nat.le_of_ble_eq_true rfl) (tb_i4 (i := 194) rfl rfl)) (am_fa1 (am_vf_p rfl (Nat.le_of_ble_eq_true rfl) (tb_i4 (i := 204) rfl rfl)) (am_fa1 (am_vf_p rfl (Nat.le_of_ble_eq_true rfl) (tb_i4 (i := 205) rfl rfl)) (am_fa1 (am_vf_p rfl (Nat.le_of_ble_eq_true rfl) (tb_i4 (i := 218) rfl rfl)) (am_fa1 (am_vf_p rfl (Nat.le_of_ble_eq_true rfl) (tb_i4 (i := 221) rfl rfl)) (am_fa1 (am_vf_p rfl (Nat.le_of_ble_eq_true rfl) (tb_i4 (i := 222) rfl rfl)) (am_fa1 (am_vf_p rfl (Nat.le_of_ble_eq_true rfl) (tb_i4 (i := 223) rfl rfl)) (am_fa1 (am_vf_p rfl (Nat.le_of_ble_eq_true rfl) (tb_i4 (i := 227) rfl rfl)) (am_fa1 (am_vf_p rfl (Nat.le_of_ble_eq_true rfl) (tb_i4 (i := 228) rfl rfl)) (am_fa1 (am_vf_p rfl (Nat.le_of_ble_eq_true rfl) (tb_i4 (i := 188) rfl rfl)) (am_fa1 (am_vf_p rfl (Nat.le_of_ble_eq_true rfl) (tb_i4 (i := 195) rfl rfl)) (am_fa1 (am_vf_p rfl (Nat.le_of_ble_eq_true rfl) (tb_i4 (i := 196) rfl rfl)) (am_fa1 (am_vf_p rfl (Nat.le_of_ble_eq_true rfl) (tb_i4 (i := 197) rfl rfl)) (am_fa1 (am_vf_p rfl (Nat.le_of_ble_eq_true rfl) (tb_i4 (i := 198) rfl rfl)) (am_fa1 (am_vf_p rfl (Nat.le_of_ble_eq_true rfl) (tb_i4 (i := 199) rfl rfl)) (am_fa1 (am_vf_p rfl (Nat.le_of_ble_eq_true rfl) (tb_i4 (i := 200) rfl rfl)) (am_fa1 (am_vf_p rfl (Nat.le_of_ble_eq_true rfl) (tb_i4 (i := 206) rfl rfl)) (am_fa1 (am_vf_p rfl (Nat.le_of_ble_eq_true rfl) (tb_i4 (i := 201) rfl rfl)) (am_fa1 (am_vf_p rfl (Nat.le_of_ble_eq_true rfl) (tb_i4 (i := 202) rfl rfl)) (am_fa1 (am_vf_p rfl (Nat.le_of_ble_eq_true rfl) (tb_i4 (i := 203) rfl rfl)) (am_fa1 (am_vf_p rfl (Nat.le_of_ble_eq_true rfl) (tb_i4 (i := 214) rfl rfl)) (am_fa1 (am_vf_p rfl (Nat.le_of_ble_eq_true rfl) (tb_i4 (i := 207) rfl rfl)) (am_fa1 (am_vf_p rfl (Nat.le_of_ble_eq_true rfl) (tb_i4 (i := 208) rfl rfl)) (am_fa1 (am_vf_p rfl (Nat.le_of_ble_eq_true rfl) (tb_i4 (i := 219) rfl rfl)) (am_fa1 (am_vf_p rfl (Nat.le_of_ble_eq_true rfl) (tb_i4 (i := 220) rfl rfl)) (am_fa1 (am_vf_p rfl (Nat.le_of_ble_eq_true rfl) (tb_i4 (i := 224) rfl rfl)) (am_fa1 (am_vf_p rfl (Nat.le_of_ble_eq_true rfl) (tb_i4 (i := 226) rfl rfl)) (am_fa1 (am_vf_p rfl (Nat.le_of_ble_eq_true rfl) (tb_i4 (i := 215) rfl rfl)) (am_fa1 (am_vf_p rfl (Nat.le_of_ble_eq_true rfl) (tb_i4 (i := 216) rfl rfl)) (am_fa1 (am_vf_p rfl (Nat.le_of_ble_eq_true rfl) (tb_i4 (i := 217) rfl rfl)) (am_fa1 (am_vf_p rfl (Nat.le_of_ble_eq_true rfl) (tb_i4 (i := 211) rfl rfl)) (am_fa1 (am_vf_p rfl (Nat.le_of_ble_eq_true rfl) (tb_i4 (i := 212) rfl rfl)) (am_fa1 (am_vf_p rfl (Nat.le_of_ble_eq_true rfl) (tb_i4 (i := 210) rfl rfl)) (am_fa1 (am_vf_p rfl (Nat.le_of_ble_eq_true rfl) (tb_i4 (i := 209) rfl rfl)) (am_fa1 (am_vf_p rfl (Nat.le_of_ble_eq_true rfl) (tb_i4 (i := 213) rfl rfl)) (am_fa1 (am_vf_p rfl (Nat.le_of_ble_eq_true rfl) (tb_i4 (i := 225) rfl rfl)) am_fa0)))))))))))))))))))))))))))))))))))))))))
set_option maxRecDepth 100000 in
theorem tb_v12_2 : ∀ r ∈ tb_k12.2.2.1, am_vg tb_tbl tb_cl "FlagMachineModel" r := (am_fa1 (am_vg_p rfl (Nat.le_of_ble_eq_true rfl) rfl rfl (tb_i4 (i := 189) rfl rfl)) (am_fa1 (am_vg_p rfl (Nat.le_of_ble_eq_true rfl) rfl rfl (tb_i4 (i := 190) rfl rfl)) (am_fa1 (am_vg_p rfl (Nat.le_of_ble_eq_true rfl) rfl rfl (tb_i4 (i := 191) rfl rfl)) (am_fa1 (am_vg_p rfl (Nat.le_of_ble_eq_true rfl) rfl rfl (tb_i4 (i := 192) rfl rfl)) (am_fa1 (am_vg_p rfl (Nat.le_of_ble_eq_true rfl) rfl rfl (tb_i4 (i := 193) rfl rfl)) (am_fa1 (am_vg_p rfl (Nat.le_of_ble_eq_true rfl) rfl rfl (tb_i4 (i := 194) rfl rfl)) (am_fa1 (am_vg_p rfl (Nat.le_of_ble_eq_true rfl) rfl rfl (tb_i4 (i := 204) rfl rfl)) (am_fa1 (am_vg_p rfl (Nat.le_of_ble_eq_true rfl) rfl rfl (tb_i4 (i := 205) rfl rfl)) (am_fa1 (am_vg_p rfl (Nat.le_of_ble_eq_true rfl) rfl rfl (tb_i4 (i := 227) rfl rfl)) (am_fa1 (am_vg_p rfl (Nat.le_of_ble_eq_true rfl) rfl rfl (tb_i4 (i := 228) rfl rfl)) am_fa0))))))))))
set_option maxRecDepth 100000 in
theorem tb_v12_3 : ∀ r ∈ tb_k12.2.2.2.1, am_vn tb_tbl tb_cl "FlagMachineModel" r := am_fa0
set_option maxRecDepth 100000 in
theorem tb_v12_4 : ∀ r ∈ tb_k12.2.2.2.2.1, am_lnkM tb_tbl tb_nst "FlagMachineModel" r.1 (tb_mt r.2).1 := (am_fa1 (Or.inl (tb_i4 (i := 174) rfl rfl)) (am_fa1 (Or.inl (tb_i4 (i := 179) rfl rfl)) (am_fa1 (Or.inl (tb_i5 (i := 123) rfl rfl)) (am_fa1 (Or.inl (tb_i5 (i := 113) rfl rfl)) (am_fa1 (Or.inl (tb_i5 (i := 117) rfl rfl)) (am_fa1 (Or.inl (tb_i5 (i := 105) rfl rfl)) (am_fa1 (Or.inl (tb_i5 (i := 109) rfl rfl)) (am_fa1 (Or.inl (tb_i5 (i := 131) rfl rfl)) (am_fa1 (Or.inl (tb_i5 (i := 176) rfl rfl)) (am_fa1 (Or.inl (tb_i5 (i := 172) rfl rfl)) (am_fa1 (Or.inl (tb_i5 (i := 184) rfl rfl)) (am_fa1 (Or.inl (tb_i5 (i := 188) rfl rfl)) (am_fa1 (Or.inl (tb_i5 (i := 225) rfl rfl)) (am_fa1 (Or.inl (tb_i5 (i := 156) rfl rfl)) (am_fa1 (Or.inl (tb_i5 (i := 160) rfl rfl)) (am_fa1 (Or.inl (tb_i5 (i := 164) rfl rfl)) (am_fa1 (Or.inl (tb_i5 (i := 168) rfl rfl)) (am_fa1 (Or.inl (tb_i5 (i := 216) rfl rfl)) (am_fa1 (Or.inl (tb_i5 (i := 221) rfl rfl)) (am_fa1 (Or.inl (tb_i5 (i := 201) rfl rfl)) (am_fa1 (Or.inl (tb_i5 (i := 197) rfl rfl)) (am_fa1 (Or.inl (tb_i5 (i := 204) rfl rfl)) (am_fa1 (Or.inl (tb_i5 (i := 152) rfl rfl)) (am_fa1 (Or.inl (tb_i5 (i := 193) rfl rfl)) (am_fa1 (Or.inl (tb_i5 (i := 208) rfl rfl)) (am_fa1 (Or.inl (tb_i5 (i := 212) rfl rfl)) (am_fa1 (Or.inl (tb_i5 (i := 140) rfl rfl)) (am_fa1 (Or.inl (tb_i5 (i := 233) rfl rfl)) (am_fa1 (Or.inl (tb_i6 (i := 9) rfl rfl)) (am_fa1 (Or.inl (tb_i6 (i := 6) rfl rfl)) (am_fa1 (Or.inl (tb_i6 (i := 16) rfl rfl)) (am_fa1 (Or.inl (tb_i6 (i := 32) rfl rfl)) (am_fa1 (Or.inl (tb_i6 (i := 37) rfl rfl)) (am_fa1 (Or.inl (tb_i6 (i := 41) rfl rfl)) (am_fa1 (Or.inl (tb_i5 (i := 135) rfl rfl)) (am_fa1 (Or.inl (tb_i6 (i := 57) rfl rfl)) (am_fa1 (Or.inl (tb_i5 (i := 148) rfl rfl)) (am_fa1 (Or.inl (tb_i5 (i := 229) rfl rfl)) (am_fa1 (Or.inl (tb_i5 (i := 236) rfl rfl)) (am_fa1 (Or.inl (tb_i6 (i := 1) rfl rfl)) (am_fa1 (Or.inl (tb_i6 (i := 12) rfl rfl)) (am_fa1 (Or.inl (tb_i6 (i := 20) rfl rfl)) (am_fa1 (Or.inl (tb_i6 (i := 24) rfl rfl)) (am_fa1 (Or.inl (tb_i6 (i := 28) rfl rfl)) (am_fa1 (Or.inl (tb_i6 (i := 45) rfl rfl)) (am_fa1 (Or.inl (tb_i6 (i := 49) rfl rfl)) (am_fa1 (Or.inl (tb_i6 (i := 53) rfl rfl)) (am_fa1 (Or.inl (tb_i6 (i := 67) rfl rfl)) (am_fa1 (Or.inl (tb_i6 (i := 71) rfl rfl)) (am_fa1 (Or.inl (tb_i6 (i := 75) rfl rfl)) (am_fa1 (Or.inl (tb_i5 (i := 101) rfl rfl)) (am_fa1 (Or.inl (tb_i5 (i := 144) rfl rfl)) am_fa0))))))))))))))))))))))))))))))))))))))))))))))))))))
set_option maxRecDepth 100000 in
theorem tb_v12_5 : ∀ r ∈ tb_k12.2.2.2.2.2.1, Cond.methodLink "FlagMachineModel" r objectInit ∈ tb_tbl := (am_fa1 (tb_i4 (i := 171) rfl rfl) am_fa0)
set_option maxRecDepth 100000 in
theorem tb_v12_6 : ∀ r ∈ tb_k12.2.2.2.2.2.2, am_vx tb_tbl tb_tl "FlagMachineModel" r := am_fa0
theorem tb_v12 : am_vK tb_tbl tb_nst tb_cl tb_tl tb_mt "FlagMachineModel" tb_k12 := ⟨tb_v12_0, tb_v12_1, tb_v12_2, tb_v12_3, tb_v12_4, tb_v12_5, tb_v12_6⟩
def tb_k13 : am_K := ([(18, (.long 4294967295))], [], [], [(7, 0), (10, 12)], [(9, 1), (12, 125), (13, 2), (17, 130), (20, 4), (24, 138), (25, 10), (29, 159), (30, 11), (34, 160), (35, 8), (39, 154), (40, 9), (44, 158), (45, 18), (49, 182), (50, 20), (54, 190), (55, 15), (59, 170), (60, 16), (64, 173), (65, 6), (69, 145), (70, 12), (73, 162), (74, 13), (78, 163), (79, 14), (82, 165)], [], [])
set_option maxRecDepth 100000 in
theorem tb_v13_0 : ∀ r ∈ tb_k13.1, am_vc tb_tbl "FlagMachineLaw" r := (am_fa1 (tb_i6 (i := 107) rfl rfl) am_fa0)
set_option maxRecDepth 100000 in
theorem tb_v13_1 : ∀ r ∈ tb_k13.2.1, am_vf tb_tbl tb_nst tb_cl "FlagMachineLaw" r := am_fa0
set_option maxRecDepth 100000 in
theorem tb_v13_2 : ∀ r ∈ tb_k13.2.2.1, am_vg tb_tbl tb_cl "FlagMachineLaw" r := am_fa0
set_option maxRecDepth 100000 in
theorem tb_v13_3 : ∀ r ∈ tb_k13.2.2.2.1, am_vn tb_tbl tb_cl "FlagMachineLaw" r := (am_fa1 (am_vn_p rfl (tb_i1 (i := 18) rfl rfl)) (am_fa1 (am_vn_p rfl (tb_i4 (i := 166) rfl rfl)) am_fa0))
set_option maxRecDepth 100000 in
theorem tb_v13_4 : ∀ r ∈ tb_k13.2.2.2.2.1, am_lnkM tb_tbl tb_nst "FlagMachineLaw" r.1 (tb_mt r.2).1 := (am_fa1 (Or.inl (tb_i1 (i := 20) rfl rfl)) (am_fa1 (Or.inl (tb_i4 (i := 168) rfl rfl)) (am_fa1 (Or.inl (tb_i2 (i := 198) rfl rfl)) (am_fa1 (Or.inl (tb_i5 (i := 72) rfl rfl)) (am_fa1 (Or.inl (tb_i2 (i := 199) rfl rfl)) (am_fa1 (Or.inl (tb_i5 (i := 76) rfl rfl)) (am_fa1 (Or.inl (tb_i2 (i := 208) rfl rfl)) (am_fa1 (Or.inl (tb_i5 (i := 81) rfl rfl)) (am_fa1 (Or.inl (tb_i2 (i := 212) rfl rfl)) (am_fa1 (Or.inl (tb_i5 (i := 85) rfl rfl)) (am_fa1 (Or.inl (tb_i2 (i := 216) rfl rfl)) (am_fa1 (Or.inl (tb_i5 (i := 89) rfl rfl)) (am_fa1 (Or.inl (tb_i2 (i := 220) rfl rfl)) (am_fa1 (Or.inl (tb_i5 (i := 93) rfl rfl)) (am_fa1 (Or.inl (tb_i2 (i := 224) rfl rfl)) (am_fa1 (Or.inl (tb_i5 (i := 97) rfl rfl)) (am_fa1 (Or.inl (tb_i4 (i := 126) rfl rfl)) (am_fa1 (Or.inl (tb_i6 (i := 79) rfl rfl)) (am_fa1 (Or.inl (tb_i4 (i := 130) rfl rfl)) (am_fa1 (Or.inl (tb_i6 (i := 83) rfl rfl)) (am_fa1 (Or.inl (tb_i4 (i := 136) rfl rfl)) (am_fa1 (Or.inl (tb_i6 (i := 87) rfl rfl)) (am_fa1 (Or.inl (tb_i4 (i := 140) rfl rfl)) (am_fa1 (Or.inl (tb_i6 (i := 91) rfl rfl)) (am_fa1 (Or.inl (tb_i4 (i := 148) rfl rfl)) (am_fa1 (Or.inl (tb_i6 (i := 95) rfl rfl)) (am_fa1 (Or.inl (tb_i4 (i := 156) rfl rfl)) (am_fa1 (Or.inl (tb_i6 (i := 99) rfl rfl)) (am_fa1 (Or.inl (tb_i4 (i := 162) rfl rfl)) (am_fa1 (Or.inl (tb_i6 (i := 103) rfl rfl)) am_fa0))))))))))))))))))))))))))))))
set_option maxRecDepth 100000 in
theorem tb_v13_5 : ∀ r ∈ tb_k13.2.2.2.2.2.1, Cond.methodLink "FlagMachineLaw" r objectInit ∈ tb_tbl := am_fa0
set_option maxRecDepth 100000 in
theorem tb_v13_6 : ∀ r ∈ tb_k13.2.2.2.2.2.2, am_vx tb_tbl tb_tl "FlagMachineLaw" r := am_fa0
theorem tb_v13 : am_vK tb_tbl tb_nst tb_cl tb_tl tb_mt "FlagMachineLaw" tb_k13 := ⟨tb_v13_0, tb_v13_1, tb_v13_2, tb_v13_3, tb_v13_4, tb_v13_5, tb_v13_6⟩
def tb_k14 : am_K := ([(314, (.long 6148914691236517205)), (316, (.long 3689348814741910323)), (318, (.long 1085102592571150095))], [], [], [], [], [], [])
set_option maxRecDepth 100000 in
theorem tb_v14_0 : ∀ r ∈ tb_k14.1, am_vc tb_tbl "java/lang/Long" r := (am_fa1 (tb_i3 (i := 131) rfl rfl) (am_fa1 (tb_i3 (i := 132) rfl rfl) (am_fa1 (tb_i3 (i := 133) rfl rfl) am_fa0)))
set_option maxRecDepth 100000 in
theorem tb_v14_1 : ∀ r ∈ tb_k14.2.1, am_vf tb_tbl tb_nst tb_cl "java/lang/Long" r := am_fa0
set_option maxRecDepth 100000 in
theorem tb_v14_2 : ∀ r ∈ tb_k14.2.2.1, am_vg tb_tbl tb_cl "java/lang/Long" r := am_fa0
set_option maxRecDepth 100000 in
theorem tb_v14_3 : ∀ r ∈ tb_k14.2.2.2.1, am_vn tb_tbl tb_cl "java/lang/Long" r := am_fa0
set_option maxRecDepth 100000 in
theorem tb_v14_4 : ∀ r ∈ tb_k14.2.2.2.2.1, am_lnkM tb_tbl tb_nst "java/lang/Long" r.1 (tb_mt r.2).1 := am_fa0
set_option maxRecDepth 100000 in
theorem tb_v14_5 : ∀ r ∈ tb_k14.2.2.2.2.2.1, Cond.methodLink "java/lang/Long" r objectInit ∈ tb_tbl := am_fa0
set_option maxRecDepth 100000 in
theorem tb_v14_6 : ∀ r ∈ tb_k14.2.2.2.2.2.2, am_vx tb_tbl tb_tl "java/lang/Long" r := am_fa0
theorem tb_v14 : am_vK tb_tbl tb_nst tb_cl tb_tl tb_mt "java/lang/Long" tb_k14 := ⟨tb_v14_0, tb_v14_1, tb_v14_2, tb_v14_3, tb_v14_4, tb_v14_5, tb_v14_6⟩
def tb_k15 : am_K := ([], [], [], [], [(13, 196)], [], [])
set_option maxRecDepth 100000 in
theorem tb_v15_0 : ∀ r ∈ tb_k15.1, am_vc tb_tbl "java/util/Arrays" r := am_fa0
set_option maxRecDepth 100000 in
theorem tb_v15_1 : ∀ r ∈ tb_k15.2.1, am_vf tb_tbl tb_nst tb_cl "java/util/Arrays" r := am_fa0
set_option maxRecDepth 100000 in
theorem tb_v15_2 : ∀ r ∈ tb_k15.2.2.1, am_vg tb_tbl tb_cl "java/util/Arrays" r := am_fa0
set_option maxRecDepth 100000 in
theorem tb_v15_3 : ∀ r ∈ tb_k15.2.2.2.1, am_vn tb_tbl tb_cl "java/util/Arrays" r := am_fa0
set_option maxRecDepth 100000 in
theorem tb_v15_4 : ∀ r ∈ tb_k15.2.2.2.2.1, am_lnkM tb_tbl tb_nst "java/util/Arrays" r.1 (tb_mt r.2).1 := (am_fa1 (Or.inl (tb_i2 (i := 144) rfl rfl)) am_fa0)
set_option maxRecDepth 100000 in
theorem tb_v15_5 : ∀ r ∈ tb_k15.2.2.2.2.2.1, Cond.methodLink "java/util/Arrays" r objectInit ∈ tb_tbl := am_fa0
set_option maxRecDepth 100000 in
theorem tb_v15_6 : ∀ r ∈ tb_k15.2.2.2.2.2.2, am_vx tb_tbl tb_tl "java/util/Arrays" r := am_fa0
theorem tb_v15 : am_vK tb_tbl tb_nst tb_cl tb_tl tb_mt "java/util/Arrays" tb_k15 := ⟨tb_v15_0, tb_v15_1, tb_v15_2, tb_v15_3, tb_v15_4, tb_v15_5, tb_v15_6⟩
set_option maxRecDepth 100000 in
theorem tb_u0 : ∀ w ∈ u_ws "FlagMachine" tb_F0 10, w ∈ tb_tbl := (am_fa1 (tb_i2 (i := 177) rfl rfl) (am_fa1 (tb_i2 (i := 179) rfl rfl) (am_fa1 (tb_i2 (i := 181) rfl rfl) (am_fa1 (tb_i2 (i := 183) rfl rfl) (am_fa1 (tb_i2 (i := 185) rfl rfl) (am_fa1 (tb_i2 (i := 187) rfl rfl) (am_fa1 (tb_i2 (i := 189) rfl rfl) (am_fa1 (tb_i2 (i := 191) rfl rfl) (am_fa1 (tb_i2 (i := 193) rfl rfl) (am_fa1 (tb_i2 (i := 195) rfl rfl) am_fa0))))))))))
set_option maxRecDepth 100000 in
theorem tb_ty0 : ∀ k, k < 10 → parseFieldDescriptor (tb_F0 k).2.2.1 = some (tb_fty 0 k) := by decide +kernel
set_option maxRecDepth 100000 in
theorem tb_nm0 : ∀ a, a < 10 → ∀ b, b < 10 → a ≠ b → (tb_F0 a).2.1 ≠ (tb_F0 b).2.1 := by decide +kernel
set_option maxRecDepth 100000 in
theorem tb_q0 : ∃ q, tb_cl[0]? = some q ∧ Cond.instantiable q.1 q.2.2 ∈ tb_tbl ∧ Cond.initialized q.1 ∈ tb_tbl ∧ (tb_dfl 0).length = q.2.2 ∧ (∀ j, j < q.2.2 → defaultValue (tb_fty 0 j) = vp_V (tb_dfl 0) j) ∧ ∀ v ∈ tb_dfl 0, v.asRef? = none ∨ v = .null := ⟨_, rfl, (tb_i1 (i := 19) rfl rfl), (tb_i1 (i := 1) rfl rfl), rfl, (by decide +kernel), (by decide +kernel)⟩
set_option maxRecDepth 100000 in
theorem tb_u1 : ∀ w ∈ u_ws "FlagMachine$Instruction" tb_F1 10, w ∈ tb_tbl := (am_fa1 (tb_i1 (i := 65) rfl rfl) (am_fa1 (tb_i1 (i := 67) rfl rfl) (am_fa1 (tb_i1 (i := 69) rfl rfl) (am_fa1 (tb_i1 (i := 71) rfl rfl) (am_fa1 (tb_i1 (i := 73) rfl rfl) (am_fa1 (tb_i1 (i := 75) rfl rfl) (am_fa1 (tb_i1 (i := 77) rfl rfl) (am_fa1 (tb_i1 (i := 79) rfl rfl) (am_fa1 (tb_i1 (i := 81) rfl rfl) (am_fa1 (tb_i1 (i := 83) rfl rfl) am_fa0))))))))))
set_option maxRecDepth 100000 in
theorem tb_ty1 : ∀ k, k < 10 → parseFieldDescriptor (tb_F1 k).2.2.1 = some (tb_fty 1 k) := by decide +kernel
set_option maxRecDepth 100000 in
theorem tb_nm1 : ∀ a, a < 10 → ∀ b, b < 10 → a ≠ b → (tb_F1 a).2.1 ≠ (tb_F1 b).2.1 := by decide +kernel
set_option maxRecDepth 100000 in
theorem tb_q1 : ∃ q, tb_cl[1]? = some q ∧ Cond.instantiable q.1 q.2.2 ∈ tb_tbl ∧ Cond.initialized q.1 ∈ tb_tbl ∧ (tb_dfl 1).length = q.2.2 ∧ (∀ j, j < q.2.2 → defaultValue (tb_fty 1 j) = vp_V (tb_dfl 1) j) ∧ ∀ v ∈ tb_dfl 1, v.asRef? = none ∨ v = .null := ⟨_, rfl, (tb_i1 (i := 27) rfl rfl), (tb_i1 (i := 2) rfl rfl), rfl, (by decide +kernel), (by decide +kernel)⟩
set_option maxRecDepth 100000 in
theorem tb_u2 : ∀ w ∈ u_ws "FlagMachine$Stretch" tb_F2 2, w ∈ tb_tbl := (am_fa1 (tb_i1 (i := 101) rfl rfl) (am_fa1 (tb_i1 (i := 103) rfl rfl) am_fa0))
set_option maxRecDepth 100000 in
theorem tb_ty2 : ∀ k, k < 2 → parseFieldDescriptor (tb_F2 k).2.2.1 = some (tb_fty 2 k) := by decide +kernel
set_option maxRecDepth 100000 in
theorem tb_nm2 : ∀ a, a < 2 → ∀ b, b < 2 → a ≠ b → (tb_F2 a).2.1 ≠ (tb_F2 b).2.1 := by decide +kernel
set_option maxRecDepth 100000 in
theorem tb_q2 : ∃ q, tb_cl[2]? = some q ∧ Cond.instantiable q.1 q.2.2 ∈ tb_tbl ∧ Cond.initialized q.1 ∈ tb_tbl ∧ (tb_dfl 2).length = q.2.2 ∧ (∀ j, j < q.2.2 → defaultValue (tb_fty 2 j) = vp_V (tb_dfl 2) j) ∧ ∀ v ∈ tb_dfl 2, v.asRef? = none ∨ v = .null := ⟨_, rfl, (tb_i1 (i := 88) rfl rfl), (tb_i1 (i := 3) rfl rfl), rfl, (by decide +kernel), (by decide +kernel)⟩
set_option maxRecDepth 100000 in
theorem tb_u3 : ∀ w ∈ u_ws "FlagMachine$Core" tb_F3 9, w ∈ tb_tbl := (am_fa1 (tb_i1 (i := 198) rfl rfl) (am_fa1 (tb_i1 (i := 200) rfl rfl) (am_fa1 (tb_i1 (i := 202) rfl rfl) (am_fa1 (tb_i1 (i := 204) rfl rfl) (am_fa1 (tb_i1 (i := 206) rfl rfl) (am_fa1 (tb_i1 (i := 208) rfl rfl) (am_fa1 (tb_i1 (i := 210) rfl rfl) (am_fa1 (tb_i1 (i := 212) rfl rfl) (am_fa1 (tb_i1 (i := 214) rfl rfl) am_fa0)))))))))
set_option maxRecDepth 100000 in
theorem tb_ty3 : ∀ k, k < 9 → parseFieldDescriptor (tb_F3 k).2.2.1 = some (tb_fty 3 k) := by decide +kernel
set_option maxRecDepth 100000 in
theorem tb_nm3 : ∀ a, a < 9 → ∀ b, b < 9 → a ≠ b → (tb_F3 a).2.1 ≠ (tb_F3 b).2.1 := by decide +kernel
set_option maxRecDepth 100000 in
theorem tb_q3 : ∃ q, tb_cl[3]? = some q ∧ Cond.instantiable q.1 q.2.2 ∈ tb_tbl ∧ Cond.initialized q.1 ∈ tb_tbl ∧ (tb_dfl 3).length = q.2.2 ∧ (∀ j, j < q.2.2 → defaultValue (tb_fty 3 j) = vp_V (tb_dfl 3) j) ∧ ∀ v ∈ tb_dfl 3, v.asRef? = none ∨ v = .null := ⟨_, rfl, (tb_i1 (i := 107) rfl rfl), (tb_i1 (i := 5) rfl rfl), rfl, (by decide +kernel), (by decide +kernel)⟩
set_option maxRecDepth 100000 in
theorem tb_u4 : ∀ w ∈ u_ws "FlagMachine$Flags" tb_F4 5, w ∈ tb_tbl := (am_fa1 (tb_i1 (i := 127) rfl rfl) (am_fa1 (tb_i1 (i := 129) rfl rfl) (am_fa1 (tb_i1 (i := 131) rfl rfl) (am_fa1 (tb_i1 (i := 133) rfl rfl) (am_fa1 (tb_i1 (i := 135) rfl rfl) am_fa0)))))
set_option maxRecDepth 100000 in
theorem tb_ty4 : ∀ k, k < 5 → parseFieldDescriptor (tb_F4 k).2.2.1 = some (tb_fty 4 k) := by decide +kernel
set_option maxRecDepth 100000 in
theorem tb_nm4 : ∀ a, a < 5 → ∀ b, b < 5 → a ≠ b → (tb_F4 a).2.1 ≠ (tb_F4 b).2.1 := by decide +kernel
set_option maxRecDepth 100000 in
theorem tb_q4 : ∃ q, tb_cl[4]? = some q ∧ Cond.instantiable q.1 q.2.2 ∈ tb_tbl ∧ Cond.initialized q.1 ∈ tb_tbl ∧ (tb_dfl 4).length = q.2.2 ∧ (∀ j, j < q.2.2 → defaultValue (tb_fty 4 j) = vp_V (tb_dfl 4) j) ∧ ∀ v ∈ tb_dfl 4, v.asRef? = none ∨ v = .null := ⟨_, rfl, (tb_i1 (i := 113) rfl rfl), (tb_i1 (i := 6) rfl rfl), rfl, (by decide +kernel), (by decide +kernel)⟩
set_option maxRecDepth 100000 in
theorem tb_u5 : ∀ w ∈ u_ws "FlagMachine$Memory" tb_F5 3, w ∈ tb_tbl := (am_fa1 (tb_i1 (i := 154) rfl rfl) (am_fa1 (tb_i1 (i := 156) rfl rfl) (am_fa1 (tb_i1 (i := 158) rfl rfl) am_fa0)))
set_option maxRecDepth 100000 in
theorem tb_ty5 : ∀ k, k < 3 → parseFieldDescriptor (tb_F5 k).2.2.1 = some (tb_fty 5 k) := by decide +kernel
set_option maxRecDepth 100000 in
theorem tb_nm5 : ∀ a, a < 3 → ∀ b, b < 3 → a ≠ b → (tb_F5 a).2.1 ≠ (tb_F5 b).2.1 := by decide +kernel
set_option maxRecDepth 100000 in
theorem tb_q5 : ∃ q, tb_cl[5]? = some q ∧ Cond.instantiable q.1 q.2.2 ∈ tb_tbl ∧ Cond.initialized q.1 ∈ tb_tbl ∧ (tb_dfl 5).length = q.2.2 ∧ (∀ j, j < q.2.2 → defaultValue (tb_fty 5 j) = vp_V (tb_dfl 5) j) ∧ ∀ v ∈ tb_dfl 5, v.asRef? = none ∨ v = .null := ⟨_, rfl, (tb_i1 (i := 140) rfl rfl), (tb_i1 (i := 7) rfl rfl), rfl, (by decide +kernel), (by decide +kernel)⟩
set_option maxRecDepth 100000 in
theorem tb_u6 : ∀ w ∈ u_ws "FlagMachine$Sums" tb_F6 3, w ∈ tb_tbl := (am_fa1 (tb_i1 (i := 226) rfl rfl) (am_fa1 (tb_i1 (i := 228) rfl rfl) (am_fa1 (tb_i1 (i := 230) rfl rfl) am_fa0)))
set_option maxRecDepth 100000 in
theorem tb_ty6 : ∀ k, k < 3 → parseFieldDescriptor (tb_F6 k).2.2.1 = some (tb_fty 6 k) := by decide +kernel
set_option maxRecDepth 100000 in
theorem tb_nm6 : ∀ a, a < 3 → ∀ b, b < 3 → a ≠ b → (tb_F6 a).2.1 ≠ (tb_F6 b).2.1 := by decide +kernel
set_option maxRecDepth 100000 in
theorem tb_q6 : ∃ q, tb_cl[6]? = some q ∧ Cond.instantiable q.1 q.2.2 ∈ tb_tbl ∧ Cond.initialized q.1 ∈ tb_tbl ∧ (tb_dfl 6).length = q.2.2 ∧ (∀ j, j < q.2.2 → defaultValue (tb_fty 6 j) = vp_V (tb_dfl 6) j) ∧ ∀ v ∈ tb_dfl 6, v.asRef? = none ∨ v = .null := ⟨_, rfl, (tb_i1 (i := 218) rfl rfl), (tb_i1 (i := 8) rfl rfl), rfl, (by decide +kernel), (by decide +kernel)⟩
set_option maxRecDepth 100000 in
theorem tb_u7 : ∀ w ∈ u_ws "FlagMachine$Products" tb_F7 6, w ∈ tb_tbl := (am_fa1 (tb_i2 (i := 5) rfl rfl) (am_fa1 (tb_i2 (i := 7) rfl rfl) (am_fa1 (tb_i2 (i := 9) rfl rfl) (am_fa1 (tb_i2 (i := 11) rfl rfl) (am_fa1 (tb_i2 (i := 13) rfl rfl) (am_fa1 (tb_i2 (i := 15) rfl rfl) am_fa0))))))
set_option maxRecDepth 100000 in
theorem tb_ty7 : ∀ k, k < 6 → parseFieldDescriptor (tb_F7 k).2.2.1 = some (tb_fty 7 k) := by decide +kernel
set_option maxRecDepth 100000 in
theorem tb_nm7 : ∀ a, a < 6 → ∀ b, b < 6 → a ≠ b → (tb_F7 a).2.1 ≠ (tb_F7 b).2.1 := by decide +kernel
set_option maxRecDepth 100000 in
theorem tb_q7 : ∃ q, tb_cl[7]? = some q ∧ Cond.instantiable q.1 q.2.2 ∈ tb_tbl ∧ Cond.initialized q.1 ∈ tb_tbl ∧ (tb_dfl 7).length = q.2.2 ∧ (∀ j, j < q.2.2 → defaultValue (tb_fty 7 j) = vp_V (tb_dfl 7) j) ∧ ∀ v ∈ tb_dfl 7, v.asRef? = none ∨ v = .null := ⟨_, rfl, (tb_i1 (i := 234) rfl rfl), (tb_i1 (i := 9) rfl rfl), rfl, (by decide +kernel), (by decide +kernel)⟩
set_option maxRecDepth 100000 in
theorem tb_u8 : ∀ w ∈ u_ws "FlagMachine$Bits" tb_F8 3, w ∈ tb_tbl := (am_fa1 (tb_i2 (i := 27) rfl rfl) (am_fa1 (tb_i2 (i := 29) rfl rfl) (am_fa1 (tb_i2 (i := 31) rfl rfl) am_fa0)))
set_option maxRecDepth 100000 in
theorem tb_ty8 : ∀ k, k < 3 → parseFieldDescriptor (tb_F8 k).2.2.1 = some (tb_fty 8 k) := by decide +kernel
set_option maxRecDepth 100000 in
theorem tb_nm8 : ∀ a, a < 3 → ∀ b, b < 3 → a ≠ b → (tb_F8 a).2.1 ≠ (tb_F8 b).2.1 := by decide +kernel
set_option maxRecDepth 100000 in
theorem tb_q8 : ∃ q, tb_cl[8]? = some q ∧ Cond.instantiable q.1 q.2.2 ∈ tb_tbl ∧ Cond.initialized q.1 ∈ tb_tbl ∧ (tb_dfl 8).length = q.2.2 ∧ (∀ j, j < q.2.2 → defaultValue (tb_fty 8 j) = vp_V (tb_dfl 8) j) ∧ ∀ v ∈ tb_dfl 8, v.asRef? = none ∨ v = .null := ⟨_, rfl, (tb_i2 (i := 19) rfl rfl), (tb_i1 (i := 10) rfl rfl), rfl, (by decide +kernel), (by decide +kernel)⟩
set_option maxRecDepth 100000 in
theorem tb_u9 : ∀ w ∈ u_ws "FlagMachine$Moves" tb_F9 2, w ∈ tb_tbl := (am_fa1 (tb_i2 (i := 42) rfl rfl) (am_fa1 (tb_i2 (i := 44) rfl rfl) am_fa0))
set_option maxRecDepth 100000 in
theorem tb_ty9 : ∀ k, k < 2 → parseFieldDescriptor (tb_F9 k).2.2.1 = some (tb_fty 9 k) := by decide +kernel
set_option maxRecDepth 100000 in
theorem tb_nm9 : ∀ a, a < 2 → ∀ b, b < 2 → a ≠ b → (tb_F9 a).2.1 ≠ (tb_F9 b).2.1 := by decide +kernel
set_option maxRecDepth 100000 in
theorem tb_q9 : ∃ q, tb_cl[9]? = some q ∧ Cond.instantiable q.1 q.2.2 ∈ tb_tbl ∧ Cond.initialized q.1 ∈ tb_tbl ∧ (tb_dfl 9).length = q.2.2 ∧ (∀ j, j < q.2.2 → defaultValue (tb_fty 9 j) = vp_V (tb_dfl 9) j) ∧ ∀ v ∈ tb_dfl 9, v.asRef? = none ∨ v = .null := ⟨_, rfl, (tb_i2 (i := 35) rfl rfl), (tb_i1 (i := 11) rfl rfl), rfl, (by decide +kernel), (by decide +kernel)⟩
set_option maxRecDepth 100000 in
theorem tb_u10 : ∀ w ∈ u_ws "FlagMachine$Services" tb_F10 6, w ∈ tb_tbl := (am_fa1 (tb_i2 (i := 62) rfl rfl) (am_fa1 (tb_i2 (i := 64) rfl rfl) (am_fa1 (tb_i2 (i := 66) rfl rfl) (am_fa1 (tb_i2 (i := 68) rfl rfl) (am_fa1 (tb_i2 (i := 70) rfl rfl) (am_fa1 (tb_i2 (i := 72) rfl rfl) am_fa0))))))
set_option maxRecDepth 100000 in
theorem tb_ty10 : ∀ k, k < 6 → parseFieldDescriptor (tb_F10 k).2.2.1 = some (tb_fty 10 k) := by decide +kernel
set_option maxRecDepth 100000 in
theorem tb_nm10 : ∀ a, a < 6 → ∀ b, b < 6 → a ≠ b → (tb_F10 a).2.1 ≠ (tb_F10 b).2.1 := by decide +kernel
set_option maxRecDepth 100000 in
theorem tb_q10 : ∃ q, tb_cl[10]? = some q ∧ Cond.instantiable q.1 q.2.2 ∈ tb_tbl ∧ Cond.initialized q.1 ∈ tb_tbl ∧ (tb_dfl 10).length = q.2.2 ∧ (∀ j, j < q.2.2 → defaultValue (tb_fty 10 j) = vp_V (tb_dfl 10) j) ∧ ∀ v ∈ tb_dfl 10, v.asRef? = none ∨ v = .null := ⟨_, rfl, (tb_i2 (i := 48) rfl rfl), (tb_i1 (i := 12) rfl rfl), rfl, (by decide +kernel), (by decide +kernel)⟩
set_option maxRecDepth 100000 in
theorem tb_u11 : ∀ w ∈ u_ws "FlagMachine$Page" tb_F11 3, w ∈ tb_tbl := (am_fa1 (tb_i2 (i := 129) rfl rfl) (am_fa1 (tb_i2 (i := 131) rfl rfl) (am_fa1 (tb_i2 (i := 133) rfl rfl) am_fa0)))
set_option maxRecDepth 100000 in
theorem tb_ty11 : ∀ k, k < 3 → parseFieldDescriptor (tb_F11 k).2.2.1 = some (tb_fty 11 k) := by decide +kernel
set_option maxRecDepth 100000 in
theorem tb_nm11 : ∀ a, a < 3 → ∀ b, b < 3 → a ≠ b → (tb_F11 a).2.1 ≠ (tb_F11 b).2.1 := by decide +kernel
set_option maxRecDepth 100000 in
theorem tb_q11 : ∃ q, tb_cl[11]? = some q ∧ Cond.instantiable q.1 q.2.2 ∈ tb_tbl ∧ Cond.initialized q.1 ∈ tb_tbl ∧ (tb_dfl 11).length = q.2.2 ∧ (∀ j, j < q.2.2 → defaultValue (tb_fty 11 j) = vp_V (tb_dfl 11) j) ∧ ∀ v ∈ tb_dfl 11, v.asRef? = none ∨ v = .null := ⟨_, rfl, (tb_i2 (i := 118) rfl rfl), (tb_i1 (i := 14) rfl rfl), rfl, (by decide +kernel), (by decide +kernel)⟩
set_option maxRecDepth 100000 in
theorem tb_u12 : ∀ w ∈ u_ws "FlagMachineModel" tb_F12 41, w ∈ tb_tbl := (am_fa1 (tb_i4 (i := 229) rfl rfl) (am_fa1 (tb_i4 (i := 231) rfl rfl) (am_fa1 (tb_i4 (i := 233) rfl rfl) (am_fa1 (tb_i4 (i := 235) rfl rfl) (am_fa1 (tb_i4 (i := 237) rfl rfl) (am_fa1 (tb_i4 (i := 239) rfl rfl) (am_fa1 (tb_i5 (i := 1) rfl rfl) (am_fa1 (tb_i5 (i := 3) rfl rfl) (am_fa1 (tb_i5 (i := 5) rfl rfl) (am_fa1 (tb_i5 (i := 7) rfl rfl) (am_fa1 (tb_i5 (i := 9) rfl rfl) (am_fa1 (tb_i5 (i := 11) rfl rfl) (am_fa1 (tb_i5 (i := 13) rfl rfl) (am_fa1 (tb_i5 (i := 15) rfl rfl) (am_fa1 (tb_i5 (i := 17) rfl rfl) (am_fa1 (tb_i5 (i := 19) rfl rfl) (am_fa1 (tb_i5 (i := 21) rfl rfl) (am_fa1 (tb_i5 (i := 23) rfl rfl) (am_fa1 (tb_i5 (i := 25) rfl rfl) (am_fa1 (tb_i5 (i := 27) rfl rfl) (am_fa1 (tb_i5 (i := 29) rfl rfl) (am_fa1 (tb_i5 (i := 31) rfl rfl) (am_fa1 (tb_i5 (i := 33) rfl rfl) (am_fa1 (tb_i5 (i := 35) rfl rfl) (am_fa1 (tb_i5 (i := 37) rfl rfl) (am_fa1 (tb_i5 (i := 39) rfl rfl) (am_fa1 (tb_i5 (i := 41) rfl rfl) (am_fa1 (tb_i5 (i := 43) rfl rfl) (am_fa1 (tb_i5 (i := 45) rfl rfl) (am_fa1 (tb_i5 (i := 47) rfl rfl) (am_fa1 (tb_i5 (i := 49) rfl rfl) (am_fa1 (tb_i5 (i := 51) rfl rfl) (am_fa1 (tb_i5 (i := 53) rfl rfl) (am_fa1 (tb_i5 (i := 55) rfl rfl) (am_fa1 (tb_i5 (i := 57) rfl rfl) (am_fa1 (tb_i5 (i := 59) rfl rfl) (am_fa1 (tb_i5 (i := 61) rfl rfl) (am_fa1 (tb_i5 (i := 63) rfl rfl) (am_fa1 (tb_i5 (i := 65) rfl rfl) (am_fa1 (tb_i5 (i := 67) rfl rfl) (am_fa1 (tb_i5 (i := 69) rfl rfl) am_fa0)))))))))))))))))))))))))))))))))))))))))
set_option maxRecDepth 100000 in
theorem tb_ty12 : ∀ k, k < 41 → parseFieldDescriptor (tb_F12 k).2.2.1 = some (tb_fty 12 k) := by decide +kernel
set_option maxRecDepth 100000 in
theorem tb_nm12 : ∀ a, a < 41 → ∀ b, b < 41 → a ≠ b → (tb_F12 a).2.1 ≠ (tb_F12 b).2.1 := by decide +kernel
set_option maxRecDepth 100000 in
theorem tb_q12 : ∃ q, tb_cl[12]? = some q ∧ Cond.instantiable q.1 q.2.2 ∈ tb_tbl ∧ Cond.initialized q.1 ∈ tb_tbl ∧ (tb_dfl 12).length = q.2.2 ∧ (∀ j, j < q.2.2 → defaultValue (tb_fty 12 j) = vp_V (tb_dfl 12) j) ∧ ∀ v ∈ tb_dfl 12, v.asRef? = none ∨ v = .null := ⟨_, rfl, (tb_i4 (i := 167) rfl rfl), (tb_i1 (i := 16) rfl rfl), rfl, (by decide +kernel), (by decide +kernel)⟩
theorem tb_pn0 : plainName "FlagMachine" = true ∧ "FlagMachine" ≠ "java/lang/invoke/MethodHandle" ∧ "FlagMachine" ≠ "java/lang/invoke/VarHandle" := by decide +kernel
theorem tb_pn1 : plainName "FlagMachine$Instruction" = true ∧ "FlagMachine$Instruction" ≠ "java/lang/invoke/MethodHandle" ∧ "FlagMachine$Instruction" ≠ "java/lang/invoke/VarHandle" := by decide +kernel
theorem tb_pn2 : plainName "FlagMachine$Stretch" = true ∧ "FlagMachine$Stretch" ≠ "java/lang/invoke/MethodHandle" ∧ "FlagMachine$Stretch" ≠ "java/lang/invoke/VarHandle" := by decide +kernel
theorem tb_pn3 : plainName "FlagMachine$Core" = true ∧ "FlagMachine$Core" ≠ "java/lang/invoke/MethodHandle" ∧ "FlagMachine$Core" ≠ "java/lang/invoke/VarHandle" := by decide +kernel
theorem tb_pn4 : plainName "FlagMachine$Flags" = true ∧ "FlagMachine$Flags" ≠ "java/lang/invoke/MethodHandle" ∧ "FlagMachine$Flags" ≠ "java/lang/invoke/VarHandle" := by decide +kernel
theorem tb_pn5 : plainName "FlagMachine$Memory" = true ∧ "FlagMachine$Memory" ≠ "java/lang/invoke/MethodHandle" ∧ "FlagMachine$Memory" ≠ "java/lang/invoke/VarHandle" := by decide +kernel
theorem tb_pn6 : plainName "FlagMachine$Sums" = true ∧ "FlagMachine$Sums" ≠ "java/lang/invoke/MethodHandle" ∧ "FlagMachine$Sums" ≠ "java/lang/invoke/VarHandle" := by decide +kernel
theorem tb_pn7 : plainName "FlagMachine$Products" = true ∧ "FlagMachine$Products" ≠ "java/lang/invoke/MethodHandle" ∧ "FlagMachine$Products" ≠ "java/lang/invoke/VarHandle" := by decide +kernel
theorem tb_pn8 : plainName "FlagMachine$Bits" = true ∧ "FlagMachine$Bits" ≠ "java/lang/invoke/MethodHandle" ∧ "FlagMachine$Bits" ≠ "java/lang/invoke/VarHandle" := by decide +kernel
theorem tb_pn9 : plainName "FlagMachine$Moves" = true ∧ "FlagMachine$Moves" ≠ "java/lang/invoke/MethodHandle" ∧ "FlagMachine$Moves" ≠ "java/lang/invoke/VarHandle" := by decide +kernel
theorem tb_pn10 : plainName "FlagMachine$Services" = true ∧ "FlagMachine$Services" ≠ "java/lang/invoke/MethodHandle" ∧ "FlagMachine$Services" ≠ "java/lang/invoke/VarHandle" := by decide +kernel
theorem tb_pn11 : plainName "FlagMachine$Page" = true ∧ "FlagMachine$Page" ≠ "java/lang/invoke/MethodHandle" ∧ "FlagMachine$Page" ≠ "java/lang/invoke/VarHandle" := by decide +kernel
theorem tb_pn12 : plainName "FlagMachineModel" = true ∧ "FlagMachineModel" ≠ "java/lang/invoke/MethodHandle" ∧ "FlagMachineModel" ≠ "java/lang/invoke/VarHandle" := by decide +kernel
theorem tb_pn14 : plainName "java/lang/Long" = true ∧ "java/lang/Long" ≠ "java/lang/invoke/MethodHandle" ∧ "java/lang/Long" ≠ "java/lang/invoke/VarHandle" := by decide +kernel
theorem tb_pn15 : plainName "java/util/Arrays" = true ∧ "java/util/Arrays" ≠ "java/lang/invoke/MethodHandle" ∧ "java/util/Arrays" ≠ "java/lang/invoke/VarHandle" := by decide +kernel
theorem tb_ds0 : (parseMethodDescriptor "()V").map (fun d => d.parameters.length + 1) = some 1 := by decide +kernel
set_option maxRecDepth 100000 in
theorem tb_j1 : am_vJ tb_tbl tb_cl (tb_mt 1) (tb_mj 1).1 (tb_mj 1).2 := am_vJ1 ⟨(tb_i1 (i := 22) rfl rfl), (tb_i1 (i := 1) rfl rfl), tb_pn0.1, tb_pn0.2.1, tb_pn0.2.2⟩ (tb_i1 (i := 21) rfl rfl) rfl rfl tb_ds0
theorem tb_ds1 : (parseMethodDescriptor "(IIIIII)Z").map (fun d => d.parameters.length + 1) = some 7 := by decide +kernel
set_option maxRecDepth 100000 in
theorem tb_j2 : am_vJ tb_tbl tb_cl (tb_mt 2) (tb_mj 2).1 (tb_mj 2).2 := am_vJ2 ⟨(tb_i2 (i := 78) rfl rfl), (tb_i1 (i := 1) rfl rfl), tb_pn0.1, tb_pn0.2.1, tb_pn0.2.2⟩ (tb_i2 (i := 76) rfl rfl) (tb_i2 (i := 77) rfl rfl) tb_ds1 rfl rfl
theorem tb_ds2 : (parseMethodDescriptor "(JJ)Z").map (fun d => d.parameters.length) = some 2 := by decide +kernel
set_option maxRecDepth 100000 in
theorem tb_j3 : am_vJ tb_tbl tb_cl (tb_mt 3) (tb_mj 3).1 (tb_mj 3).2 := am_vJ0 ⟨(tb_i3 (i := 196) rfl rfl), (tb_i1 (i := 1) rfl rfl), tb_pn0.1, tb_pn0.2.1, tb_pn0.2.2⟩ (tb_i3 (i := 195) rfl rfl) tb_ds2
theorem tb_ds3 : (parseMethodDescriptor "(IJ)V").map (fun d => d.parameters.length + 1) = some 3 := by decide +kernel
set_option maxRecDepth 100000 in
theorem tb_j4 : am_vJ tb_tbl tb_cl (tb_mt 4) (tb_mj 4).1 (tb_mj 4).2 := am_vJ2 ⟨(tb_i2 (i := 202) rfl rfl), (tb_i1 (i := 1) rfl rfl), tb_pn0.1, tb_pn0.2.1, tb_pn0.2.2⟩ (tb_i2 (i := 200) rfl rfl) (tb_i2 (i := 201) rfl rfl) tb_ds3 rfl rfl
theorem tb_ds4 : (parseMethodDescriptor "(I)I").map (fun d => d.parameters.length + 1) = some 2 := by decide +kernel
set_option maxRecDepth 100000 in
theorem tb_j5 : am_vJ tb_tbl tb_cl (tb_mt 5) (tb_mj 5).1 (tb_mj 5).2 := am_vJ2 ⟨(tb_i4 (i := 125) rfl rfl), (tb_i1 (i := 1) rfl rfl), tb_pn0.1, tb_pn0.2.1, tb_pn0.2.2⟩ (tb_i4 (i := 124) rfl rfl) (tb_i0 (i := 42) rfl rfl) tb_ds4 rfl rfl
theorem tb_ds5 : (parseMethodDescriptor "(JI)Z").map (fun d => d.parameters.length + 1) = some 3 := by decide +kernel
set_option maxRecDepth 100000 in
theorem tb_j6 : am_vJ tb_tbl tb_cl (tb_mt 6) (tb_mj 6).1 (tb_mj 6).2 := am_vJ2 ⟨(tb_i4 (i := 143) rfl rfl), (tb_i1 (i := 1) rfl rfl), tb_pn0.1, tb_pn0.2.1, tb_pn0.2.2⟩ (tb_i4 (i := 141) rfl rfl) (tb_i4 (i := 142) rfl rfl) tb_ds5 rfl rfl
theorem tb_ds6 : (parseMethodDescriptor "(I)J").map (fun d => d.parameters.length) = some 1 := by decide +kernel
set_option maxRecDepth 100000 in
theorem tb_j7 : am_vJ tb_tbl tb_cl (tb_mt 7) (tb_mj 7).1 (tb_mj 7).2 := am_vJ0 ⟨(tb_i3 (i := 59) rfl rfl), (tb_i1 (i := 1) rfl rfl), tb_pn0.1, tb_pn0.2.1, tb_pn0.2.2⟩ (tb_i3 (i := 58) rfl rfl) tb_ds6
theorem tb_ds7 : (parseMethodDescriptor "(IIII)V").map (fun d => d.parameters.length + 1) = some 5 := by decide +kernel
set_option maxRecDepth 100000 in
theorem tb_j8 : am_vJ tb_tbl tb_cl (tb_mt 8) (tb_mj 8).1 (tb_mj 8).2 := am_vJ2 ⟨(tb_i2 (i := 219) rfl rfl), (tb_i1 (i := 1) rfl rfl), tb_pn0.1, tb_pn0.2.1, tb_pn0.2.2⟩ (tb_i2 (i := 217) rfl rfl) (tb_i2 (i := 218) rfl rfl) tb_ds7 rfl rfl
theorem tb_ds8 : (parseMethodDescriptor "(J)V").map (fun d => d.parameters.length + 1) = some 2 := by decide +kernel
set_option maxRecDepth 100000 in
theorem tb_j9 : am_vJ tb_tbl tb_cl (tb_mt 9) (tb_mj 9).1 (tb_mj 9).2 := am_vJ2 ⟨(tb_i2 (i := 223) rfl rfl), (tb_i1 (i := 1) rfl rfl), tb_pn0.1, tb_pn0.2.1, tb_pn0.2.2⟩ (tb_i2 (i := 221) rfl rfl) (tb_i2 (i := 222) rfl rfl) tb_ds8 rfl rfl
theorem tb_ds9 : (parseMethodDescriptor "(III)V").map (fun d => d.parameters.length + 1) = some 4 := by decide +kernel
set_option maxRecDepth 100000 in
theorem tb_j10 : am_vJ tb_tbl tb_cl (tb_mt 10) (tb_mj 10).1 (tb_mj 10).2 := am_vJ2 ⟨(tb_i2 (i := 211) rfl rfl), (tb_i1 (i := 1) rfl rfl), tb_pn0.1, tb_pn0.2.1, tb_pn0.2.2⟩ (tb_i2 (i := 209) rfl rfl) (tb_i2 (i := 210) rfl rfl) tb_ds9 rfl rfl
theorem tb_ds10 : (parseMethodDescriptor "(III)Z").map (fun d => d.parameters.length + 1) = some 4 := by decide +kernel
set_option maxRecDepth 100000 in
theorem tb_j11 : am_vJ tb_tbl tb_cl (tb_mt 11) (tb_mj 11).1 (tb_mj 11).2 := am_vJ2 ⟨(tb_i2 (i := 215) rfl rfl), (tb_i1 (i := 1) rfl rfl), tb_pn0.1, tb_pn0.2.1, tb_pn0.2.2⟩ (tb_i2 (i := 213) rfl rfl) (tb_i2 (i := 214) rfl rfl) tb_ds10 rfl rfl
set_option maxRecDepth 100000 in
theorem tb_j12 : am_vJ tb_tbl tb_cl (tb_mt 12) (tb_mj 12).1 (tb_mj 12).2 := am_vJ2 ⟨(tb_i4 (i := 151) rfl rfl), (tb_i1 (i := 1) rfl rfl), tb_pn0.1, tb_pn0.2.1, tb_pn0.2.2⟩ (tb_i4 (i := 149) rfl rfl) (tb_i4 (i := 150) rfl rfl) tb_ds4 rfl rfl
theorem tb_ds11 : (parseMethodDescriptor "(J)I").map (fun d => d.parameters.length + 1) = some 2 := by decide +kernel
set_option maxRecDepth 100000 in
theorem tb_j13 : am_vJ tb_tbl tb_cl (tb_mt 13) (tb_mj 13).1 (tb_mj 13).2 := am_vJ2 ⟨(tb_i4 (i := 159) rfl rfl), (tb_i1 (i := 1) rfl rfl), tb_pn0.1, tb_pn0.2.1, tb_pn0.2.2⟩ (tb_i4 (i := 157) rfl rfl) (tb_i4 (i := 158) rfl rfl) tb_ds11 rfl rfl
set_option maxRecDepth 100000 in
theorem tb_j14 : am_vJ tb_tbl tb_cl (tb_mt 14) (tb_mj 14).1 (tb_mj 14).2 := am_vJ2 ⟨(tb_i4 (i := 165) rfl rfl), (tb_i1 (i := 1) rfl rfl), tb_pn0.1, tb_pn0.2.1, tb_pn0.2.2⟩ (tb_i4 (i := 163) rfl rfl) (tb_i4 (i := 164) rfl rfl) tb_ds5 rfl rfl
theorem tb_ds12 : (parseMethodDescriptor "(I)J").map (fun d => d.parameters.length + 1) = some 2 := by decide +kernel
set_option maxRecDepth 100000 in
theorem tb_j15 : am_vJ tb_tbl tb_cl (tb_mt 15) (tb_mj 15).1 (tb_mj 15).2 := am_vJ2 ⟨(tb_i4 (i := 133) rfl rfl), (tb_i1 (i := 1) rfl rfl), tb_pn0.1, tb_pn0.2.1, tb_pn0.2.2⟩ (tb_i4 (i := 131) rfl rfl) (tb_i4 (i := 132) rfl rfl) tb_ds12 rfl rfl
theorem tb_ds13 : (parseMethodDescriptor "(IJ)Z").map (fun d => d.parameters.length + 1) = some 3 := by decide +kernel
set_option maxRecDepth 100000 in
theorem tb_j16 : am_vJ tb_tbl tb_cl (tb_mt 16) (tb_mj 16).1 (tb_mj 16).2 := am_vJ2 ⟨(tb_i4 (i := 139) rfl rfl), (tb_i1 (i := 1) rfl rfl), tb_pn0.1, tb_pn0.2.1, tb_pn0.2.2⟩ (tb_i4 (i := 137) rfl rfl) (tb_i4 (i := 138) rfl rfl) tb_ds13 rfl rfl
theorem tb_ds14 : (parseMethodDescriptor "(JI)J").map (fun d => d.parameters.length) = some 2 := by decide +kernel
set_option maxRecDepth 100000 in
theorem tb_j17 : am_vJ tb_tbl tb_cl (tb_mt 17) (tb_mj 17).1 (tb_mj 17).2 := am_vJ0 ⟨(tb_i3 (i := 31) rfl rfl), (tb_i1 (i := 1) rfl rfl), tb_pn0.1, tb_pn0.2.1, tb_pn0.2.2⟩ (tb_i3 (i := 30) rfl rfl) tb_ds14
set_option maxRecDepth 100000 in
theorem tb_j18 : am_vJ tb_tbl tb_cl (tb_mt 18) (tb_mj 18).1 (tb_mj 18).2 := am_vJ2 ⟨(tb_i2 (i := 227) rfl rfl), (tb_i1 (i := 1) rfl rfl), tb_pn0.1, tb_pn0.2.1, tb_pn0.2.2⟩ (tb_i2 (i := 225) rfl rfl) (tb_i2 (i := 226) rfl rfl) tb_ds4 rfl rfl
set_option maxRecDepth 100000 in
theorem tb_j19 : am_vJ tb_tbl tb_cl (tb_mt 19) (tb_mj 19).1 (tb_mj 19).2 := am_vJ0 ⟨(tb_i3 (i := 121) rfl rfl), (tb_i1 (i := 1) rfl rfl), tb_pn0.1, tb_pn0.2.1, tb_pn0.2.2⟩ (tb_i3 (i := 120) rfl rfl) tb_ds6
theorem tb_ds15 : (parseMethodDescriptor "()J").map (fun d => d.parameters.length + 1) = some 1 := by decide +kernel
set_option maxRecDepth 100000 in
theorem tb_j20 : am_vJ tb_tbl tb_cl (tb_mt 20) (tb_mj 20).1 (tb_mj 20).2 := am_vJ2 ⟨(tb_i4 (i := 129) rfl rfl), (tb_i1 (i := 1) rfl rfl), tb_pn0.1, tb_pn0.2.1, tb_pn0.2.2⟩ (tb_i4 (i := 127) rfl rfl) (tb_i4 (i := 128) rfl rfl) tb_ds15 rfl rfl
theorem tb_ds16 : (parseMethodDescriptor "(LFlagMachine$Core;)V").map (fun d => d.parameters.length + 1) = some 2 := by decide +kernel
set_option maxRecDepth 100000 in
theorem tb_j21 : am_vJ tb_tbl tb_cl (tb_mt 21) (tb_mj 21).1 (tb_mj 21).2 := am_vJ1 ⟨(tb_i2 (i := 22) rfl rfl), (tb_i1 (i := 10) rfl rfl), tb_pn8.1, tb_pn8.2.1, tb_pn8.2.2⟩ (tb_i2 (i := 21) rfl rfl) rfl rfl tb_ds16
theorem tb_ds17 : (parseMethodDescriptor "(J)I").map (fun d => d.parameters.length) = some 1 := by decide +kernel
set_option maxRecDepth 100000 in
theorem tb_j22 : am_vJ tb_tbl tb_cl (tb_mt 22) (tb_mj 22).1 (tb_mj 22).2 := am_vJ0 ⟨(tb_i3 (i := 218) rfl rfl), (tb_i1 (i := 10) rfl rfl), tb_pn8.1, tb_pn8.2.1, tb_pn8.2.2⟩ (tb_i3 (i := 217) rfl rfl) tb_ds17
set_option maxRecDepth 100000 in
theorem tb_j23 : am_vJ tb_tbl tb_cl (tb_mt 23) (tb_mj 23).1 (tb_mj 23).2 := am_vJ0 ⟨(tb_i3 (i := 215) rfl rfl), (tb_i1 (i := 10) rfl rfl), tb_pn8.1, tb_pn8.2.1, tb_pn8.2.2⟩ (tb_i3 (i := 214) rfl rfl) tb_ds17
theorem tb_ds18 : (parseMethodDescriptor "(IJJI)Z").map (fun d => d.parameters.length + 1) = some 5 := by decide +kernel
set_option maxRecDepth 100000 in
theorem tb_j24 : am_vJ tb_tbl tb_cl (tb_mt 24) (tb_mj 24).1 (tb_mj 24).2 := am_vJ2 ⟨(tb_i4 (i := 1) rfl rfl), (tb_i1 (i := 10) rfl rfl), tb_pn8.1, tb_pn8.2.1, tb_pn8.2.2⟩ (tb_i4 (i := 0) rfl rfl) (tb_i0 (i := 26) rfl rfl) tb_ds18 rfl rfl
theorem tb_ds19 : (parseMethodDescriptor "(I)V").map (fun d => d.parameters.length + 1) = some 2 := by decide +kernel
set_option maxRecDepth 100000 in
theorem tb_j25 : am_vJ tb_tbl tb_cl (tb_mt 25) (tb_mj 25).1 (tb_mj 25).2 := am_vJ2 ⟨(tb_i3 (i := 207) rfl rfl), (tb_i1 (i := 10) rfl rfl), tb_pn8.1, tb_pn8.2.1, tb_pn8.2.2⟩ (tb_i3 (i := 205) rfl rfl) (tb_i3 (i := 206) rfl rfl) tb_ds19 rfl rfl
theorem tb_ds20 : (parseMethodDescriptor "(Z)V").map (fun d => d.parameters.length + 1) = some 2 := by decide +kernel
set_option maxRecDepth 100000 in
theorem tb_j26 : am_vJ tb_tbl tb_cl (tb_mt 26) (tb_mj 26).1 (tb_mj 26).2 := am_vJ2 ⟨(tb_i3 (i := 211) rfl rfl), (tb_i1 (i := 10) rfl rfl), tb_pn8.1, tb_pn8.2.1, tb_pn8.2.2⟩ (tb_i3 (i := 210) rfl rfl) (tb_i0 (i := 22) rfl rfl) tb_ds20 rfl rfl
set_option maxRecDepth 100000 in
theorem tb_j27 : am_vJ tb_tbl tb_cl (tb_mt 27) (tb_mj 27).1 (tb_mj 27).2 := am_vJ2 ⟨(tb_i3 (i := 232) rfl rfl), (tb_i1 (i := 10) rfl rfl), tb_pn8.1, tb_pn8.2.1, tb_pn8.2.2⟩ (tb_i3 (i := 231) rfl rfl) (tb_i0 (i := 25) rfl rfl) tb_ds19 rfl rfl
theorem tb_ds21 : (parseMethodDescriptor "(IJI)J").map (fun d => d.parameters.length) = some 3 := by decide +kernel
set_option maxRecDepth 100000 in
theorem tb_j28 : am_vJ tb_tbl tb_cl (tb_mt 28) (tb_mj 28).1 (tb_mj 28).2 := am_vJ0 ⟨(tb_i3 (i := 235) rfl rfl), (tb_i1 (i := 10) rfl rfl), tb_pn8.1, tb_pn8.2.1, tb_pn8.2.2⟩ (tb_i3 (i := 234) rfl rfl) tb_ds21
set_option maxRecDepth 100000 in
theorem tb_j29 : am_vJ tb_tbl tb_cl (tb_mt 29) (tb_mj 29).1 (tb_mj 29).2 := am_vJ2 ⟨(tb_i3 (i := 228) rfl rfl), (tb_i1 (i := 10) rfl rfl), tb_pn8.1, tb_pn8.2.1, tb_pn8.2.2⟩ (tb_i3 (i := 227) rfl rfl) (tb_i0 (i := 24) rfl rfl) tb_ds0 rfl rfl
set_option maxRecDepth 100000 in
theorem tb_j30 : am_vJ tb_tbl tb_cl (tb_mt 30) (tb_mj 30).1 (tb_mj 30).2 := am_vJ2 ⟨(tb_i3 (i := 223) rfl rfl), (tb_i1 (i := 10) rfl rfl), tb_pn8.1, tb_pn8.2.1, tb_pn8.2.2⟩ (tb_i3 (i := 222) rfl rfl) (tb_i0 (i := 23) rfl rfl) tb_ds0 rfl rfl
theorem tb_ds22 : (parseMethodDescriptor "(LFlagMachine$Instruction;)V").map (fun d => d.parameters.length + 1) = some 2 := by decide +kernel
set_option maxRecDepth 100000 in
theorem tb_j31 : am_vJ tb_tbl tb_cl (tb_mt 31) (tb_mj 31).1 (tb_mj 31).2 := am_vJ1 ⟨(tb_i1 (i := 110) rfl rfl), (tb_i1 (i := 5) rfl rfl), tb_pn3.1, tb_pn3.2.1, tb_pn3.2.2⟩ (tb_i1 (i := 109) rfl rfl) rfl rfl tb_ds22
theorem tb_ds23 : (parseMethodDescriptor "(II)J").map (fun d => d.parameters.length + 1) = some 3 := by decide +kernel
set_option maxRecDepth 100000 in
theorem tb_j32 : am_vJ tb_tbl tb_cl (tb_mt 32) (tb_mj 32).1 (tb_mj 32).2 := am_vJ2 ⟨(tb_i3 (i := 52) rfl rfl), (tb_i1 (i := 5) rfl rfl), tb_pn3.1, tb_pn3.2.1, tb_pn3.2.2⟩ (tb_i3 (i := 50) rfl rfl) (tb_i3 (i := 51) rfl rfl) tb_ds23 rfl rfl
theorem tb_ds24 : (parseMethodDescriptor "(JI)J").map (fun d => d.parameters.length + 1) = some 3 := by decide +kernel
set_option maxRecDepth 100000 in
theorem tb_j33 : am_vJ tb_tbl tb_cl (tb_mt 33) (tb_mj 33).1 (tb_mj 33).2 := am_vJ2 ⟨(tb_i3 (i := 64) rfl rfl), (tb_i1 (i := 5) rfl rfl), tb_pn3.1, tb_pn3.2.1, tb_pn3.2.2⟩ (tb_i3 (i := 62) rfl rfl) (tb_i3 (i := 63) rfl rfl) tb_ds24 rfl rfl
set_option maxRecDepth 100000 in
theorem tb_j34 : am_vJ tb_tbl tb_cl (tb_mt 34) (tb_mj 34).1 (tb_mj 34).2 := am_vJ2 ⟨(tb_i3 (i := 40) rfl rfl), (tb_i1 (i := 5) rfl rfl), tb_pn3.1, tb_pn3.2.1, tb_pn3.2.2⟩ (tb_i3 (i := 38) rfl rfl) (tb_i3 (i := 39) rfl rfl) tb_ds15 rfl rfl
set_option maxRecDepth 100000 in
theorem tb_j35 : am_vJ tb_tbl tb_cl (tb_mt 35) (tb_mj 35).1 (tb_mj 35).2 := am_vJ2 ⟨(tb_i3 (i := 56) rfl rfl), (tb_i1 (i := 5) rfl rfl), tb_pn3.1, tb_pn3.2.1, tb_pn3.2.2⟩ (tb_i3 (i := 54) rfl rfl) (tb_i3 (i := 55) rfl rfl) tb_ds23 rfl rfl
set_option maxRecDepth 100000 in
theorem tb_j36 : am_vJ tb_tbl tb_cl (tb_mt 36) (tb_mj 36).1 (tb_mj 36).2 := am_vJ2 ⟨(tb_i3 (i := 35) rfl rfl), (tb_i1 (i := 5) rfl rfl), tb_pn3.1, tb_pn3.2.1, tb_pn3.2.2⟩ (tb_i3 (i := 33) rfl rfl) (tb_i3 (i := 34) rfl rfl) tb_ds19 rfl rfl
theorem tb_ds25 : (parseMethodDescriptor "(IIJ)V").map (fun d => d.parameters.length + 1) = some 4 := by decide +kernel
set_option maxRecDepth 100000 in
theorem tb_j37 : am_vJ tb_tbl tb_cl (tb_mt 37) (tb_mj 37).1 (tb_mj 37).2 := am_vJ2 ⟨(tb_i3 (i := 97) rfl rfl), (tb_i1 (i := 5) rfl rfl), tb_pn3.1, tb_pn3.2.1, tb_pn3.2.2⟩ (tb_i3 (i := 95) rfl rfl) (tb_i3 (i := 96) rfl rfl) tb_ds25 rfl rfl
set_option maxRecDepth 100000 in
theorem tb_j38 : am_vJ tb_tbl tb_cl (tb_mt 38) (tb_mj 38).1 (tb_mj 38).2 := am_vJ2 ⟨(tb_i3 (i := 44) rfl rfl), (tb_i1 (i := 5) rfl rfl), tb_pn3.1, tb_pn3.2.1, tb_pn3.2.2⟩ (tb_i3 (i := 43) rfl rfl) (tb_i0 (i := 12) rfl rfl) tb_ds12 rfl rfl
theorem tb_ds26 : (parseMethodDescriptor "(JIJ)Z").map (fun d => d.parameters.length + 1) = some 4 := by decide +kernel
set_option maxRecDepth 100000 in
theorem tb_j39 : am_vJ tb_tbl tb_cl (tb_mt 39) (tb_mj 39).1 (tb_mj 39).2 := am_vJ2 ⟨(tb_i3 (i := 102) rfl rfl), (tb_i1 (i := 5) rfl rfl), tb_pn3.1, tb_pn3.2.1, tb_pn3.2.2⟩ (tb_i3 (i := 100) rfl rfl) (tb_i3 (i := 101) rfl rfl) tb_ds26 rfl rfl
set_option maxRecDepth 100000 in
theorem tb_j40 : am_vJ tb_tbl tb_cl (tb_mt 40) (tb_mj 40).1 (tb_mj 40).2 := am_vJ2 ⟨(tb_i2 (i := 153) rfl rfl), (tb_i1 (i := 5) rfl rfl), tb_pn3.1, tb_pn3.2.1, tb_pn3.2.2⟩ (tb_i2 (i := 151) rfl rfl) (tb_i2 (i := 152) rfl rfl) tb_ds0 rfl rfl
set_option maxRecDepth 100000 in
theorem tb_j41 : am_vJ tb_tbl tb_cl (tb_mt 41) (tb_mj 41).1 (tb_mj 41).2 := am_vJ2 ⟨(tb_i3 (i := 79) rfl rfl), (tb_i1 (i := 5) rfl rfl), tb_pn3.1, tb_pn3.2.1, tb_pn3.2.2⟩ (tb_i3 (i := 77) rfl rfl) (tb_i3 (i := 78) rfl rfl) tb_ds3 rfl rfl
theorem tb_ds27 : (parseMethodDescriptor "(IIJ)Z").map (fun d => d.parameters.length + 1) = some 4 := by decide +kernel
set_option maxRecDepth 100000 in
theorem tb_j42 : am_vJ tb_tbl tb_cl (tb_mt 42) (tb_mj 42).1 (tb_mj 42).2 := am_vJ2 ⟨(tb_i3 (i := 93) rfl rfl), (tb_i1 (i := 5) rfl rfl), tb_pn3.1, tb_pn3.2.1, tb_pn3.2.2⟩ (tb_i3 (i := 91) rfl rfl) (tb_i3 (i := 92) rfl rfl) tb_ds27 rfl rfl
set_option maxRecDepth 100000 in
theorem tb_j43 : am_vJ tb_tbl tb_cl (tb_mt 43) (tb_mj 43).1 (tb_mj 43).2 := am_vJ1 ⟨(tb_i1 (i := 116) rfl rfl), (tb_i1 (i := 6) rfl rfl), tb_pn4.1, tb_pn4.2.1, tb_pn4.2.2⟩ (tb_i1 (i := 115) rfl rfl) rfl rfl tb_ds0
set_option maxRecDepth 100000 in
theorem tb_j44 : am_vJ tb_tbl tb_cl (tb_mt 44) (tb_mj 44).1 (tb_mj 44).2 := am_vJ2 ⟨(tb_i4 (i := 11) rfl rfl), (tb_i1 (i := 6) rfl rfl), tb_pn4.1, tb_pn4.2.1, tb_pn4.2.2⟩ (tb_i4 (i := 9) rfl rfl) (tb_i4 (i := 10) rfl rfl) tb_ds15 rfl rfl
set_option maxRecDepth 100000 in
theorem tb_j45 : am_vJ tb_tbl tb_cl (tb_mt 45) (tb_mj 45).1 (tb_mj 45).2 := am_vJ2 ⟨(tb_i2 (i := 161) rfl rfl), (tb_i1 (i := 6) rfl rfl), tb_pn4.1, tb_pn4.2.1, tb_pn4.2.2⟩ (tb_i2 (i := 159) rfl rfl) (tb_i2 (i := 160) rfl rfl) tb_ds0 rfl rfl
theorem tb_ds28 : (parseMethodDescriptor "(I)Z").map (fun d => d.parameters.length + 1) = some 2 := by decide +kernel
set_option maxRecDepth 100000 in
theorem tb_j46 : am_vJ tb_tbl tb_cl (tb_mt 46) (tb_mj 46).1 (tb_mj 46).2 := am_vJ2 ⟨(tb_i4 (i := 95) rfl rfl), (tb_i1 (i := 6) rfl rfl), tb_pn4.1, tb_pn4.2.1, tb_pn4.2.2⟩ (tb_i4 (i := 93) rfl rfl) (tb_i4 (i := 94) rfl rfl) tb_ds28 rfl rfl
set_option maxRecDepth 100000 in
theorem tb_j47 : am_vJ tb_tbl tb_cl (tb_mt 47) (tb_mj 47).1 (tb_mj 47).2 := am_vJ2 ⟨(tb_i4 (i := 99) rfl rfl), (tb_i1 (i := 6) rfl rfl), tb_pn4.1, tb_pn4.2.1, tb_pn4.2.2⟩ (tb_i4 (i := 98) rfl rfl) (tb_i0 (i := 36) rfl rfl) tb_ds28 rfl rfl
theorem tb_ds29 : (parseMethodDescriptor "(JI)V").map (fun d => d.parameters.length + 1) = some 3 := by decide +kernel
set_option maxRecDepth 100000 in
theorem tb_j48 : am_vJ tb_tbl tb_cl (tb_mt 48) (tb_mj 48).1 (tb_mj 48).2 := am_vJ2 ⟨(tb_i3 (i := 141) rfl rfl), (tb_i1 (i := 6) rfl rfl), tb_pn4.1, tb_pn4.2.1, tb_pn4.2.2⟩ (tb_i3 (i := 139) rfl rfl) (tb_i3 (i := 140) rfl rfl) tb_ds29 rfl rfl
theorem tb_ds30 : (parseMethodDescriptor "(JJJI)V").map (fun d => d.parameters.length + 1) = some 5 := by decide +kernel
set_option maxRecDepth 100000 in
theorem tb_j49 : am_vJ tb_tbl tb_cl (tb_mt 49) (tb_mj 49).1 (tb_mj 49).2 := am_vJ2 ⟨(tb_i3 (i := 137) rfl rfl), (tb_i1 (i := 6) rfl rfl), tb_pn4.1, tb_pn4.2.1, tb_pn4.2.2⟩ (tb_i3 (i := 135) rfl rfl) (tb_i3 (i := 136) rfl rfl) tb_ds30 rfl rfl
set_option maxRecDepth 100000 in
theorem tb_j50 : am_vJ tb_tbl tb_cl (tb_mt 50) (tb_mj 50).1 (tb_mj 50).2 := am_vJ2 ⟨(tb_i3 (i := 179) rfl rfl), (tb_i1 (i := 6) rfl rfl), tb_pn4.1, tb_pn4.2.1, tb_pn4.2.2⟩ (tb_i3 (i := 177) rfl rfl) (tb_i3 (i := 178) rfl rfl) tb_ds20 rfl rfl
set_option maxRecDepth 100000 in
theorem tb_j51 : am_vJ tb_tbl tb_cl (tb_mt 51) (tb_mj 51).1 (tb_mj 51).2 := am_vJ2 ⟨(tb_i3 (i := 126) rfl rfl), (tb_i1 (i := 6) rfl rfl), tb_pn4.1, tb_pn4.2.1, tb_pn4.2.2⟩ (tb_i3 (i := 124) rfl rfl) (tb_i3 (i := 125) rfl rfl) tb_ds29 rfl rfl
set_option maxRecDepth 100000 in
theorem tb_j52 : am_vJ tb_tbl tb_cl (tb_mt 52) (tb_mj 52).1 (tb_mj 52).2 := am_vJ2 ⟨(tb_i3 (i := 118) rfl rfl), (tb_i1 (i := 6) rfl rfl), tb_pn4.1, tb_pn4.2.1, tb_pn4.2.2⟩ (tb_i3 (i := 116) rfl rfl) (tb_i3 (i := 117) rfl rfl) tb_ds30 rfl rfl
set_option maxRecDepth 100000 in
theorem tb_j53 : am_vJ tb_tbl tb_cl (tb_mt 53) (tb_mj 53).1 (tb_mj 53).2 := am_vJ1 ⟨(tb_i1 (i := 30) rfl rfl), (tb_i1 (i := 2) rfl rfl), tb_pn1.1, tb_pn1.2.1, tb_pn1.2.2⟩ (tb_i1 (i := 29) rfl rfl) rfl rfl tb_ds0
theorem tb_ds31 : (parseMethodDescriptor "()Z").map (fun d => d.parameters.length + 1) = some 1 := by decide +kernel
set_option maxRecDepth 100000 in
theorem tb_j54 : am_vJ tb_tbl tb_cl (tb_mt 54) (tb_mj 54).1 (tb_mj 54).2 := am_vJ2 ⟨(tb_i2 (i := 239) rfl rfl), (tb_i1 (i := 2) rfl rfl), tb_pn1.1, tb_pn1.2.1, tb_pn1.2.2⟩ (tb_i2 (i := 238) rfl rfl) (tb_i0 (i := 6) rfl rfl) tb_ds31 rfl rfl
set_option maxRecDepth 100000 in
theorem tb_j55 : am_vJ tb_tbl tb_cl (tb_mt 55) (tb_mj 55).1 (tb_mj 55).2 := am_vJ2 ⟨(tb_i3 (i := 18) rfl rfl), (tb_i1 (i := 2) rfl rfl), tb_pn1.1, tb_pn1.2.1, tb_pn1.2.2⟩ (tb_i3 (i := 16) rfl rfl) (tb_i3 (i := 17) rfl rfl) tb_ds28 rfl rfl
theorem tb_ds32 : (parseMethodDescriptor "(I)Z").map (fun d => d.parameters.length) = some 1 := by decide +kernel
set_option maxRecDepth 100000 in
theorem tb_j56 : am_vJ tb_tbl tb_cl (tb_mt 56) (tb_mj 56).1 (tb_mj 56).2 := am_vJ0 ⟨(tb_i3 (i := 10) rfl rfl), (tb_i1 (i := 2) rfl rfl), tb_pn1.1, tb_pn1.2.1, tb_pn1.2.2⟩ (tb_i3 (i := 9) rfl rfl) tb_ds32
set_option maxRecDepth 100000 in
theorem tb_j57 : am_vJ tb_tbl tb_cl (tb_mt 57) (tb_mj 57).1 (tb_mj 57).2 := am_vJ2 ⟨(tb_i2 (i := 231) rfl rfl), (tb_i1 (i := 2) rfl rfl), tb_pn1.1, tb_pn1.2.1, tb_pn1.2.2⟩ (tb_i2 (i := 229) rfl rfl) (tb_i2 (i := 230) rfl rfl) tb_ds31 rfl rfl
set_option maxRecDepth 100000 in
theorem tb_j58 : am_vJ tb_tbl tb_cl (tb_mt 58) (tb_mj 58).1 (tb_mj 58).2 := am_vJ2 ⟨(tb_i3 (i := 22) rfl rfl), (tb_i1 (i := 2) rfl rfl), tb_pn1.1, tb_pn1.2.1, tb_pn1.2.2⟩ (tb_i3 (i := 21) rfl rfl) (tb_i0 (i := 10) rfl rfl) tb_ds31 rfl rfl
set_option maxRecDepth 100000 in
theorem tb_j59 : am_vJ tb_tbl tb_cl (tb_mt 59) (tb_mj 59).1 (tb_mj 59).2 := am_vJ2 ⟨(tb_i3 (i := 26) rfl rfl), (tb_i1 (i := 2) rfl rfl), tb_pn1.1, tb_pn1.2.1, tb_pn1.2.2⟩ (tb_i3 (i := 25) rfl rfl) (tb_i0 (i := 11) rfl rfl) tb_ds31 rfl rfl
set_option maxRecDepth 100000 in
theorem tb_j60 : am_vJ tb_tbl tb_cl (tb_mt 60) (tb_mj 60).1 (tb_mj 60).2 := am_vJ2 ⟨(tb_i3 (i := 14) rfl rfl), (tb_i1 (i := 2) rfl rfl), tb_pn1.1, tb_pn1.2.1, tb_pn1.2.2⟩ (tb_i3 (i := 13) rfl rfl) (tb_i0 (i := 9) rfl rfl) tb_ds28 rfl rfl
set_option maxRecDepth 100000 in
theorem tb_j61 : am_vJ tb_tbl tb_cl (tb_mt 61) (tb_mj 61).1 (tb_mj 61).2 := am_vJ2 ⟨(tb_i3 (i := 7) rfl rfl), (tb_i1 (i := 2) rfl rfl), tb_pn1.1, tb_pn1.2.1, tb_pn1.2.2⟩ (tb_i3 (i := 6) rfl rfl) (tb_i0 (i := 8) rfl rfl) tb_ds31 rfl rfl
set_option maxRecDepth 100000 in
theorem tb_j62 : am_vJ tb_tbl tb_cl (tb_mt 62) (tb_mj 62).1 (tb_mj 62).2 := am_vJ2 ⟨(tb_i3 (i := 110) rfl rfl), (tb_i1 (i := 2) rfl rfl), tb_pn1.1, tb_pn1.2.1, tb_pn1.2.2⟩ (tb_i3 (i := 108) rfl rfl) (tb_i3 (i := 109) rfl rfl) tb_ds31 rfl rfl
set_option maxRecDepth 100000 in
theorem tb_j63 : am_vJ tb_tbl tb_cl (tb_mt 63) (tb_mj 63).1 (tb_mj 63).2 := am_vJ2 ⟨(tb_i2 (i := 235) rfl rfl), (tb_i1 (i := 2) rfl rfl), tb_pn1.1, tb_pn1.2.1, tb_pn1.2.2⟩ (tb_i2 (i := 234) rfl rfl) (tb_i0 (i := 5) rfl rfl) tb_ds31 rfl rfl
set_option maxRecDepth 100000 in
theorem tb_j64 : am_vJ tb_tbl tb_cl (tb_mt 64) (tb_mj 64).1 (tb_mj 64).2 := am_vJ2 ⟨(tb_i3 (i := 3) rfl rfl), (tb_i1 (i := 2) rfl rfl), tb_pn1.1, tb_pn1.2.1, tb_pn1.2.2⟩ (tb_i3 (i := 2) rfl rfl) (tb_i0 (i := 7) rfl rfl) tb_ds31 rfl rfl
set_option maxRecDepth 100000 in
theorem tb_j65 : am_vJ tb_tbl tb_cl (tb_mt 65) (tb_mj 65).1 (tb_mj 65).2 := am_vJ1 ⟨(tb_i1 (i := 143) rfl rfl), (tb_i1 (i := 7) rfl rfl), tb_pn5.1, tb_pn5.2.1, tb_pn5.2.2⟩ (tb_i1 (i := 142) rfl rfl) rfl rfl tb_ds0
set_option maxRecDepth 100000 in
theorem tb_j66 : am_vJ tb_tbl tb_cl (tb_mt 66) (tb_mj 66).1 (tb_mj 66).2 := am_vJ2 ⟨(tb_i4 (i := 49) rfl rfl), (tb_i1 (i := 7) rfl rfl), tb_pn5.1, tb_pn5.2.1, tb_pn5.2.2⟩ (tb_i4 (i := 47) rfl rfl) (tb_i4 (i := 48) rfl rfl) tb_ds15 rfl rfl
set_option maxRecDepth 100000 in
theorem tb_j67 : am_vJ tb_tbl tb_cl (tb_mt 67) (tb_mj 67).1 (tb_mj 67).2 := am_vJ2 ⟨(tb_i2 (i := 86) rfl rfl), (tb_i1 (i := 7) rfl rfl), tb_pn5.1, tb_pn5.2.1, tb_pn5.2.2⟩ (tb_i2 (i := 85) rfl rfl) (tb_i0 (i := 0) rfl rfl) tb_ds9 rfl rfl
theorem tb_ds33 : (parseMethodDescriptor "(IIIIII)V").map (fun d => d.parameters.length + 1) = some 7 := by decide +kernel
set_option maxRecDepth 100000 in
theorem tb_j68 : am_vJ tb_tbl tb_cl (tb_mt 68) (tb_mj 68).1 (tb_mj 68).2 := am_vJ2 ⟨(tb_i2 (i := 82) rfl rfl), (tb_i1 (i := 7) rfl rfl), tb_pn5.1, tb_pn5.2.1, tb_pn5.2.2⟩ (tb_i2 (i := 80) rfl rfl) (tb_i2 (i := 81) rfl rfl) tb_ds33 rfl rfl
theorem tb_ds34 : (parseMethodDescriptor "(LFlagMachine$Stretch;I)V").map (fun d => d.parameters.length + 1) = some 3 := by decide +kernel
set_option maxRecDepth 100000 in
theorem tb_j69 : am_vJ tb_tbl tb_cl (tb_mt 69) (tb_mj 69).1 (tb_mj 69).2 := am_vJ2 ⟨(tb_i2 (i := 91) rfl rfl), (tb_i1 (i := 7) rfl rfl), tb_pn5.1, tb_pn5.2.1, tb_pn5.2.2⟩ (tb_i2 (i := 89) rfl rfl) (tb_i2 (i := 90) rfl rfl) tb_ds34 rfl rfl
set_option maxRecDepth 100000 in
theorem tb_j70 : am_vJ tb_tbl tb_cl (tb_mt 70) (tb_mj 70).1 (tb_mj 70).2 := am_vJ2 ⟨(tb_i4 (i := 40) rfl rfl), (tb_i1 (i := 7) rfl rfl), tb_pn5.1, tb_pn5.2.1, tb_pn5.2.2⟩ (tb_i4 (i := 38) rfl rfl) (tb_i4 (i := 39) rfl rfl) tb_ds8 rfl rfl
theorem tb_ds35 : (parseMethodDescriptor "(JII)I").map (fun d => d.parameters.length + 1) = some 4 := by decide +kernel
set_option maxRecDepth 100000 in
theorem tb_j71 : am_vJ tb_tbl tb_cl (tb_mt 71) (tb_mj 71).1 (tb_mj 71).2 := am_vJ2 ⟨(tb_i3 (i := 68) rfl rfl), (tb_i1 (i := 7) rfl rfl), tb_pn5.1, tb_pn5.2.1, tb_pn5.2.2⟩ (tb_i3 (i := 66) rfl rfl) (tb_i3 (i := 67) rfl rfl) tb_ds35 rfl rfl
set_option maxRecDepth 100000 in
theorem tb_j72 : am_vJ tb_tbl tb_cl (tb_mt 72) (tb_mj 72).1 (tb_mj 72).2 := am_vJ0 ⟨(tb_i3 (i := 71) rfl rfl), (tb_i1 (i := 7) rfl rfl), tb_pn5.1, tb_pn5.2.1, tb_pn5.2.2⟩ (tb_i3 (i := 70) rfl rfl) tb_ds17
set_option maxRecDepth 100000 in
theorem tb_j73 : am_vJ tb_tbl tb_cl (tb_mt 73) (tb_mj 73).1 (tb_mj 73).2 := am_vJ1 ⟨(tb_i2 (i := 38) rfl rfl), (tb_i1 (i := 11) rfl rfl), tb_pn9.1, tb_pn9.2.1, tb_pn9.2.2⟩ (tb_i2 (i := 37) rfl rfl) rfl rfl tb_ds16
set_option maxRecDepth 100000 in
theorem tb_j74 : am_vJ tb_tbl tb_cl (tb_mt 74) (tb_mj 74).1 (tb_mj 74).2 := am_vJ2 ⟨(tb_i4 (i := 87) rfl rfl), (tb_i1 (i := 11) rfl rfl), tb_pn9.1, tb_pn9.2.1, tb_pn9.2.2⟩ (tb_i4 (i := 86) rfl rfl) (tb_i0 (i := 34) rfl rfl) tb_ds8 rfl rfl
set_option maxRecDepth 100000 in
theorem tb_j75 : am_vJ tb_tbl tb_cl (tb_mt 75) (tb_mj 75).1 (tb_mj 75).2 := am_vJ2 ⟨(tb_i4 (i := 91) rfl rfl), (tb_i1 (i := 11) rfl rfl), tb_pn9.1, tb_pn9.2.1, tb_pn9.2.2⟩ (tb_i4 (i := 90) rfl rfl) (tb_i0 (i := 35) rfl rfl) tb_ds0 rfl rfl
set_option maxRecDepth 100000 in
theorem tb_j76 : am_vJ tb_tbl tb_cl (tb_mt 76) (tb_mj 76).1 (tb_mj 76).2 := am_vJ2 ⟨(tb_i4 (i := 60) rfl rfl), (tb_i1 (i := 11) rfl rfl), tb_pn9.1, tb_pn9.2.1, tb_pn9.2.2⟩ (tb_i4 (i := 59) rfl rfl) (tb_i0 (i := 29) rfl rfl) tb_ds0 rfl rfl
set_option maxRecDepth 100000 in
theorem tb_j77 : am_vJ tb_tbl tb_cl (tb_mt 77) (tb_mj 77).1 (tb_mj 77).2 := am_vJ2 ⟨(tb_i4 (i := 83) rfl rfl), (tb_i1 (i := 11) rfl rfl), tb_pn9.1, tb_pn9.2.1, tb_pn9.2.2⟩ (tb_i4 (i := 82) rfl rfl) (tb_i0 (i := 33) rfl rfl) tb_ds8 rfl rfl
set_option maxRecDepth 100000 in
theorem tb_j78 : am_vJ tb_tbl tb_cl (tb_mt 78) (tb_mj 78).1 (tb_mj 78).2 := am_vJ2 ⟨(tb_i4 (i := 111) rfl rfl), (tb_i1 (i := 11) rfl rfl), tb_pn9.1, tb_pn9.2.1, tb_pn9.2.2⟩ (tb_i4 (i := 110) rfl rfl) (tb_i0 (i := 39) rfl rfl) tb_ds0 rfl rfl
set_option maxRecDepth 100000 in
theorem tb_j79 : am_vJ tb_tbl tb_cl (tb_mt 79) (tb_mj 79).1 (tb_mj 79).2 := am_vJ2 ⟨(tb_i4 (i := 107) rfl rfl), (tb_i1 (i := 11) rfl rfl), tb_pn9.1, tb_pn9.2.1, tb_pn9.2.2⟩ (tb_i4 (i := 106) rfl rfl) (tb_i0 (i := 38) rfl rfl) tb_ds8 rfl rfl
theorem tb_ds36 : (parseMethodDescriptor "(ZZ)V").map (fun d => d.parameters.length + 1) = some 3 := by decide +kernel
set_option maxRecDepth 100000 in
theorem tb_j80 : am_vJ tb_tbl tb_cl (tb_mt 80) (tb_mj 80).1 (tb_mj 80).2 := am_vJ2 ⟨(tb_i4 (i := 115) rfl rfl), (tb_i1 (i := 11) rfl rfl), tb_pn9.1, tb_pn9.2.1, tb_pn9.2.2⟩ (tb_i4 (i := 114) rfl rfl) (tb_i0 (i := 40) rfl rfl) tb_ds36 rfl rfl
set_option maxRecDepth 100000 in
theorem tb_j81 : am_vJ tb_tbl tb_cl (tb_mt 81) (tb_mj 81).1 (tb_mj 81).2 := am_vJ2 ⟨(tb_i4 (i := 56) rfl rfl), (tb_i1 (i := 11) rfl rfl), tb_pn9.1, tb_pn9.2.1, tb_pn9.2.2⟩ (tb_i4 (i := 54) rfl rfl) (tb_i4 (i := 55) rfl rfl) tb_ds19 rfl rfl
set_option maxRecDepth 100000 in
theorem tb_j82 : am_vJ tb_tbl tb_cl (tb_mt 82) (tb_mj 82).1 (tb_mj 82).2 := am_vJ2 ⟨(tb_i4 (i := 72) rfl rfl), (tb_i1 (i := 11) rfl rfl), tb_pn9.1, tb_pn9.2.1, tb_pn9.2.2⟩ (tb_i4 (i := 71) rfl rfl) (tb_i0 (i := 31) rfl rfl) tb_ds0 rfl rfl
set_option maxRecDepth 100000 in
theorem tb_j83 : am_vJ tb_tbl tb_cl (tb_mt 83) (tb_mj 83).1 (tb_mj 83).2 := am_vJ2 ⟨(tb_i4 (i := 66) rfl rfl), (tb_i1 (i := 11) rfl rfl), tb_pn9.1, tb_pn9.2.1, tb_pn9.2.2⟩ (tb_i4 (i := 65) rfl rfl) (tb_i0 (i := 30) rfl rfl) tb_ds0 rfl rfl
set_option maxRecDepth 100000 in
theorem tb_j84 : am_vJ tb_tbl tb_cl (tb_mt 84) (tb_mj 84).1 (tb_mj 84).2 := am_vJ2 ⟨(tb_i4 (i := 79) rfl rfl), (tb_i1 (i := 11) rfl rfl), tb_pn9.1, tb_pn9.2.1, tb_pn9.2.2⟩ (tb_i4 (i := 78) rfl rfl) (tb_i0 (i := 32) rfl rfl) tb_ds15 rfl rfl
set_option maxRecDepth 100000 in
theorem tb_j85 : am_vJ tb_tbl tb_cl (tb_mt 85) (tb_mj 85).1 (tb_mj 85).2 := am_vJ2 ⟨(tb_i4 (i := 103) rfl rfl), (tb_i1 (i := 11) rfl rfl), tb_pn9.1, tb_pn9.2.1, tb_pn9.2.2⟩ (tb_i4 (i := 102) rfl rfl) (tb_i0 (i := 37) rfl rfl) tb_ds15 rfl rfl
set_option maxRecDepth 100000 in
theorem tb_j86 : am_vJ tb_tbl tb_cl (tb_mt 86) (tb_mj 86).1 (tb_mj 86).2 := am_vJ2 ⟨(tb_i4 (i := 120) rfl rfl), (tb_i1 (i := 11) rfl rfl), tb_pn9.1, tb_pn9.2.1, tb_pn9.2.2⟩ (tb_i4 (i := 119) rfl rfl) (tb_i0 (i := 41) rfl rfl) tb_ds12 rfl rfl
theorem tb_ds37 : (parseMethodDescriptor "(ILFlagMachine$Page;)V").map (fun d => d.parameters.length + 1) = some 3 := by decide +kernel
set_option maxRecDepth 100000 in
theorem tb_j87 : am_vJ tb_tbl tb_cl (tb_mt 87) (tb_mj 87).1 (tb_mj 87).2 := am_vJ1 ⟨(tb_i2 (i := 121) rfl rfl), (tb_i1 (i := 14) rfl rfl), tb_pn11.1, tb_pn11.2.1, tb_pn11.2.2⟩ (tb_i2 (i := 120) rfl rfl) rfl rfl tb_ds37
set_option maxRecDepth 100000 in
theorem tb_j88 : am_vJ tb_tbl tb_cl (tb_mt 88) (tb_mj 88).1 (tb_mj 88).2 := am_vJ1 ⟨(tb_i1 (i := 237) rfl rfl), (tb_i1 (i := 9) rfl rfl), tb_pn7.1, tb_pn7.2.1, tb_pn7.2.2⟩ (tb_i1 (i := 236) rfl rfl) rfl rfl tb_ds16
set_option maxRecDepth 100000 in
theorem tb_j89 : am_vJ tb_tbl tb_cl (tb_mt 89) (tb_mj 89).1 (tb_mj 89).2 := am_vJ2 ⟨(tb_i3 (i := 183) rfl rfl), (tb_i1 (i := 9) rfl rfl), tb_pn7.1, tb_pn7.2.1, tb_pn7.2.2⟩ (tb_i3 (i := 182) rfl rfl) (tb_i0 (i := 18) rfl rfl) tb_ds20 rfl rfl
set_option maxRecDepth 100000 in
theorem tb_j90 : am_vJ tb_tbl tb_cl (tb_mt 90) (tb_mj 90).1 (tb_mj 90).2 := am_vJ2 ⟨(tb_i3 (i := 188) rfl rfl), (tb_i1 (i := 9) rfl rfl), tb_pn7.1, tb_pn7.2.1, tb_pn7.2.2⟩ (tb_i3 (i := 187) rfl rfl) (tb_i0 (i := 19) rfl rfl) tb_ds5 rfl rfl
set_option maxRecDepth 100000 in
theorem tb_j91 : am_vJ tb_tbl tb_cl (tb_mt 91) (tb_mj 91).1 (tb_mj 91).2 := am_vJ2 ⟨(tb_i3 (i := 193) rfl rfl), (tb_i1 (i := 9) rfl rfl), tb_pn7.1, tb_pn7.2.1, tb_pn7.2.2⟩ (tb_i3 (i := 192) rfl rfl) (tb_i0 (i := 20) rfl rfl) tb_ds5 rfl rfl
theorem tb_ds38 : (parseMethodDescriptor "(JJ)J").map (fun d => d.parameters.length) = some 2 := by decide +kernel
set_option maxRecDepth 100000 in
theorem tb_j92 : am_vJ tb_tbl tb_cl (tb_mt 92) (tb_mj 92).1 (tb_mj 92).2 := am_vJ0 ⟨(tb_i3 (i := 165) rfl rfl), (tb_i1 (i := 9) rfl rfl), tb_pn7.1, tb_pn7.2.1, tb_pn7.2.2⟩ (tb_i3 (i := 164) rfl rfl) tb_ds38
theorem tb_ds39 : (parseMethodDescriptor "(JJIZ)V").map (fun d => d.parameters.length + 1) = some 5 := by decide +kernel
set_option maxRecDepth 100000 in
theorem tb_j93 : am_vJ tb_tbl tb_cl (tb_mt 93) (tb_mj 93).1 (tb_mj 93).2 := am_vJ2 ⟨(tb_i3 (i := 161) rfl rfl), (tb_i1 (i := 9) rfl rfl), tb_pn7.1, tb_pn7.2.1, tb_pn7.2.2⟩ (tb_i3 (i := 160) rfl rfl) (tb_i0 (i := 16) rfl rfl) tb_ds39 rfl rfl
set_option maxRecDepth 100000 in
theorem tb_j94 : am_vJ tb_tbl tb_cl (tb_mt 94) (tb_mj 94).1 (tb_mj 94).2 := am_vJ2 ⟨(tb_i3 (i := 202) rfl rfl), (tb_i1 (i := 9) rfl rfl), tb_pn7.1, tb_pn7.2.1, tb_pn7.2.2⟩ (tb_i3 (i := 201) rfl rfl) (tb_i0 (i := 21) rfl rfl) tb_ds0 rfl rfl
set_option maxRecDepth 100000 in
theorem tb_j95 : am_vJ tb_tbl tb_cl (tb_mt 95) (tb_mj 95).1 (tb_mj 95).2 := am_vJ2 ⟨(tb_i3 (i := 155) rfl rfl), (tb_i1 (i := 9) rfl rfl), tb_pn7.1, tb_pn7.2.1, tb_pn7.2.2⟩ (tb_i3 (i := 154) rfl rfl) (tb_i0 (i := 15) rfl rfl) tb_ds20 rfl rfl
set_option maxRecDepth 100000 in
theorem tb_j96 : am_vJ tb_tbl tb_cl (tb_mt 96) (tb_mj 96).1 (tb_mj 96).2 := am_vJ2 ⟨(tb_i3 (i := 151) rfl rfl), (tb_i1 (i := 9) rfl rfl), tb_pn7.1, tb_pn7.2.1, tb_pn7.2.2⟩ (tb_i3 (i := 149) rfl rfl) (tb_i3 (i := 150) rfl rfl) tb_ds19 rfl rfl
theorem tb_ds40 : (parseMethodDescriptor "(JJ)V").map (fun d => d.parameters.length + 1) = some 3 := by decide +kernel
set_option maxRecDepth 100000 in
theorem tb_j97 : am_vJ tb_tbl tb_cl (tb_mt 97) (tb_mj 97).1 (tb_mj 97).2 := am_vJ2 ⟨(tb_i3 (i := 170) rfl rfl), (tb_i1 (i := 9) rfl rfl), tb_pn7.1, tb_pn7.2.1, tb_pn7.2.2⟩ (tb_i3 (i := 169) rfl rfl) (tb_i0 (i := 17) rfl rfl) tb_ds40 rfl rfl
set_option maxRecDepth 100000 in
theorem tb_j98 : am_vJ tb_tbl tb_cl (tb_mt 98) (tb_mj 98).1 (tb_mj 98).2 := am_vJ0 ⟨(tb_i3 (i := 174) rfl rfl), (tb_i1 (i := 9) rfl rfl), tb_pn7.1, tb_pn7.2.1, tb_pn7.2.2⟩ (tb_i3 (i := 173) rfl rfl) tb_ds14
set_option maxRecDepth 100000 in
theorem tb_j99 : am_vJ tb_tbl tb_cl (tb_mt 99) (tb_mj 99).1 (tb_mj 99).2 := am_vJ1 ⟨(tb_i2 (i := 51) rfl rfl), (tb_i1 (i := 12) rfl rfl), tb_pn10.1, tb_pn10.2.1, tb_pn10.2.2⟩ (tb_i2 (i := 50) rfl rfl) rfl rfl tb_ds16
set_option maxRecDepth 100000 in
theorem tb_j100 : am_vJ tb_tbl tb_cl (tb_mt 100) (tb_mj 100).1 (tb_mj 100).2 := am_vJ2 ⟨(tb_i4 (i := 147) rfl rfl), (tb_i1 (i := 12) rfl rfl), tb_pn10.1, tb_pn10.2.1, tb_pn10.2.2⟩ (tb_i4 (i := 145) rfl rfl) (tb_i4 (i := 146) rfl rfl) tb_ds5 rfl rfl
theorem tb_ds41 : (parseMethodDescriptor "(JJ)J").map (fun d => d.parameters.length + 1) = some 3 := by decide +kernel
set_option maxRecDepth 100000 in
theorem tb_j101 : am_vJ tb_tbl tb_cl (tb_mt 101) (tb_mj 101).1 (tb_mj 101).2 := am_vJ2 ⟨(tb_i4 (i := 27) rfl rfl), (tb_i1 (i := 12) rfl rfl), tb_pn10.1, tb_pn10.2.1, tb_pn10.2.2⟩ (tb_i4 (i := 26) rfl rfl) (tb_i0 (i := 28) rfl rfl) tb_ds41 rfl rfl
set_option maxRecDepth 100000 in
theorem tb_j102 : am_vJ tb_tbl tb_cl (tb_mt 102) (tb_mj 102).1 (tb_mj 102).2 := am_vJ2 ⟨(tb_i4 (i := 155) rfl rfl), (tb_i1 (i := 12) rfl rfl), tb_pn10.1, tb_pn10.2.1, tb_pn10.2.2⟩ (tb_i4 (i := 153) rfl rfl) (tb_i4 (i := 154) rfl rfl) tb_ds4 rfl rfl
set_option maxRecDepth 100000 in
theorem tb_j103 : am_vJ tb_tbl tb_cl (tb_mt 103) (tb_mj 103).1 (tb_mj 103).2 := am_vJ2 ⟨(tb_i4 (i := 7) rfl rfl), (tb_i1 (i := 12) rfl rfl), tb_pn10.1, tb_pn10.2.1, tb_pn10.2.2⟩ (tb_i4 (i := 5) rfl rfl) (tb_i4 (i := 6) rfl rfl) tb_ds0 rfl rfl
set_option maxRecDepth 100000 in
theorem tb_j104 : am_vJ tb_tbl tb_cl (tb_mt 104) (tb_mj 104).1 (tb_mj 104).2 := am_vJ2 ⟨(tb_i2 (i := 166) rfl rfl), (tb_i1 (i := 12) rfl rfl), tb_pn10.1, tb_pn10.2.1, tb_pn10.2.2⟩ (tb_i2 (i := 164) rfl rfl) (tb_i2 (i := 165) rfl rfl) tb_ds0 rfl rfl
set_option maxRecDepth 100000 in
theorem tb_j105 : am_vJ tb_tbl tb_cl (tb_mt 105) (tb_mj 105).1 (tb_mj 105).2 := am_vJ2 ⟨(tb_i4 (i := 15) rfl rfl), (tb_i1 (i := 12) rfl rfl), tb_pn10.1, tb_pn10.2.1, tb_pn10.2.2⟩ (tb_i4 (i := 14) rfl rfl) (tb_i0 (i := 27) rfl rfl) tb_ds41 rfl rfl
set_option maxRecDepth 100000 in
theorem tb_j106 : am_vJ tb_tbl tb_cl (tb_mt 106) (tb_mj 106).1 (tb_mj 106).2 := am_vJ1 ⟨(tb_i1 (i := 92) rfl rfl), (tb_i1 (i := 3) rfl rfl), tb_pn2.1, tb_pn2.2.1, tb_pn2.2.2⟩ (tb_i1 (i := 91) rfl rfl) rfl rfl tb_ds19
set_option maxRecDepth 100000 in
theorem tb_j107 : am_vJ tb_tbl tb_cl (tb_mt 107) (tb_mj 107).1 (tb_mj 107).2 := am_vJ2 ⟨(tb_i2 (i := 95) rfl rfl), (tb_i1 (i := 3) rfl rfl), tb_pn2.1, tb_pn2.2.1, tb_pn2.2.2⟩ (tb_i2 (i := 93) rfl rfl) (tb_i2 (i := 94) rfl rfl) tb_ds34 rfl rfl
set_option maxRecDepth 100000 in
theorem tb_j108 : am_vJ tb_tbl tb_cl (tb_mt 108) (tb_mj 108).1 (tb_mj 108).2 := am_vJ2 ⟨(tb_i4 (i := 22) rfl rfl), (tb_i1 (i := 3) rfl rfl), tb_pn2.1, tb_pn2.2.1, tb_pn2.2.2⟩ (tb_i4 (i := 20) rfl rfl) (tb_i4 (i := 21) rfl rfl) tb_ds4 rfl rfl
set_option maxRecDepth 100000 in
theorem tb_j109 : am_vJ tb_tbl tb_cl (tb_mt 109) (tb_mj 109).1 (tb_mj 109).2 := am_vJ2 ⟨(tb_i2 (i := 99) rfl rfl), (tb_i1 (i := 3) rfl rfl), tb_pn2.1, tb_pn2.2.1, tb_pn2.2.2⟩ (tb_i2 (i := 97) rfl rfl) (tb_i2 (i := 98) rfl rfl) tb_ds0 rfl rfl
theorem tb_ds42 : (parseMethodDescriptor "(II)V").map (fun d => d.parameters.length + 1) = some 3 := by decide +kernel
set_option maxRecDepth 100000 in
theorem tb_j110 : am_vJ tb_tbl tb_cl (tb_mt 110) (tb_mj 110).1 (tb_mj 110).2 := am_vJ2 ⟨(tb_i4 (i := 45) rfl rfl), (tb_i1 (i := 3) rfl rfl), tb_pn2.1, tb_pn2.2.1, tb_pn2.2.2⟩ (tb_i4 (i := 43) rfl rfl) (tb_i4 (i := 44) rfl rfl) tb_ds42 rfl rfl
set_option maxRecDepth 100000 in
theorem tb_j111 : am_vJ tb_tbl tb_cl (tb_mt 111) (tb_mj 111).1 (tb_mj 111).2 := am_vJ2 ⟨(tb_i2 (i := 140) rfl rfl), (tb_i1 (i := 3) rfl rfl), tb_pn2.1, tb_pn2.2.1, tb_pn2.2.2⟩ (tb_i2 (i := 139) rfl rfl) (tb_i0 (i := 4) rfl rfl) tb_ds42 rfl rfl
theorem tb_ds43 : (parseMethodDescriptor "(LFlagMachine$Stretch;III)V").map (fun d => d.parameters.length + 1) = some 5 := by decide +kernel
set_option maxRecDepth 100000 in
theorem tb_j112 : am_vJ tb_tbl tb_cl (tb_mt 112) (tb_mj 112).1 (tb_mj 112).2 := am_vJ2 ⟨(tb_i4 (i := 32) rfl rfl), (tb_i1 (i := 3) rfl rfl), tb_pn2.1, tb_pn2.2.1, tb_pn2.2.2⟩ (tb_i4 (i := 30) rfl rfl) (tb_i4 (i := 31) rfl rfl) tb_ds43 rfl rfl
set_option maxRecDepth 100000 in
theorem tb_j113 : am_vJ tb_tbl tb_cl (tb_mt 113) (tb_mj 113).1 (tb_mj 113).2 := am_vJ2 ⟨(tb_i2 (i := 109) rfl rfl), (tb_i1 (i := 3) rfl rfl), tb_pn2.1, tb_pn2.2.1, tb_pn2.2.2⟩ (tb_i2 (i := 108) rfl rfl) (tb_i0 (i := 1) rfl rfl) tb_ds43 rfl rfl
theorem tb_ds44 : (parseMethodDescriptor "(I)LFlagMachine$Page;").map (fun d => d.parameters.length + 1) = some 2 := by decide +kernel
set_option maxRecDepth 100000 in
theorem tb_j114 : am_vJ tb_tbl tb_cl (tb_mt 114) (tb_mj 114).1 (tb_mj 114).2 := am_vJ2 ⟨(tb_i2 (i := 113) rfl rfl), (tb_i1 (i := 3) rfl rfl), tb_pn2.1, tb_pn2.2.1, tb_pn2.2.2⟩ (tb_i2 (i := 112) rfl rfl) (tb_i0 (i := 2) rfl rfl) tb_ds44 rfl rfl
set_option maxRecDepth 100000 in
theorem tb_j115 : am_vJ tb_tbl tb_cl (tb_mt 115) (tb_mj 115).1 (tb_mj 115).2 := am_vJ2 ⟨(tb_i2 (i := 117) rfl rfl), (tb_i1 (i := 3) rfl rfl), tb_pn2.1, tb_pn2.2.1, tb_pn2.2.2⟩ (tb_i2 (i := 116) rfl rfl) (tb_i0 (i := 3) rfl rfl) tb_ds44 rfl rfl
set_option maxRecDepth 100000 in
theorem tb_j116 : am_vJ tb_tbl tb_cl (tb_mt 116) (tb_mj 116).1 (tb_mj 116).2 := am_vJ2 ⟨(tb_i2 (i := 207) rfl rfl), (tb_i1 (i := 3) rfl rfl), tb_pn2.1, tb_pn2.2.1, tb_pn2.2.2⟩ (tb_i2 (i := 205) rfl rfl) (tb_i2 (i := 206) rfl rfl) tb_ds42 rfl rfl
set_option maxRecDepth 100000 in
theorem tb_j117 : am_vJ tb_tbl tb_cl (tb_mt 117) (tb_mj 117).1 (tb_mj 117).2 := am_vJ2 ⟨(tb_i3 (i := 106) rfl rfl), (tb_i1 (i := 3) rfl rfl), tb_pn2.1, tb_pn2.2.1, tb_pn2.2.2⟩ (tb_i3 (i := 104) rfl rfl) (tb_i3 (i := 105) rfl rfl) tb_ds25 rfl rfl
theorem tb_ds45 : (parseMethodDescriptor "(I)I").map (fun d => d.parameters.length) = some 1 := by decide +kernel
set_option maxRecDepth 100000 in
theorem tb_j118 : am_vJ tb_tbl tb_cl (tb_mt 118) (tb_mj 118).1 (tb_mj 118).2 := am_vJ0 ⟨(tb_i4 (i := 35) rfl rfl), (tb_i1 (i := 3) rfl rfl), tb_pn2.1, tb_pn2.2.1, tb_pn2.2.2⟩ (tb_i4 (i := 34) rfl rfl) tb_ds45
set_option maxRecDepth 100000 in
theorem tb_j119 : am_vJ tb_tbl tb_cl (tb_mt 119) (tb_mj 119).1 (tb_mj 119).2 := am_vJ2 ⟨(tb_i3 (i := 83) rfl rfl), (tb_i1 (i := 3) rfl rfl), tb_pn2.1, tb_pn2.2.1, tb_pn2.2.2⟩ (tb_i3 (i := 81) rfl rfl) (tb_i3 (i := 82) rfl rfl) tb_ds23 rfl rfl
set_option maxRecDepth 100000 in
theorem tb_j120 : am_vJ tb_tbl tb_cl (tb_mt 120) (tb_mj 120).1 (tb_mj 120).2 := am_vJ1 ⟨(tb_i1 (i := 221) rfl rfl), (tb_i1 (i := 8) rfl rfl), tb_pn6.1, tb_pn6.2.1, tb_pn6.2.2⟩ (tb_i1 (i := 220) rfl rfl) rfl rfl tb_ds16
set_option maxRecDepth 100000 in
theorem tb_j121 : am_vJ tb_tbl tb_cl (tb_mt 121) (tb_mj 121).1 (tb_mj 121).2 := am_vJ2 ⟨(tb_i3 (i := 145) rfl rfl), (tb_i1 (i := 8) rfl rfl), tb_pn6.1, tb_pn6.2.1, tb_pn6.2.2⟩ (tb_i3 (i := 143) rfl rfl) (tb_i3 (i := 144) rfl rfl) tb_ds0 rfl rfl
set_option maxRecDepth 100000 in
theorem tb_j122 : am_vJ tb_tbl tb_cl (tb_mt 122) (tb_mj 122).1 (tb_mj 122).2 := am_vJ2 ⟨(tb_i3 (i := 48) rfl rfl), (tb_i1 (i := 8) rfl rfl), tb_pn6.1, tb_pn6.2.1, tb_pn6.2.2⟩ (tb_i3 (i := 46) rfl rfl) (tb_i3 (i := 47) rfl rfl) tb_ds19 rfl rfl
theorem tb_ds46 : (parseMethodDescriptor "(IJJ)J").map (fun d => d.parameters.length + 1) = some 4 := by decide +kernel
set_option maxRecDepth 100000 in
theorem tb_j123 : am_vJ tb_tbl tb_cl (tb_mt 123) (tb_mj 123).1 (tb_mj 123).2 := am_vJ2 ⟨(tb_i3 (i := 87) rfl rfl), (tb_i1 (i := 8) rfl rfl), tb_pn6.1, tb_pn6.2.1, tb_pn6.2.2⟩ (tb_i3 (i := 86) rfl rfl) (tb_i0 (i := 13) rfl rfl) tb_ds46 rfl rfl
theorem tb_ds47 : (parseMethodDescriptor "(IJJJ)V").map (fun d => d.parameters.length + 1) = some 5 := by decide +kernel
set_option maxRecDepth 100000 in
theorem tb_j124 : am_vJ tb_tbl tb_cl (tb_mt 124) (tb_mj 124).1 (tb_mj 124).2 := am_vJ2 ⟨(tb_i3 (i := 114) rfl rfl), (tb_i1 (i := 8) rfl rfl), tb_pn6.1, tb_pn6.2.1, tb_pn6.2.2⟩ (tb_i3 (i := 113) rfl rfl) (tb_i0 (i := 14) rfl rfl) tb_ds47 rfl rfl
set_option maxRecDepth 100000 in
theorem tb_j125 : am_vJ tb_tbl tb_cl (tb_mt 125) (tb_mj 125).1 (tb_mj 125).2 := am_vJ1 ⟨(tb_i4 (i := 170) rfl rfl), (tb_i1 (i := 16) rfl rfl), tb_pn12.1, tb_pn12.2.1, tb_pn12.2.2⟩ (tb_i4 (i := 169) rfl rfl) rfl rfl tb_ds0
theorem tb_ds48 : (parseMethodDescriptor "(JJZI)J").map (fun d => d.parameters.length + 1) = some 5 := by decide +kernel
set_option maxRecDepth 100000 in
theorem tb_j126 : am_vJ tb_tbl tb_cl (tb_mt 126) (tb_mj 126).1 (tb_mj 126).2 := am_vJ2 ⟨(tb_i5 (i := 196) rfl rfl), (tb_i1 (i := 16) rfl rfl), tb_pn12.1, tb_pn12.2.1, tb_pn12.2.2⟩ (tb_i5 (i := 195) rfl rfl) (tb_i0 (i := 64) rfl rfl) tb_ds48 rfl rfl
set_option maxRecDepth 100000 in
theorem tb_j127 : am_vJ tb_tbl tb_cl (tb_mt 127) (tb_mj 127).1 (tb_mj 127).2 := am_vJ2 ⟨(tb_i5 (i := 143) rfl rfl), (tb_i1 (i := 16) rfl rfl), tb_pn12.1, tb_pn12.2.1, tb_pn12.2.2⟩ (tb_i5 (i := 142) rfl rfl) (tb_i0 (i := 53) rfl rfl) tb_ds15 rfl rfl
set_option maxRecDepth 100000 in
theorem tb_j128 : am_vJ tb_tbl tb_cl (tb_mt 128) (tb_mj 128).1 (tb_mj 128).2 := am_vJ2 ⟨(tb_i4 (i := 177) rfl rfl), (tb_i1 (i := 16) rfl rfl), tb_pn12.1, tb_pn12.2.1, tb_pn12.2.2⟩ (tb_i4 (i := 176) rfl rfl) (tb_i0 (i := 43) rfl rfl) tb_ds33 rfl rfl
set_option maxRecDepth 100000 in
theorem tb_j129 : am_vJ tb_tbl tb_cl (tb_mt 129) (tb_mj 129).1 (tb_mj 129).2 := am_vJ2 ⟨(tb_i5 (i := 151) rfl rfl), (tb_i1 (i := 16) rfl rfl), tb_pn12.1, tb_pn12.2.1, tb_pn12.2.2⟩ (tb_i5 (i := 150) rfl rfl) (tb_i0 (i := 55) rfl rfl) tb_ds42 rfl rfl
set_option maxRecDepth 100000 in
theorem tb_j130 : am_vJ tb_tbl tb_cl (tb_mt 130) (tb_mj 130).1 (tb_mj 130).2 := am_vJ2 ⟨(tb_i5 (i := 75) rfl rfl), (tb_i1 (i := 16) rfl rfl), tb_pn12.1, tb_pn12.2.1, tb_pn12.2.2⟩ (tb_i5 (i := 73) rfl rfl) (tb_i5 (i := 74) rfl rfl) tb_ds1 rfl rfl
set_option maxRecDepth 100000 in
theorem tb_j131 : am_vJ tb_tbl tb_cl (tb_mt 131) (tb_mj 131).1 (tb_mj 131).2 := am_vJ0 ⟨(tb_i5 (i := 199) rfl rfl), (tb_i1 (i := 16) rfl rfl), tb_pn12.1, tb_pn12.2.1, tb_pn12.2.2⟩ (tb_i5 (i := 198) rfl rfl) tb_ds2
set_option maxRecDepth 100000 in
theorem tb_j132 : am_vJ tb_tbl tb_cl (tb_mt 132) (tb_mj 132).1 (tb_mj 132).2 := am_vJ2 ⟨(tb_i6 (i := 70) rfl rfl), (tb_i1 (i := 16) rfl rfl), tb_pn12.1, tb_pn12.2.1, tb_pn12.2.2⟩ (tb_i6 (i := 69) rfl rfl) (tb_i0 (i := 86) rfl rfl) tb_ds42 rfl rfl
set_option maxRecDepth 100000 in
theorem tb_j133 : am_vJ tb_tbl tb_cl (tb_mt 133) (tb_mj 133).1 (tb_mj 133).2 := am_vJ2 ⟨(tb_i5 (i := 191) rfl rfl), (tb_i1 (i := 16) rfl rfl), tb_pn12.1, tb_pn12.2.1, tb_pn12.2.2⟩ (tb_i5 (i := 190) rfl rfl) (tb_i0 (i := 63) rfl rfl) tb_ds4 rfl rfl
set_option maxRecDepth 100000 in
theorem tb_j134 : am_vJ tb_tbl tb_cl (tb_mt 134) (tb_mj 134).1 (tb_mj 134).2 := am_vJ2 ⟨(tb_i6 (i := 48) rfl rfl), (tb_i1 (i := 16) rfl rfl), tb_pn12.1, tb_pn12.2.1, tb_pn12.2.2⟩ (tb_i6 (i := 47) rfl rfl) (tb_i0 (i := 82) rfl rfl) tb_ds19 rfl rfl
set_option maxRecDepth 100000 in
theorem tb_j135 : am_vJ tb_tbl tb_cl (tb_mt 135) (tb_mj 135).1 (tb_mj 135).2 := am_vJ0 ⟨(tb_i5 (i := 166) rfl rfl), (tb_i1 (i := 16) rfl rfl), tb_pn12.1, tb_pn12.2.1, tb_pn12.2.2⟩ (tb_i5 (i := 165) rfl rfl) tb_ds14
theorem tb_ds49 : (parseMethodDescriptor "(ZI)V").map (fun d => d.parameters.length + 1) = some 3 := by decide +kernel
set_option maxRecDepth 100000 in
theorem tb_j136 : am_vJ tb_tbl tb_cl (tb_mt 136) (tb_mj 136).1 (tb_mj 136).2 := am_vJ2 ⟨(tb_i6 (i := 15) rfl rfl), (tb_i1 (i := 16) rfl rfl), tb_pn12.1, tb_pn12.2.1, tb_pn12.2.2⟩ (tb_i6 (i := 14) rfl rfl) (tb_i0 (i := 74) rfl rfl) tb_ds49 rfl rfl
theorem tb_ds50 : (parseMethodDescriptor "(ZIJ)V").map (fun d => d.parameters.length + 1) = some 4 := by decide +kernel
set_option maxRecDepth 100000 in
theorem tb_j137 : am_vJ tb_tbl tb_cl (tb_mt 137) (tb_mj 137).1 (tb_mj 137).2 := am_vJ2 ⟨(tb_i6 (i := 19) rfl rfl), (tb_i1 (i := 16) rfl rfl), tb_pn12.1, tb_pn12.2.1, tb_pn12.2.2⟩ (tb_i6 (i := 18) rfl rfl) (tb_i0 (i := 75) rfl rfl) tb_ds50 rfl rfl
set_option maxRecDepth 100000 in
theorem tb_j138 : am_vJ tb_tbl tb_cl (tb_mt 138) (tb_mj 138).1 (tb_mj 138).2 := am_vJ2 ⟨(tb_i5 (i := 79) rfl rfl), (tb_i1 (i := 16) rfl rfl), tb_pn12.1, tb_pn12.2.1, tb_pn12.2.2⟩ (tb_i5 (i := 77) rfl rfl) (tb_i5 (i := 78) rfl rfl) tb_ds3 rfl rfl
theorem tb_ds51 : (parseMethodDescriptor "(JZ)I").map (fun d => d.parameters.length + 1) = some 3 := by decide +kernel
set_option maxRecDepth 100000 in
theorem tb_j139 : am_vJ tb_tbl tb_cl (tb_mt 139) (tb_mj 139).1 (tb_mj 139).2 := am_vJ2 ⟨(tb_i5 (i := 175) rfl rfl), (tb_i1 (i := 16) rfl rfl), tb_pn12.1, tb_pn12.2.1, tb_pn12.2.2⟩ (tb_i5 (i := 174) rfl rfl) (tb_i0 (i := 60) rfl rfl) tb_ds51 rfl rfl
set_option maxRecDepth 100000 in
theorem tb_j140 : am_vJ tb_tbl tb_cl (tb_mt 140) (tb_mj 140).1 (tb_mj 140).2 := am_vJ2 ⟨(tb_i5 (i := 138) rfl rfl), (tb_i1 (i := 16) rfl rfl), tb_pn12.1, tb_pn12.2.1, tb_pn12.2.2⟩ (tb_i5 (i := 137) rfl rfl) (tb_i0 (i := 52) rfl rfl) tb_ds15 rfl rfl
set_option maxRecDepth 100000 in
theorem tb_j141 : am_vJ tb_tbl tb_cl (tb_mt 141) (tb_mj 141).1 (tb_mj 141).2 := am_vJ2 ⟨(tb_i6 (i := 31) rfl rfl), (tb_i1 (i := 16) rfl rfl), tb_pn12.1, tb_pn12.2.1, tb_pn12.2.2⟩ (tb_i6 (i := 30) rfl rfl) (tb_i0 (i := 78) rfl rfl) tb_ds19 rfl rfl
set_option maxRecDepth 100000 in
theorem tb_j142 : am_vJ tb_tbl tb_cl (tb_mt 142) (tb_mj 142).1 (tb_mj 142).2 := am_vJ2 ⟨(tb_i5 (i := 179) rfl rfl), (tb_i1 (i := 16) rfl rfl), tb_pn12.1, tb_pn12.2.1, tb_pn12.2.2⟩ (tb_i5 (i := 178) rfl rfl) (tb_i0 (i := 61) rfl rfl) tb_ds15 rfl rfl
set_option maxRecDepth 100000 in
theorem tb_j143 : am_vJ tb_tbl tb_cl (tb_mt 143) (tb_mj 143).1 (tb_mj 143).2 := am_vJ0 ⟨(tb_i6 (i := 8) rfl rfl), (tb_i1 (i := 16) rfl rfl), tb_pn12.1, tb_pn12.2.1, tb_pn12.2.2⟩ (tb_i6 (i := 7) rfl rfl) tb_ds38
set_option maxRecDepth 100000 in
theorem tb_j144 : am_vJ tb_tbl tb_cl (tb_mt 144) (tb_mj 144).1 (tb_mj 144).2 := am_vJ0 ⟨(tb_i6 (i := 11) rfl rfl), (tb_i1 (i := 16) rfl rfl), tb_pn12.1, tb_pn12.2.1, tb_pn12.2.2⟩ (tb_i6 (i := 10) rfl rfl) tb_ds38
set_option maxRecDepth 100000 in
theorem tb_j145 : am_vJ tb_tbl tb_cl (tb_mt 145) (tb_mj 145).1 (tb_mj 145).2 := am_vJ2 ⟨(tb_i6 (i := 94) rfl rfl), (tb_i1 (i := 16) rfl rfl), tb_pn12.1, tb_pn12.2.1, tb_pn12.2.2⟩ (tb_i6 (i := 92) rfl rfl) (tb_i6 (i := 93) rfl rfl) tb_ds5 rfl rfl
set_option maxRecDepth 100000 in
theorem tb_j146 : am_vJ tb_tbl tb_cl (tb_mt 146) (tb_mj 146).1 (tb_mj 146).2 := am_vJ2 ⟨(tb_i5 (i := 116) rfl rfl), (tb_i1 (i := 16) rfl rfl), tb_pn12.1, tb_pn12.2.1, tb_pn12.2.2⟩ (tb_i5 (i := 115) rfl rfl) (tb_i0 (i := 48) rfl rfl) tb_ds28 rfl rfl
set_option maxRecDepth 100000 in
theorem tb_j147 : am_vJ tb_tbl tb_cl (tb_mt 147) (tb_mj 147).1 (tb_mj 147).2 := am_vJ2 ⟨(tb_i6 (i := 44) rfl rfl), (tb_i1 (i := 16) rfl rfl), tb_pn12.1, tb_pn12.2.1, tb_pn12.2.2⟩ (tb_i6 (i := 43) rfl rfl) (tb_i0 (i := 81) rfl rfl) tb_ds28 rfl rfl
theorem tb_ds52 : (parseMethodDescriptor "(IJJ)Z").map (fun d => d.parameters.length + 1) = some 4 := by decide +kernel
set_option maxRecDepth 100000 in
theorem tb_j148 : am_vJ tb_tbl tb_cl (tb_mt 148) (tb_mj 148).1 (tb_mj 148).2 := am_vJ2 ⟨(tb_i5 (i := 126) rfl rfl), (tb_i1 (i := 16) rfl rfl), tb_pn12.1, tb_pn12.2.1, tb_pn12.2.2⟩ (tb_i5 (i := 125) rfl rfl) (tb_i0 (i := 50) rfl rfl) tb_ds52 rfl rfl
set_option maxRecDepth 100000 in
theorem tb_j149 : am_vJ tb_tbl tb_cl (tb_mt 149) (tb_mj 149).1 (tb_mj 149).2 := am_vJ2 ⟨(tb_i5 (i := 120) rfl rfl), (tb_i1 (i := 16) rfl rfl), tb_pn12.1, tb_pn12.2.1, tb_pn12.2.2⟩ (tb_i5 (i := 119) rfl rfl) (tb_i0 (i := 49) rfl rfl) tb_ds28 rfl rfl
set_option maxRecDepth 100000 in
theorem tb_j150 : am_vJ tb_tbl tb_cl (tb_mt 150) (tb_mj 150).1 (tb_mj 150).2 := am_vJ2 ⟨(tb_i5 (i := 104) rfl rfl), (tb_i1 (i := 16) rfl rfl), tb_pn12.1, tb_pn12.2.1, tb_pn12.2.2⟩ (tb_i5 (i := 103) rfl rfl) (tb_i0 (i := 45) rfl rfl) tb_ds31 rfl rfl
set_option maxRecDepth 100000 in
theorem tb_j151 : am_vJ tb_tbl tb_cl (tb_mt 151) (tb_mj 151).1 (tb_mj 151).2 := am_vJ2 ⟨(tb_i5 (i := 159) rfl rfl), (tb_i1 (i := 16) rfl rfl), tb_pn12.1, tb_pn12.2.1, tb_pn12.2.2⟩ (tb_i5 (i := 158) rfl rfl) (tb_i0 (i := 57) rfl rfl) tb_ds4 rfl rfl
set_option maxRecDepth 100000 in
theorem tb_j152 : am_vJ tb_tbl tb_cl (tb_mt 152) (tb_mj 152).1 (tb_mj 152).2 := am_vJ2 ⟨(tb_i5 (i := 171) rfl rfl), (tb_i1 (i := 16) rfl rfl), tb_pn12.1, tb_pn12.2.1, tb_pn12.2.2⟩ (tb_i5 (i := 170) rfl rfl) (tb_i0 (i := 59) rfl rfl) tb_ds24 rfl rfl
theorem tb_ds53 : (parseMethodDescriptor "(JJZ)Z").map (fun d => d.parameters.length + 1) = some 4 := by decide +kernel
set_option maxRecDepth 100000 in
theorem tb_j153 : am_vJ tb_tbl tb_cl (tb_mt 153) (tb_mj 153).1 (tb_mj 153).2 := am_vJ2 ⟨(tb_i6 (i := 60) rfl rfl), (tb_i1 (i := 16) rfl rfl), tb_pn12.1, tb_pn12.2.1, tb_pn12.2.2⟩ (tb_i6 (i := 59) rfl rfl) (tb_i0 (i := 85) rfl rfl) tb_ds53 rfl rfl
set_option maxRecDepth 100000 in
theorem tb_j154 : am_vJ tb_tbl tb_cl (tb_mt 154) (tb_mj 154).1 (tb_mj 154).2 := am_vJ2 ⟨(tb_i5 (i := 92) rfl rfl), (tb_i1 (i := 16) rfl rfl), tb_pn12.1, tb_pn12.2.1, tb_pn12.2.2⟩ (tb_i5 (i := 90) rfl rfl) (tb_i5 (i := 91) rfl rfl) tb_ds7 rfl rfl
set_option maxRecDepth 100000 in
theorem tb_j155 : am_vJ tb_tbl tb_cl (tb_mt 155) (tb_mj 155).1 (tb_mj 155).2 := am_vJ2 ⟨(tb_i5 (i := 134) rfl rfl), (tb_i1 (i := 16) rfl rfl), tb_pn12.1, tb_pn12.2.1, tb_pn12.2.2⟩ (tb_i5 (i := 133) rfl rfl) (tb_i0 (i := 51) rfl rfl) tb_ds31 rfl rfl
set_option maxRecDepth 100000 in
theorem tb_j156 : am_vJ tb_tbl tb_cl (tb_mt 156) (tb_mj 156).1 (tb_mj 156).2 := am_vJ2 ⟨(tb_i5 (i := 232) rfl rfl), (tb_i1 (i := 16) rfl rfl), tb_pn12.1, tb_pn12.2.1, tb_pn12.2.2⟩ (tb_i5 (i := 231) rfl rfl) (tb_i0 (i := 71) rfl rfl) tb_ds42 rfl rfl
set_option maxRecDepth 100000 in
theorem tb_j157 : am_vJ tb_tbl tb_cl (tb_mt 157) (tb_mj 157).1 (tb_mj 157).2 := am_vJ2 ⟨(tb_i6 (i := 4) rfl rfl), (tb_i1 (i := 16) rfl rfl), tb_pn12.1, tb_pn12.2.1, tb_pn12.2.2⟩ (tb_i6 (i := 3) rfl rfl) (tb_i0 (i := 73) rfl rfl) tb_ds49 rfl rfl
set_option maxRecDepth 100000 in
theorem tb_j158 : am_vJ tb_tbl tb_cl (tb_mt 158) (tb_mj 158).1 (tb_mj 158).2 := am_vJ2 ⟨(tb_i5 (i := 96) rfl rfl), (tb_i1 (i := 16) rfl rfl), tb_pn12.1, tb_pn12.2.1, tb_pn12.2.2⟩ (tb_i5 (i := 94) rfl rfl) (tb_i5 (i := 95) rfl rfl) tb_ds8 rfl rfl
set_option maxRecDepth 100000 in
theorem tb_j159 : am_vJ tb_tbl tb_cl (tb_mt 159) (tb_mj 159).1 (tb_mj 159).2 := am_vJ2 ⟨(tb_i5 (i := 84) rfl rfl), (tb_i1 (i := 16) rfl rfl), tb_pn12.1, tb_pn12.2.1, tb_pn12.2.2⟩ (tb_i5 (i := 82) rfl rfl) (tb_i5 (i := 83) rfl rfl) tb_ds9 rfl rfl
set_option maxRecDepth 100000 in
theorem tb_j160 : am_vJ tb_tbl tb_cl (tb_mt 160) (tb_mj 160).1 (tb_mj 160).2 := am_vJ2 ⟨(tb_i5 (i := 88) rfl rfl), (tb_i1 (i := 16) rfl rfl), tb_pn12.1, tb_pn12.2.1, tb_pn12.2.2⟩ (tb_i5 (i := 86) rfl rfl) (tb_i5 (i := 87) rfl rfl) tb_ds10 rfl rfl
set_option maxRecDepth 100000 in
theorem tb_j161 : am_vJ tb_tbl tb_cl (tb_mt 161) (tb_mj 161).1 (tb_mj 161).2 := am_vJ2 ⟨(tb_i5 (i := 112) rfl rfl), (tb_i1 (i := 16) rfl rfl), tb_pn12.1, tb_pn12.2.1, tb_pn12.2.2⟩ (tb_i5 (i := 111) rfl rfl) (tb_i0 (i := 47) rfl rfl) tb_ds31 rfl rfl
set_option maxRecDepth 100000 in
theorem tb_j162 : am_vJ tb_tbl tb_cl (tb_mt 162) (tb_mj 162).1 (tb_mj 162).2 := am_vJ2 ⟨(tb_i6 (i := 98) rfl rfl), (tb_i1 (i := 16) rfl rfl), tb_pn12.1, tb_pn12.2.1, tb_pn12.2.2⟩ (tb_i6 (i := 96) rfl rfl) (tb_i6 (i := 97) rfl rfl) tb_ds4 rfl rfl
set_option maxRecDepth 100000 in
theorem tb_j163 : am_vJ tb_tbl tb_cl (tb_mt 163) (tb_mj 163).1 (tb_mj 163).2 := am_vJ2 ⟨(tb_i6 (i := 102) rfl rfl), (tb_i1 (i := 16) rfl rfl), tb_pn12.1, tb_pn12.2.1, tb_pn12.2.2⟩ (tb_i6 (i := 100) rfl rfl) (tb_i6 (i := 101) rfl rfl) tb_ds11 rfl rfl
set_option maxRecDepth 100000 in
theorem tb_j164 : am_vJ tb_tbl tb_cl (tb_mt 164) (tb_mj 164).1 (tb_mj 164).2 := am_vJ2 ⟨(tb_i5 (i := 147) rfl rfl), (tb_i1 (i := 16) rfl rfl), tb_pn12.1, tb_pn12.2.1, tb_pn12.2.2⟩ (tb_i5 (i := 146) rfl rfl) (tb_i0 (i := 54) rfl rfl) tb_ds0 rfl rfl
set_option maxRecDepth 100000 in
theorem tb_j165 : am_vJ tb_tbl tb_cl (tb_mt 165) (tb_mj 165).1 (tb_mj 165).2 := am_vJ2 ⟨(tb_i6 (i := 106) rfl rfl), (tb_i1 (i := 16) rfl rfl), tb_pn12.1, tb_pn12.2.1, tb_pn12.2.2⟩ (tb_i6 (i := 104) rfl rfl) (tb_i6 (i := 105) rfl rfl) tb_ds5 rfl rfl
set_option maxRecDepth 100000 in
theorem tb_j166 : am_vJ tb_tbl tb_cl (tb_mt 166) (tb_mj 166).1 (tb_mj 166).2 := am_vJ2 ⟨(tb_i6 (i := 40) rfl rfl), (tb_i1 (i := 16) rfl rfl), tb_pn12.1, tb_pn12.2.1, tb_pn12.2.2⟩ (tb_i6 (i := 39) rfl rfl) (tb_i0 (i := 80) rfl rfl) tb_ds15 rfl rfl
set_option maxRecDepth 100000 in
theorem tb_j167 : am_vJ tb_tbl tb_cl (tb_mt 167) (tb_mj 167).1 (tb_mj 167).2 := am_vJ2 ⟨(tb_i6 (i := 23) rfl rfl), (tb_i1 (i := 16) rfl rfl), tb_pn12.1, tb_pn12.2.1, tb_pn12.2.2⟩ (tb_i6 (i := 22) rfl rfl) (tb_i0 (i := 76) rfl rfl) tb_ds19 rfl rfl
set_option maxRecDepth 100000 in
theorem tb_j168 : am_vJ tb_tbl tb_cl (tb_mt 168) (tb_mj 168).1 (tb_mj 168).2 := am_vJ2 ⟨(tb_i6 (i := 35) rfl rfl), (tb_i1 (i := 16) rfl rfl), tb_pn12.1, tb_pn12.2.1, tb_pn12.2.2⟩ (tb_i6 (i := 34) rfl rfl) (tb_i0 (i := 79) rfl rfl) tb_ds8 rfl rfl
set_option maxRecDepth 100000 in
theorem tb_j169 : am_vJ tb_tbl tb_cl (tb_mt 169) (tb_mj 169).1 (tb_mj 169).2 := am_vJ2 ⟨(tb_i5 (i := 215) rfl rfl), (tb_i1 (i := 16) rfl rfl), tb_pn12.1, tb_pn12.2.1, tb_pn12.2.2⟩ (tb_i5 (i := 214) rfl rfl) (tb_i0 (i := 67) rfl rfl) tb_ds25 rfl rfl
set_option maxRecDepth 100000 in
theorem tb_j170 : am_vJ tb_tbl tb_cl (tb_mt 170) (tb_mj 170).1 (tb_mj 170).2 := am_vJ2 ⟨(tb_i6 (i := 86) rfl rfl), (tb_i1 (i := 16) rfl rfl), tb_pn12.1, tb_pn12.2.1, tb_pn12.2.2⟩ (tb_i6 (i := 84) rfl rfl) (tb_i6 (i := 85) rfl rfl) tb_ds12 rfl rfl
set_option maxRecDepth 100000 in
theorem tb_j171 : am_vJ tb_tbl tb_cl (tb_mt 171) (tb_mj 171).1 (tb_mj 171).2 := am_vJ2 ⟨(tb_i5 (i := 163) rfl rfl), (tb_i1 (i := 16) rfl rfl), tb_pn12.1, tb_pn12.2.1, tb_pn12.2.2⟩ (tb_i5 (i := 162) rfl rfl) (tb_i0 (i := 58) rfl rfl) tb_ds4 rfl rfl
set_option maxRecDepth 100000 in
theorem tb_j172 : am_vJ tb_tbl tb_cl (tb_mt 172) (tb_mj 172).1 (tb_mj 172).2 := am_vJ2 ⟨(tb_i6 (i := 56) rfl rfl), (tb_i1 (i := 16) rfl rfl), tb_pn12.1, tb_pn12.2.1, tb_pn12.2.2⟩ (tb_i6 (i := 55) rfl rfl) (tb_i0 (i := 84) rfl rfl) tb_ds0 rfl rfl
set_option maxRecDepth 100000 in
theorem tb_j173 : am_vJ tb_tbl tb_cl (tb_mt 173) (tb_mj 173).1 (tb_mj 173).2 := am_vJ2 ⟨(tb_i6 (i := 90) rfl rfl), (tb_i1 (i := 16) rfl rfl), tb_pn12.1, tb_pn12.2.1, tb_pn12.2.2⟩ (tb_i6 (i := 88) rfl rfl) (tb_i6 (i := 89) rfl rfl) tb_ds13 rfl rfl
set_option maxRecDepth 100000 in
theorem tb_j174 : am_vJ tb_tbl tb_cl (tb_mt 174) (tb_mj 174).1 (tb_mj 174).2 := am_vJ2 ⟨(tb_i4 (i := 182) rfl rfl), (tb_i1 (i := 16) rfl rfl), tb_pn12.1, tb_pn12.2.1, tb_pn12.2.2⟩ (tb_i4 (i := 181) rfl rfl) (tb_i0 (i := 44) rfl rfl) tb_ds8 rfl rfl
set_option maxRecDepth 100000 in
theorem tb_j175 : am_vJ tb_tbl tb_cl (tb_mt 175) (tb_mj 175).1 (tb_mj 175).2 := am_vJ2 ⟨(tb_i5 (i := 228) rfl rfl), (tb_i1 (i := 16) rfl rfl), tb_pn12.1, tb_pn12.2.1, tb_pn12.2.2⟩ (tb_i5 (i := 227) rfl rfl) (tb_i0 (i := 70) rfl rfl) tb_ds42 rfl rfl
set_option maxRecDepth 100000 in
theorem tb_j176 : am_vJ tb_tbl tb_cl (tb_mt 176) (tb_mj 176).1 (tb_mj 176).2 := am_vJ2 ⟨(tb_i5 (i := 219) rfl rfl), (tb_i1 (i := 16) rfl rfl), tb_pn12.1, tb_pn12.2.1, tb_pn12.2.2⟩ (tb_i5 (i := 218) rfl rfl) (tb_i0 (i := 68) rfl rfl) tb_ds25 rfl rfl
set_option maxRecDepth 100000 in
theorem tb_j177 : am_vJ tb_tbl tb_cl (tb_mt 177) (tb_mj 177).1 (tb_mj 177).2 := am_vJ2 ⟨(tb_i6 (i := 27) rfl rfl), (tb_i1 (i := 16) rfl rfl), tb_pn12.1, tb_pn12.2.1, tb_pn12.2.2⟩ (tb_i6 (i := 26) rfl rfl) (tb_i0 (i := 77) rfl rfl) tb_ds42 rfl rfl
set_option maxRecDepth 100000 in
theorem tb_j178 : am_vJ tb_tbl tb_cl (tb_mt 178) (tb_mj 178).1 (tb_mj 178).2 := am_vJ0 ⟨(tb_i5 (i := 235) rfl rfl), (tb_i1 (i := 16) rfl rfl), tb_pn12.1, tb_pn12.2.1, tb_pn12.2.2⟩ (tb_i5 (i := 234) rfl rfl) tb_ds14
set_option maxRecDepth 100000 in
theorem tb_j179 : am_vJ tb_tbl tb_cl (tb_mt 179) (tb_mj 179).1 (tb_mj 179).2 := am_vJ2 ⟨(tb_i5 (i := 239) rfl rfl), (tb_i1 (i := 16) rfl rfl), tb_pn12.1, tb_pn12.2.1, tb_pn12.2.2⟩ (tb_i5 (i := 238) rfl rfl) (tb_i0 (i := 72) rfl rfl) tb_ds42 rfl rfl
set_option maxRecDepth 100000 in
theorem tb_j180 : am_vJ tb_tbl tb_cl (tb_mt 180) (tb_mj 180).1 (tb_mj 180).2 := am_vJ2 ⟨(tb_i5 (i := 108) rfl rfl), (tb_i1 (i := 16) rfl rfl), tb_pn12.1, tb_pn12.2.1, tb_pn12.2.2⟩ (tb_i5 (i := 107) rfl rfl) (tb_i0 (i := 46) rfl rfl) tb_ds31 rfl rfl
set_option maxRecDepth 100000 in
theorem tb_j181 : am_vJ tb_tbl tb_cl (tb_mt 181) (tb_mj 181).1 (tb_mj 181).2 := am_vJ2 ⟨(tb_i6 (i := 52) rfl rfl), (tb_i1 (i := 16) rfl rfl), tb_pn12.1, tb_pn12.2.1, tb_pn12.2.2⟩ (tb_i6 (i := 51) rfl rfl) (tb_i0 (i := 83) rfl rfl) tb_ds42 rfl rfl
set_option maxRecDepth 100000 in
theorem tb_j182 : am_vJ tb_tbl tb_cl (tb_mt 182) (tb_mj 182).1 (tb_mj 182).2 := am_vJ2 ⟨(tb_i5 (i := 100) rfl rfl), (tb_i1 (i := 16) rfl rfl), tb_pn12.1, tb_pn12.2.1, tb_pn12.2.2⟩ (tb_i5 (i := 98) rfl rfl) (tb_i5 (i := 99) rfl rfl) tb_ds4 rfl rfl
set_option maxRecDepth 100000 in
theorem tb_j183 : am_vJ tb_tbl tb_cl (tb_mt 183) (tb_mj 183).1 (tb_mj 183).2 := am_vJ2 ⟨(tb_i5 (i := 187) rfl rfl), (tb_i1 (i := 16) rfl rfl), tb_pn12.1, tb_pn12.2.1, tb_pn12.2.2⟩ (tb_i5 (i := 186) rfl rfl) (tb_i0 (i := 62) rfl rfl) tb_ds3 rfl rfl
theorem tb_ds54 : (parseMethodDescriptor "(JIJ)V").map (fun d => d.parameters.length + 1) = some 4 := by decide +kernel
set_option maxRecDepth 100000 in
theorem tb_j184 : am_vJ tb_tbl tb_cl (tb_mt 184) (tb_mj 184).1 (tb_mj 184).2 := am_vJ2 ⟨(tb_i5 (i := 224) rfl rfl), (tb_i1 (i := 16) rfl rfl), tb_pn12.1, tb_pn12.2.1, tb_pn12.2.2⟩ (tb_i5 (i := 223) rfl rfl) (tb_i0 (i := 69) rfl rfl) tb_ds54 rfl rfl
set_option maxRecDepth 100000 in
theorem tb_j185 : am_vJ tb_tbl tb_cl (tb_mt 185) (tb_mj 185).1 (tb_mj 185).2 := am_vJ2 ⟨(tb_i6 (i := 78) rfl rfl), (tb_i1 (i := 16) rfl rfl), tb_pn12.1, tb_pn12.2.1, tb_pn12.2.2⟩ (tb_i6 (i := 77) rfl rfl) (tb_i0 (i := 88) rfl rfl) tb_ds42 rfl rfl
set_option maxRecDepth 100000 in
theorem tb_j186 : am_vJ tb_tbl tb_cl (tb_mt 186) (tb_mj 186).1 (tb_mj 186).2 := am_vJ2 ⟨(tb_i5 (i := 211) rfl rfl), (tb_i1 (i := 16) rfl rfl), tb_pn12.1, tb_pn12.2.1, tb_pn12.2.2⟩ (tb_i5 (i := 210) rfl rfl) (tb_i0 (i := 66) rfl rfl) tb_ds48 rfl rfl
set_option maxRecDepth 100000 in
theorem tb_j187 : am_vJ tb_tbl tb_cl (tb_mt 187) (tb_mj 187).1 (tb_mj 187).2 := am_vJ2 ⟨(tb_i5 (i := 155) rfl rfl), (tb_i1 (i := 16) rfl rfl), tb_pn12.1, tb_pn12.2.1, tb_pn12.2.2⟩ (tb_i5 (i := 154) rfl rfl) (tb_i0 (i := 56) rfl rfl) tb_ds23 rfl rfl
set_option maxRecDepth 100000 in
theorem tb_j188 : am_vJ tb_tbl tb_cl (tb_mt 188) (tb_mj 188).1 (tb_mj 188).2 := am_vJ2 ⟨(tb_i6 (i := 74) rfl rfl), (tb_i1 (i := 16) rfl rfl), tb_pn12.1, tb_pn12.2.1, tb_pn12.2.2⟩ (tb_i6 (i := 73) rfl rfl) (tb_i0 (i := 87) rfl rfl) tb_ds42 rfl rfl
set_option maxRecDepth 100000 in
theorem tb_j189 : am_vJ tb_tbl tb_cl (tb_mt 189) (tb_mj 189).1 (tb_mj 189).2 := am_vJ0 ⟨(tb_i5 (i := 203) rfl rfl), (tb_i1 (i := 16) rfl rfl), tb_pn12.1, tb_pn12.2.1, tb_pn12.2.2⟩ (tb_i5 (i := 202) rfl rfl) tb_ds14
set_option maxRecDepth 100000 in
theorem tb_j190 : am_vJ tb_tbl tb_cl (tb_mt 190) (tb_mj 190).1 (tb_mj 190).2 := am_vJ2 ⟨(tb_i6 (i := 82) rfl rfl), (tb_i1 (i := 16) rfl rfl), tb_pn12.1, tb_pn12.2.1, tb_pn12.2.2⟩ (tb_i6 (i := 80) rfl rfl) (tb_i6 (i := 81) rfl rfl) tb_ds15 rfl rfl
set_option maxRecDepth 100000 in
theorem tb_j191 : am_vJ tb_tbl tb_cl (tb_mt 191) (tb_mj 191).1 (tb_mj 191).2 := am_vJ2 ⟨(tb_i5 (i := 207) rfl rfl), (tb_i1 (i := 16) rfl rfl), tb_pn12.1, tb_pn12.2.1, tb_pn12.2.2⟩ (tb_i5 (i := 206) rfl rfl) (tb_i0 (i := 65) rfl rfl) tb_ds29 rfl rfl
set_option maxRecDepth 100000 in
theorem tb_j192 : am_vJ tb_tbl tb_cl (tb_mt 192) (tb_mj 192).1 (tb_mj 192).2 := am_vJ0 ⟨(tb_i3 (i := 130) rfl rfl), (tb_i1 (i := 17) rfl rfl), tb_pn14.1, tb_pn14.2.1, tb_pn14.2.2⟩ (tb_i3 (i := 129) rfl rfl) tb_ds17
theorem tb_ds55 : (parseMethodDescriptor "([BB)V").map (fun d => d.parameters.length) = some 2 := by decide +kernel
set_option maxRecDepth 100000 in
theorem tb_j193 : am_vJ tb_tbl tb_cl (tb_mt 193) (tb_mj 193).1 (tb_mj 193).2 := am_vJ0 ⟨(tb_i2 (i := 102) rfl rfl), (tb_i1 (i := 13) rfl rfl), tb_pn15.1, tb_pn15.2.1, tb_pn15.2.2⟩ (tb_i2 (i := 101) rfl rfl) tb_ds55
theorem tb_ds56 : (parseMethodDescriptor "([BIIB)V").map (fun d => d.parameters.length) = some 4 := by decide +kernel
set_option maxRecDepth 100000 in
theorem tb_j194 : am_vJ tb_tbl tb_cl (tb_mt 194) (tb_mj 194).1 (tb_mj 194).2 := am_vJ0 ⟨(tb_i2 (i := 143) rfl rfl), (tb_i1 (i := 13) rfl rfl), tb_pn15.1, tb_pn15.2.1, tb_pn15.2.2⟩ (tb_i2 (i := 142) rfl rfl) tb_ds56
theorem tb_ds57 : (parseMethodDescriptor "([JJ)V").map (fun d => d.parameters.length) = some 2 := by decide +kernel
set_option maxRecDepth 100000 in
theorem tb_j195 : am_vJ tb_tbl tb_cl (tb_mt 195) (tb_mj 195).1 (tb_mj 195).2 := am_vJ0 ⟨(tb_i2 (i := 156) rfl rfl), (tb_i1 (i := 13) rfl rfl), tb_pn15.1, tb_pn15.2.1, tb_pn15.2.2⟩ (tb_i2 (i := 155) rfl rfl) tb_ds57
theorem tb_ds58 : (parseMethodDescriptor "(III)V").map (fun d => d.parameters.length) = some 3 := by decide +kernel
set_option maxRecDepth 100000 in
theorem tb_j196 : am_vJ tb_tbl tb_cl (tb_mt 196) (tb_mj 196).1 (tb_mj 196).2 := am_vJ0 ⟨(tb_i2 (i := 146) rfl rfl), (tb_i1 (i := 13) rfl rfl), tb_pn15.1, tb_pn15.2.1, tb_pn15.2.2⟩ (tb_i2 (i := 145) rfl rfl) tb_ds58
theorem tb_x : am_okx tb_tbl tb_tl := ⟨(tb_i1 (i := 24) rfl rfl), (tb_i1 (i := 25) rfl rfl), fun _ => (tb_i1 (i := 86) rfl rfl), fun _ => (tb_i2 (i := 136) rfl rfl), fun h => absurd h (by decide), fun _ => (tb_i1 (i := 138) rfl rfl)⟩

/-! PRINTED by wip/tools/gen.py: each row of the table is true to the code -/
abbrev tb_oks : List Nat := [0, 1, 2, 3, 4, 5, 6, 7, 8, 9, 10, 11, 12]
set_option maxRecDepth 100000 in
theorem tb_e0 : (tb_c0).all (fun l => l.all (am_ckE tb_cl tb_aos tb_tl tb_oks tb_mt tb_mj tb_nM tb_k13 0)) = true := by decide +kernel
set_option maxRecDepth 100000 in
theorem tb_e1 : (tb_c1).all (fun l => l.all (am_ckE tb_cl tb_aos tb_tl tb_oks tb_mt tb_mj tb_nM tb_k0 1)) = true := by decide +kernel
set_option maxRecDepth 100000 in
theorem tb_e2 : (tb_c2).all (fun l => l.all (am_ckE tb_cl tb_aos tb_tl tb_oks tb_mt tb_mj tb_nM tb_k0 2)) = true := by decide +kernel
set_option maxRecDepth 100000 in
theorem tb_e3 : (tb_c3).all (fun l => l.all (am_ckE tb_cl tb_aos tb_tl tb_oks tb_mt tb_mj tb_nM tb_k0 3)) = true := by decide +kernel
set_option maxRecDepth 100000 in
theorem tb_e4 : (tb_c4).all (fun l => l.all (am_ckE tb_cl tb_aos tb_tl tb_oks tb_mt tb_mj tb_nM tb_k0 4)) = true := by decide +kernel
set_option maxRecDepth 100000 in
theorem tb_e5 : (tb_c5).all (fun l => l.all (am_ckE tb_cl tb_aos tb_tl tb_oks tb_mt tb_mj tb_nM tb_k0 5)) = true := by decide +kernel
set_option maxRecDepth 100000 in
theorem tb_e6 : (tb_c6).all (fun l => l.all (am_ckE tb_cl tb_aos tb_tl tb_oks tb_mt tb_mj tb_nM tb_k0 6)) = true := by decide +kernel
set_option maxRecDepth 100000 in
theorem tb_e7 : (tb_c7).all (fun l => l.all (am_ckE tb_cl tb_aos tb_tl tb_oks tb_mt tb_mj tb_nM tb_k0 7)) = true := by decide +kernel
set_option maxRecDepth 100000 in
theorem tb_e8 : (tb_c8).all (fun l => l.all (am_ckE tb_cl tb_aos tb_tl tb_oks tb_mt tb_mj tb_nM tb_k0 8)) = true := by decide +kernel
set_option maxRecDepth 100000 in
theorem tb_e9 : (tb_c9).all (fun l => l.all (am_ckE tb_cl tb_aos tb_tl tb_oks tb_mt tb_mj tb_nM tb_k0 9)) = true := by decide +kernel
set_option maxRecDepth 100000 in
theorem tb_e10 : (tb_c10).all (fun l => l.all (am_ckE tb_cl tb_aos tb_tl tb_oks tb_mt tb_mj tb_nM tb_k0 10)) = true := by decide +kernel
set_option maxRecDepth 100000 in
theorem tb_e11 : (tb_c11).all (fun l => l.all (am_ckE tb_cl tb_aos tb_tl tb_oks tb_mt tb_mj tb_nM tb_k0 11)) = true := by decide +kernel
set_option maxRecDepth 100000 in
theorem tb_e12 : (tb_c12).all (fun l => l.all (am_ckE tb_cl tb_aos tb_tl tb_oks tb_mt tb_mj tb_nM tb_k0 12)) = true := by decide +kernel
set_option maxRecDepth 100000 in
theorem tb_e13 : (tb_c13).all (fun l => l.all (am_ckE tb_cl tb_aos tb_tl tb_oks tb_mt tb_mj tb_nM tb_k0 13)) = true := by decide +kernel
set_option maxRecDepth 100000 in
theorem tb_e14 : (tb_c14).all (fun l => l.all (am_ckE tb_cl tb_aos tb_tl tb_oks tb_mt tb_mj tb_nM tb_k0 14)) = true := by decide +kernel
set_option maxRecDepth 100000 in
theorem tb_e15 : (tb_c15).all (fun l => l.all (am_ckE tb_cl tb_aos tb_tl tb_oks tb_mt tb_mj tb_nM tb_k0 15)) = true := by decide +kernel
set_option maxRecDepth 100000 in
theorem tb_e16 : (tb_c16).all (fun l => l.all (am_ckE tb_cl tb_aos tb_tl tb_oks tb_mt tb_mj tb_nM tb_k0 16)) = true := by decide +kernel
set_option maxRecDepth 100000 in
theorem tb_e17 : (tb_c17).all (fun l => l.all (am_ckE tb_cl tb_aos tb_tl tb_oks tb_mt tb_mj tb_nM tb_k0 17)) = true := by decide +kernel
set_option maxRecDepth 100000 in
theorem tb_e18 : (tb_c18).all (fun l => l.all (am_ckE tb_cl tb_aos tb_tl tb_oks tb_mt tb_mj tb_nM tb_k0 18)) = true := by decide +kernel
set_option maxRecDepth 100000 in
theorem tb_e19 : (tb_c19).all (fun l => l.all (am_ckE tb_cl tb_aos tb_tl tb_oks tb_mt tb_mj tb_nM tb_k0 19)) = true := by decide +kernel
set_option maxRecDepth 100000 in
theorem tb_e20 : (tb_c20).all (fun l => l.all (am_ckE tb_cl tb_aos tb_tl tb_oks tb_mt tb_mj tb_nM tb_k0 20)) = true := by decide +kernel
set_option maxRecDepth 100000 in
theorem tb_e21 : (tb_c21).all (fun l => l.all (am_ckE tb_cl tb_aos tb_tl tb_oks tb_mt tb_mj tb_nM tb_k8 21)) = true := by decide +kernel
set_option maxRecDepth 100000 in
theorem tb_e22 : (tb_c22).all (fun l => l.all (am_ckE tb_cl tb_aos tb_tl tb_oks tb_mt tb_mj tb_nM tb_k8 22)) = true := by decide +kernel
set_option maxRecDepth 100000 in
theorem tb_e23 : (tb_c23).all (fun l => l.all (am_ckE tb_cl tb_aos tb_tl tb_oks tb_mt tb_mj tb_nM tb_k8 23)) = true := by decide +kernel
set_option maxRecDepth 100000 in
theorem tb_e24 : (tb_c24).all (fun l => l.all (am_ckE tb_cl tb_aos tb_tl tb_oks tb_mt tb_mj tb_nM tb_k8 24)) = true := by decide +kernel
set_option maxRecDepth 100000 in
theorem tb_e25 : (tb_c25).all (fun l => l.all (am_ckE tb_cl tb_aos tb_tl tb_oks tb_mt tb_mj tb_nM tb_k8 25)) = true := by decide +kernel
set_option maxRecDepth 100000 in
theorem tb_e26 : (tb_c26).all (fun l => l.all (am_ckE tb_cl tb_aos tb_tl tb_oks tb_mt tb_mj tb_nM tb_k8 26)) = true := by decide +kernel
set_option maxRecDepth 100000 in
theorem tb_e27 : (tb_c27).all (fun l => l.all (am_ckE tb_cl tb_aos tb_tl tb_oks tb_mt tb_mj tb_nM tb_k8 27)) = true := by decide +kernel
set_option maxRecDepth 100000 in
theorem tb_e28 : (tb_c28).all (fun l => l.all (am_ckE tb_cl tb_aos tb_tl tb_oks tb_mt tb_mj tb_nM tb_k8 28)) = true := by decide +kernel
set_option maxRecDepth 100000 in
theorem tb_e29 : (tb_c29).all (fun l => l.all (am_ckE tb_cl tb_aos tb_tl tb_oks tb_mt tb_mj tb_nM tb_k8 29)) = true := by decide +kernel
set_option maxRecDepth 100000 in
theorem tb_e30 : (tb_c30).all (fun l => l.all (am_ckE tb_cl tb_aos tb_tl tb_oks tb_mt tb_mj tb_nM tb_k8 30)) = true := by decide +kernel
set_option maxRecDepth 100000 in
theorem tb_e31 : (tb_c31).all (fun l => l.all (am_ckE tb_cl tb_aos tb_tl tb_oks tb_mt tb_mj tb_nM tb_k3 31)) = true := by decide +kernel
set_option maxRecDepth 100000 in
theorem tb_e32 : (tb_c32).all (fun l => l.all (am_ckE tb_cl tb_aos tb_tl tb_oks tb_mt tb_mj tb_nM tb_k3 32)) = true := by decide +kernel
set_option maxRecDepth 100000 in
theorem tb_e33 : (tb_c33).all (fun l => l.all (am_ckE tb_cl tb_aos tb_tl tb_oks tb_mt tb_mj tb_nM tb_k3 33)) = true := by decide +kernel
set_option maxRecDepth 100000 in
theorem tb_e34 : (tb_c34).all (fun l => l.all (am_ckE tb_cl tb_aos tb_tl tb_oks tb_mt tb_mj tb_nM tb_k3 34)) = true := by decide +kernel
set_option maxRecDepth 100000 in
theorem tb_e35 : (tb_c35).all (fun l => l.all (am_ckE tb_cl tb_aos tb_tl tb_oks tb_mt tb_mj tb_nM tb_k3 35)) = true := by decide +kernel
set_option maxRecDepth 100000 in
theorem tb_e36 : (tb_c36).all (fun l => l.all (am_ckE tb_cl tb_aos tb_tl tb_oks tb_mt tb_mj tb_nM tb_k3 36)) = true := by decide +kernel
set_option maxRecDepth 100000 in
theorem tb_e37 : (tb_c37).all (fun l => l.all (am_ckE tb_cl tb_aos tb_tl tb_oks tb_mt tb_mj tb_nM tb_k3 37)) = true := by decide +kernel
set_option maxRecDepth 100000 in
theorem tb_e38 : (tb_c38).all (fun l => l.all (am_ckE tb_cl tb_aos tb_tl tb_oks tb_mt tb_mj tb_nM tb_k3 38)) = true := by decide +kernel
set_option maxRecDepth 100000 in
theorem tb_e39 : (tb_c39).all (fun l => l.all (am_ckE tb_cl tb_aos tb_tl tb_oks tb_mt tb_mj tb_nM tb_k3 39)) = true := by decide +kernel
set_option maxRecDepth 100000 in
theorem tb_e40 : (tb_c40).all (fun l => l.all (am_ckE tb_cl tb_aos tb_tl tb_oks tb_mt tb_mj tb_nM tb_k3 40)) = true := by decide +kernel
set_option maxRecDepth 100000 in
theorem tb_e41 : (tb_c41).all (fun l => l.all (am_ckE tb_cl tb_aos tb_tl tb_oks tb_mt tb_mj tb_nM tb_k3 41)) = true := by decide +kernel
set_option maxRecDepth 100000 in
theorem tb_e42 : (tb_c42).all (fun l => l.all (am_ckE tb_cl tb_aos tb_tl tb_oks tb_mt tb_mj tb_nM tb_k3 42)) = true := by decide +kernel
set_option maxRecDepth 100000 in
theorem tb_e43 : (tb_c43).all (fun l => l.all (am_ckE tb_cl tb_aos tb_tl tb_oks tb_mt tb_mj tb_nM tb_k4 43)) = true := by decide +kernel
set_option maxRecDepth 100000 in
theorem tb_e44 : (tb_c44).all (fun l => l.all (am_ckE tb_cl tb_aos tb_tl tb_oks tb_mt tb_mj tb_nM tb_k4 44)) = true := by decide +kernel
set_option maxRecDepth 100000 in
theorem tb_e45 : (tb_c45).all (fun l => l.all (am_ckE tb_cl tb_aos tb_tl tb_oks tb_mt tb_mj tb_nM tb_k4 45)) = true := by decide +kernel
set_option maxRecDepth 100000 in
theorem tb_e46 : (tb_c46).all (fun l => l.all (am_ckE tb_cl tb_aos tb_tl tb_oks tb_mt tb_mj tb_nM tb_k4 46)) = true := by decide +kernel
set_option maxRecDepth 100000 in
theorem tb_e47 : (tb_c47).all (fun l => l.all (am_ckE tb_cl tb_aos tb_tl tb_oks tb_mt tb_mj tb_nM tb_k4 47)) = true := by decide +kernel
set_option maxRecDepth 100000 in
theorem tb_e48 : (tb_c48).all (fun l => l.all (am_ckE tb_cl tb_aos tb_tl tb_oks tb_mt tb_mj tb_nM tb_k4 48)) = true := by decide +kernel
set_option maxRecDepth 100000 in
theorem tb_e49 : (tb_c49).all (fun l => l.all (am_ckE tb_cl tb_aos tb_tl tb_oks tb_mt tb_mj tb_nM tb_k4 49)) = true := by decide +kernel
set_option maxRecDepth 100000 in
theorem tb_e50 : (tb_c50).all (fun l => l.all (am_ckE tb_cl tb_aos tb_tl tb_oks tb_mt tb_mj tb_nM tb_k4 50)) = true := by decide +kernel
set_option maxRecDepth 100000 in
theorem tb_e51 : (tb_c51).all (fun l => l.all (am_ckE tb_cl tb_aos tb_tl tb_oks tb_mt tb_mj tb_nM tb_k4 51)) = true := by decide +kernel
set_option maxRecDepth 100000 in
theorem tb_e52 : (tb_c52).all (fun l => l.all (am_ckE tb_cl tb_aos tb_tl tb_oks tb_mt tb_mj tb_nM tb_k4 52)) = true := by decide +kernel
set_option maxRecDepth 100000 in
theorem tb_e53 : (tb_c53).all (fun l => l.all (am_ckE tb_cl tb_aos tb_tl tb_oks tb_mt tb_mj tb_nM tb_k1 53)) = true := by decide +kernel
set_option maxRecDepth 100000 in
theorem tb_e54 : (tb_c54).all (fun l => l.all (am_ckE tb_cl tb_aos tb_tl tb_oks tb_mt tb_mj tb_nM tb_k1 54)) = true := by decide +kernel
set_option maxRecDepth 100000 in
theorem tb_e55 : (tb_c55).all (fun l => l.all (am_ckE tb_cl tb_aos tb_tl tb_oks tb_mt tb_mj tb_nM tb_k1 55)) = true := by decide +kernel
set_option maxRecDepth 100000 in
theorem tb_e56 : (tb_c56).all (fun l => l.all (am_ckE tb_cl tb_aos tb_tl tb_oks tb_mt tb_mj tb_nM tb_k1 56)) = true := by decide +kernel
set_option maxRecDepth 100000 in
theorem tb_e57 : (tb_c57).all (fun l => l.all (am_ckE tb_cl tb_aos tb_tl tb_oks tb_mt tb_mj tb_nM tb_k1 57)) = true := by decide +kernel
set_option maxRecDepth 100000 in
theorem tb_e58 : (tb_c58).all (fun l => l.all (am_ckE tb_cl tb_aos tb_tl tb_oks tb_mt tb_mj tb_nM tb_k1 58)) = true := by decide +kernel
set_option maxRecDepth 100000 in
theorem tb_e59 : (tb_c59).all (fun l => l.all (am_ckE tb_cl tb_aos tb_tl tb_oks tb_mt tb_mj tb_nM tb_k1 59)) = true := by decide +kernel
set_option maxRecDepth 100000 in
theorem tb_e60 : (tb_c60).all (fun l => l.all (am_ckE tb_cl tb_aos tb_tl tb_oks tb_mt tb_mj tb_nM tb_k1 60)) = true := by decide +kernel
set_option maxRecDepth 100000 in
theorem tb_e61 : (tb_c61).all (fun l => l.all (am_ckE tb_cl tb_aos tb_tl tb_oks tb_mt tb_mj tb_nM tb_k1 61)) = true := by decide +kernel
set_option maxRecDepth 100000 in
theorem tb_e62 : (tb_c62).all (fun l => l.all (am_ckE tb_cl tb_aos tb_tl tb_oks tb_mt tb_mj tb_nM tb_k1 62)) = true := by decide +kernel
set_option maxRecDepth 100000 in
theorem tb_e63 : (tb_c63).all (fun l => l.all (am_ckE tb_cl tb_aos tb_tl tb_oks tb_mt tb_mj tb_nM tb_k1 63)) = true := by decide +kernel
set_option maxRecDepth 100000 in
theorem tb_e64 : (tb_c64).all (fun l => l.all (am_ckE tb_cl tb_aos tb_tl tb_oks tb_mt tb_mj tb_nM tb_k1 64)) = true := by decide +kernel
set_option maxRecDepth 100000 in
theorem tb_e65 : (tb_c65).all (fun l => l.all (am_ckE tb_cl tb_aos tb_tl tb_oks tb_mt tb_mj tb_nM tb_k5 65)) = true := by decide +kernel
set_option maxRecDepth 100000 in
theorem tb_e66 : (tb_c66).all (fun l => l.all (am_ckE tb_cl tb_aos tb_tl tb_oks tb_mt tb_mj tb_nM tb_k5 66)) = true := by decide +kernel
set_option maxRecDepth 100000 in
theorem tb_e67 : (tb_c67).all (fun l => l.all (am_ckE tb_cl tb_aos tb_tl tb_oks tb_mt tb_mj tb_nM tb_k5 67)) = true := by decide +kernel
set_option maxRecDepth 100000 in
theorem tb_e68 : (tb_c68).all (fun l => l.all (am_ckE tb_cl tb_aos tb_tl tb_oks tb_mt tb_mj tb_nM tb_k5 68)) = true := by decide +kernel
set_option maxRecDepth 100000 in
theorem tb_e69 : (tb_c69).all (fun l => l.all (am_ckE tb_cl tb_aos tb_tl tb_oks tb_mt tb_mj tb_nM tb_k5 69)) = true := by decide +kernel
set_option maxRecDepth 100000 in
theorem tb_e70 : (tb_c70).all (fun l => l.all (am_ckE tb_cl tb_aos tb_tl tb_oks tb_mt tb_mj tb_nM tb_k5 70)) = true := by decide +kernel
set_option maxRecDepth 100000 in
theorem tb_e71 : (tb_c71).all (fun l => l.all (am_ckE tb_cl tb_aos tb_tl tb_oks tb_mt tb_mj tb_nM tb_k5 71)) = true := by decide +kernel
set_option maxRecDepth 100000 in
theorem tb_e72 : (tb_c72).all (fun l => l.all (am_ckE tb_cl tb_aos tb_tl tb_oks tb_mt tb_mj tb_nM tb_k5 72)) = true := by decide +kernel
set_option maxRecDepth 100000 in
theorem tb_e73 : (tb_c73).all (fun l => l.all (am_ckE tb_cl tb_aos tb_tl tb_oks tb_mt tb_mj tb_nM tb_k9 73)) = true := by decide +kernel
set_option maxRecDepth 100000 in
theorem tb_e74 : (tb_c74).all (fun l => l.all (am_ckE tb_cl tb_aos tb_tl tb_oks tb_mt tb_mj tb_nM tb_k9 74)) = true := by decide +kernel
set_option maxRecDepth 100000 in
theorem tb_e75 : (tb_c75).all (fun l => l.all (am_ckE tb_cl tb_aos tb_tl tb_oks tb_mt tb_mj tb_nM tb_k9 75)) = true := by decide +kernel
set_option maxRecDepth 100000 in
theorem tb_e76 : (tb_c76).all (fun l => l.all (am_ckE tb_cl tb_aos tb_tl tb_oks tb_mt tb_mj tb_nM tb_k9 76)) = true := by decide +kernel
set_option maxRecDepth 100000 in
theorem tb_e77 : (tb_c77).all (fun l => l.all (am_ckE tb_cl tb_aos tb_tl tb_oks tb_mt tb_mj tb_nM tb_k9 77)) = true := by decide +kernel
set_option maxRecDepth 100000 in
theorem tb_e78 : (tb_c78).all (fun l => l.all (am_ckE tb_cl tb_aos tb_tl tb_oks tb_mt tb_mj tb_nM tb_k9 78)) = true := by decide +kernel
set_option maxRecDepth 100000 in
theorem tb_e79 : (tb_c79).all (fun l => l.all (am_ckE tb_cl tb_aos tb_tl tb_oks tb_mt tb_mj tb_nM tb_k9 79)) = true := by decide +kernel
set_option maxRecDepth 100000 in
theorem tb_e80 : (tb_c80).all (fun l => l.all (am_ckE tb_cl tb_aos tb_tl tb_oks tb_mt tb_mj tb_nM tb_k9 80)) = true := by decide +kernel
set_option maxRecDepth 100000 in
theorem tb_e81 : (tb_c81).all (fun l => l.all (am_ckE tb_cl tb_aos tb_tl tb_oks tb_mt tb_mj tb_nM tb_k9 81)) = true := by decide +kernel
set_option maxRecDepth 100000 in
theorem tb_e82 : (tb_c82).all (fun l => l.all (am_ckE tb_cl tb_aos tb_tl tb_oks tb_mt tb_mj tb_nM tb_k9 82)) = true := by decide +kernel
set_option maxRecDepth 100000 in
theorem tb_e83 : (tb_c83).all (fun l => l.all (am_ckE tb_cl tb_aos tb_tl tb_oks tb_mt tb_mj tb_nM tb_k9 83)) = true := by decide +kernel
set_option maxRecDepth 100000 in
theorem tb_e84 : (tb_c84).all (fun l => l.all (am_ckE tb_cl tb_aos tb_tl tb_oks tb_mt tb_mj tb_nM tb_k9 84)) = true := by decide +kernel
set_option maxRecDepth 100000 in
theorem tb_e85 : (tb_c85).all (fun l => l.all (am_ckE tb_cl tb_aos tb_tl tb_oks tb_mt tb_mj tb_nM tb_k9 85)) = true := by decide +kernel
set_option maxRecDepth 100000 in
theorem tb_e86 : (tb_c86).all (fun l => l.all (am_ckE tb_cl tb_aos tb_tl tb_oks tb_mt tb_mj tb_nM tb_k9 86)) = true := by decide +kernel
set_option maxRecDepth 100000 in
theorem tb_e87 : (tb_c87).all (fun l => l.all (am_ckE tb_cl tb_aos tb_tl tb_oks tb_mt tb_mj tb_nM tb_k11 87)) = true := by decide +kernel
set_option maxRecDepth 100000 in
theorem tb_e88 : (tb_c88).all (fun l => l.all (am_ckE tb_cl tb_aos tb_tl tb_oks tb_mt tb_mj tb_nM tb_k7 88)) = true := by decide +kernel
set_option maxRecDepth 100000 in
theorem tb_e89 : (tb_c89).all (fun l => l.all (am_ckE tb_cl tb_aos tb_tl tb_oks tb_mt tb_mj tb_nM tb_k7 89)) = true := by decide +kernel
set_option maxRecDepth 100000 in
theorem tb_e90 : (tb_c90).all (fun l => l.all (am_ckE tb_cl tb_aos tb_tl tb_oks tb_mt tb_mj tb_nM tb_k7 90)) = true := by decide +kernel
set_option maxRecDepth 100000 in
theorem tb_e91 : (tb_c91).all (fun l => l.all (am_ckE tb_cl tb_aos tb_tl tb_oks tb_mt tb_mj tb_nM tb_k7 91)) = true := by decide +kernel
set_option maxRecDepth 100000 in
theorem tb_e92 : (tb_c92).all (fun l => l.all (am_ckE tb_cl tb_aos tb_tl tb_oks tb_mt tb_mj tb_nM tb_k7 92)) = true := by decide +kernel
set_option maxRecDepth 100000 in
theorem tb_e93 : (tb_c93).all (fun l => l.all (am_ckE tb_cl tb_aos tb_tl tb_oks tb_mt tb_mj tb_nM tb_k7 93)) = true := by decide +kernel
set_option maxRecDepth 100000 in
theorem tb_e94 : (tb_c94).all (fun l => l.all (am_ckE tb_cl tb_aos tb_tl tb_oks tb_mt tb_mj tb_nM tb_k7 94)) = true := by decide +kernel
set_option maxRecDepth 100000 in
theorem tb_e95 : (tb_c95).all (fun l => l.all (am_ckE tb_cl tb_aos tb_tl tb_oks tb_mt tb_mj tb_nM tb_k7 95)) = true := by decide +kernel
set_option maxRecDepth 100000 in
theorem tb_e96 : (tb_c96).all (fun l => l.all (am_ckE tb_cl tb_aos tb_tl tb_oks tb_mt tb_mj tb_nM tb_k7 96)) = true := by decide +kernel
set_option maxRecDepth 100000 in
theorem tb_e97 : (tb_c97).all (fun l => l.all (am_ckE tb_cl tb_aos tb_tl tb_oks tb_mt tb_mj tb_nM tb_k7 97)) = true := by decide +kernel
set_option maxRecDepth 100000 in
theorem tb_e98 : (tb_c98).all (fun l => l.all (am_ckE tb_cl tb_aos tb_tl tb_oks tb_mt tb_mj tb_nM tb_k7 98)) = true := by decide +kernel
set_option maxRecDepth 100000 in
theorem tb_e99 : (tb_c99).all (fun l => l.all (am_ckE tb_cl tb_aos tb_tl tb_oks tb_mt tb_mj tb_nM tb_k10 99)) = true := by decide +kernel
set_option maxRecDepth 100000 in
theorem tb_e100 : (tb_c100).all (fun l => l.all (am_ckE tb_cl tb_aos tb_tl tb_oks tb_mt tb_mj tb_nM tb_k10 100)) = true := by decide +kernel
set_option maxRecDepth 100000 in
theorem tb_e101 : (tb_c101).all (fun l => l.all (am_ckE tb_cl tb_aos tb_tl tb_oks tb_mt tb_mj tb_nM tb_k10 101)) = true := by decide +kernel
set_option maxRecDepth 100000 in
theorem tb_e102 : (tb_c102).all (fun l => l.all (am_ckE tb_cl tb_aos tb_tl tb_oks tb_mt tb_mj tb_nM tb_k10 102)) = true := by decide +kernel
set_option maxRecDepth 100000 in
theorem tb_e103 : (tb_c103).all (fun l => l.all (am_ckE tb_cl tb_aos tb_tl tb_oks tb_mt tb_mj tb_nM tb_k10 103)) = true := by decide +kernel
set_option maxRecDepth 100000 in
theorem tb_e104 : (tb_c104).all (fun l => l.all (am_ckE tb_cl tb_aos tb_tl tb_oks tb_mt tb_mj tb_nM tb_k10 104)) = true := by decide +kernel
set_option maxRecDepth 100000 in
theorem tb_e105 : (tb_c105).all (fun l => l.all (am_ckE tb_cl tb_aos tb_tl tb_oks tb_mt tb_mj tb_nM tb_k10 105)) = true := by decide +kernel
set_option maxRecDepth 100000 in
theorem tb_e106 : (tb_c106).all (fun l => l.all (am_ckE tb_cl tb_aos tb_tl tb_oks tb_mt tb_mj tb_nM tb_k2 106)) = true := by decide +kernel
set_option maxRecDepth 100000 in
theorem tb_e107 : (tb_c107).all (fun l => l.all (am_ckE tb_cl tb_aos tb_tl tb_oks tb_mt tb_mj tb_nM tb_k2 107)) = true := by decide +kernel
set_option maxRecDepth 100000 in
theorem tb_e108 : (tb_c108).all (fun l => l.all (am_ckE tb_cl tb_aos tb_tl tb_oks tb_mt tb_mj tb_nM tb_k2 108)) = true := by decide +kernel
set_option maxRecDepth 100000 in
theorem tb_e109 : (tb_c109).all (fun l => l.all (am_ckE tb_cl tb_aos tb_tl tb_oks tb_mt tb_mj tb_nM tb_k2 109)) = true := by decide +kernel
set_option maxRecDepth 100000 in
theorem tb_e110 : (tb_c110).all (fun l => l.all (am_ckE tb_cl tb_aos tb_tl tb_oks tb_mt tb_mj tb_nM tb_k2 110)) = true := by decide +kernel
set_option maxRecDepth 100000 in
theorem tb_e111 : (tb_c111).all (fun l => l.all (am_ckE tb_cl tb_aos tb_tl tb_oks tb_mt tb_mj tb_nM tb_k2 111)) = true := by decide +kernel
set_option maxRecDepth 100000 in
theorem tb_e112 : (tb_c112).all (fun l => l.all (am_ckE tb_cl tb_aos tb_tl tb_oks tb_mt tb_mj tb_nM tb_k2 112)) = true := by decide +kernel
set_option maxRecDepth 100000 in
theorem tb_e113 : (tb_c113).all (fun l => l.all (am_ckE tb_cl tb_aos tb_tl tb_oks tb_mt tb_mj tb_nM tb_k2 113)) = true := by decide +kernel
set_option maxRecDepth 100000 in
theorem tb_e114 : (tb_c114).all (fun l => l.all (am_ckE tb_cl tb_aos tb_tl tb_oks tb_mt tb_mj tb_nM tb_k2 114)) = true := by decide +kernel
set_option maxRecDepth 100000 in
theorem tb_e115 : (tb_c115).all (fun l => l.all (am_ckE tb_cl tb_aos tb_tl tb_oks tb_mt tb_mj tb_nM tb_k2 115)) = true := by decide +kernel
set_option maxRecDepth 100000 in
theorem tb_e116 : (tb_c116).all (fun l => l.all (am_ckE tb_cl tb_aos tb_tl tb_oks tb_mt tb_mj tb_nM tb_k2 116)) = true := by decide +kernel
set_option maxRecDepth 100000 in
theorem tb_e117 : (tb_c117).all (fun l => l.all (am_ckE tb_cl tb_aos tb_tl tb_oks tb_mt tb_mj tb_nM tb_k2 117)) = true := by decide +kernel
set_option maxRecDepth 100000 in
theorem tb_e118 : (tb_c118).all (fun l => l.all (am_ckE tb_cl tb_aos tb_tl tb_oks tb_mt tb_mj tb_nM tb_k2 118)) = true := by decide +kernel
set_option maxRecDepth 100000 in
theorem tb_e119 : (tb_c119).all (fun l => l.all (am_ckE tb_cl tb_aos tb_tl tb_oks tb_mt tb_mj tb_nM tb_k2 119)) = true := by decide +kernel
set_option maxRecDepth 100000 in
theorem tb_e120 : (tb_c120).all (fun l => l.all (am_ckE tb_cl tb_aos tb_tl tb_oks tb_mt tb_mj tb_nM tb_k6 120)) = true := by decide +kernel
set_option maxRecDepth 100000 in
theorem tb_e121 : (tb_c121).all (fun l => l.all (am_ckE tb_cl tb_aos tb_tl tb_oks tb_mt tb_mj tb_nM tb_k6 121)) = true := by decide +kernel
set_option maxRecDepth 100000 in
theorem tb_e122 : (tb_c122).all (fun l => l.all (am_ckE tb_cl tb_aos tb_tl tb_oks tb_mt tb_mj tb_nM tb_k6 122)) = true := by decide +kernel
set_option maxRecDepth 100000 in
theorem tb_e123 : (tb_c123).all (fun l => l.all (am_ckE tb_cl tb_aos tb_tl tb_oks tb_mt tb_mj tb_nM tb_k6 123)) = true := by decide +kernel
set_option maxRecDepth 100000 in
theorem tb_e124 : (tb_c124).all (fun l => l.all (am_ckE tb_cl tb_aos tb_tl tb_oks tb_mt tb_mj tb_nM tb_k6 124)) = true := by decide +kernel
set_option maxRecDepth 100000 in
theorem tb_e125 : (tb_c125).all (fun l => l.all (am_ckE tb_cl tb_aos tb_tl tb_oks tb_mt tb_mj tb_nM tb_k12 125)) = true := by decide +kernel
set_option maxRecDepth 100000 in
theorem tb_e126 : (tb_c126).all (fun l => l.all (am_ckE tb_cl tb_aos tb_tl tb_oks tb_mt tb_mj tb_nM tb_k12 126)) = true := by decide +kernel
set_option maxRecDepth 100000 in
theorem tb_e127 : (tb_c127).all (fun l => l.all (am_ckE tb_cl tb_aos tb_tl tb_oks tb_mt tb_mj tb_nM tb_k12 127)) = true := by decide +kernel
set_option maxRecDepth 100000 in
theorem tb_e128 : (tb_c128).all (fun l => l.all (am_ckE tb_cl tb_aos tb_tl tb_oks tb_mt tb_mj tb_nM tb_k12 128)) = true := by decide +kernel
set_option maxRecDepth 100000 in
theorem tb_e129 : (tb_c129).all (fun l => l.all (am_ckE tb_cl tb_aos tb_tl tb_oks tb_mt tb_mj tb_nM tb_k12 129)) = true := by decide +kernel
set_option maxRecDepth 100000 in
theorem tb_e130 : (tb_c130).all (fun l => l.all (am_ckE tb_cl tb_aos tb_tl tb_oks tb_mt tb_mj tb_nM tb_k12 130)) = true := by decide +kernel
set_option maxRecDepth 100000 in
theorem tb_e131 : (tb_c131).all (fun l => l.all (am_ckE tb_cl tb_aos tb_tl tb_oks tb_mt tb_mj tb_nM tb_k12 131)) = true := by decide +kernel
set_option maxRecDepth 100000 in
theorem tb_e132 : (tb_c132).all (fun l => l.all (am_ckE tb_cl tb_aos tb_tl tb_oks tb_mt tb_mj tb_nM tb_k12 132)) = true := by decide +kernel
set_option maxRecDepth 100000 in
theorem tb_e133 : (tb_c133).all (fun l => l.all (am_ckE tb_cl tb_aos tb_tl tb_oks tb_mt tb_mj tb_nM tb_k12 133)) = true := by decide +kernel
set_option maxRecDepth 100000 in
theorem tb_e134 : (tb_c134).all (fun l => l.all (am_ckE tb_cl tb_aos tb_tl tb_oks tb_mt tb_mj tb_nM tb_k12 134)) = true := by decide +kernel
set_option maxRecDepth 100000 in
theorem tb_e135 : (tb_c135).all (fun l => l.all (am_ckE tb_cl tb_aos tb_tl tb_oks tb_mt tb_mj tb_nM tb_k12 135)) = true := by decide +kernel
set_option maxRecDepth 100000 in
theorem tb_e136 : (tb_c136).all (fun l => l.all (am_ckE tb_cl tb_aos tb_tl tb_oks tb_mt tb_mj tb_nM tb_k12 136)) = true := by decide +kernel
set_option maxRecDepth 100000 in
theorem tb_e137 : (tb_c137).all (fun l => l.all (am_ckE tb_cl tb_aos tb_tl tb_oks tb_mt tb_mj tb_nM tb_k12 137)) = true := by decide +kernel
set_option maxRecDepth 100000 in
theorem tb_e138 : (tb_c138).all (fun l => l.all (am_ckE tb_cl tb_aos tb_tl tb_oks tb_mt tb_mj tb_nM tb_k12 138)) = true := by decide +kernel
set_option maxRecDepth 100000 in
theorem tb_e139 : (tb_c139).all (fun l => l.all (am_ckE tb_cl tb_aos tb_tl tb_oks tb_mt tb_mj tb_nM tb_k12 139)) = true := by decide +kernel
set_option maxRecDepth 100000 in
theorem tb_e140 : (tb_c140).all (fun l => l.all (am_ckE tb_cl tb_aos tb_tl tb_oks tb_mt tb_mj tb_nM tb_k12 140)) = true := by decide +kernel
set_option maxRecDepth 100000 in
theorem tb_e141 : (tb_c141).all (fun l => l.all (am_ckE tb_cl tb_aos tb_tl tb_oks tb_mt tb_mj tb_nM tb_k12 141)) = true := by decide +kernel
set_option maxRecDepth 100000 in
theorem tb_e142 : (tb_c142).all (fun l => l.all (am_ckE tb_cl tb_aos tb_tl tb_oks tb_mt tb_mj tb_nM tb_k12 142)) = true := by decide +kernel
set_option maxRecDepth 100000 in
theorem tb_e143 : (tb_c143).all (fun l => l.all (am_ckE tb_cl tb_aos tb_tl tb_oks tb_mt tb_mj tb_nM tb_k12 143)) = true := by decide +kernel
set_option maxRecDepth 100000 in
theorem tb_e144 : (tb_c144).all (fun l => l.all (am_ckE tb_cl tb_aos tb_tl tb_oks tb_mt tb_mj tb_nM tb_k12 144)) = true := by decide +kernel
set_option maxRecDepth 100000 in
theorem tb_e145 : (tb_c145).all (fun l => l.all (am_ckE tb_cl tb_aos tb_tl tb_oks tb_mt tb_mj tb_nM tb_k12 145)) = true := by decide +kernel
set_option maxRecDepth 100000 in
theorem tb_e146 : (tb_c146).all (fun l => l.all (am_ckE tb_cl tb_aos tb_tl tb_oks tb_mt tb_mj tb_nM tb_k12 146)) = true := by decide +kernel
set_option maxRecDepth 100000 in
theorem tb_e147 : (tb_c147).all (fun l => l.all (am_ckE tb_cl tb_aos tb_tl tb_oks tb_mt tb_mj tb_nM tb_k12 147)) = true := by decide +kernel
set_option maxRecDepth 100000 in
theorem tb_e148 : (tb_c148).all (fun l => l.all (am_ckE tb_cl tb_aos tb_tl tb_oks tb_mt tb_mj tb_nM tb_k12 148)) = true := by decide +kernel
set_option maxRecDepth 100000 in
theorem tb_e149 : (tb_c149).all (fun l => l.all (am_ckE tb_cl tb_aos tb_tl tb_oks tb_mt tb_mj tb_nM tb_k12 149)) = true := by decide +kernel
set_option maxRecDepth 100000 in
theorem tb_e150 : (tb_c150).all (fun l => l.all (am_ckE tb_cl tb_aos tb_tl tb_oks tb_mt tb_mj tb_nM tb_k12 150)) = true := by decide +kernel
set_option maxRecDepth 100000 in
theorem tb_e151 : (tb_c151).all (fun l => l.all (am_ckE tb_cl tb_aos tb_tl tb_oks tb_mt tb_mj tb_nM tb_k12 151)) = true := by decide +kernel
set_option maxRecDepth 100000 in
theorem tb_e152 : (tb_c152).all (fun l => l.all (am_ckE tb_cl tb_aos tb_tl tb_oks tb_mt tb_mj tb_nM tb_k12 152)) = true := by decide +kernel
set_option maxRecDepth 100000 in
theorem tb_e153 : (tb_c153).all (fun l => l.all (am_ckE tb_cl tb_aos tb_tl tb_oks tb_mt tb_mj tb_nM tb_k12 153)) = true := by decide +kernel
set_option maxRecDepth 100000 in
theorem tb_e154 : (tb_c154).all (fun l => l.all (am_ckE tb_cl tb_aos tb_tl tb_oks tb_mt tb_mj tb_nM tb_k12 154)) = true := by decide +kernel
set_option maxRecDepth 100000 in
theorem tb_e155 : (tb_c155).all (fun l => l.all (am_ckE tb_cl tb_aos tb_tl tb_oks tb_mt tb_mj tb_nM tb_k12 155)) = true := by decide +kernel
set_option maxRecDepth 100000 in
theorem tb_e156 : (tb_c156).all (fun l => l.all (am_ckE tb_cl tb_aos tb_tl tb_oks tb_mt tb_mj tb_nM tb_k12 156)) = true := by decide +kernel
set_option maxRecDepth 100000 in
theorem tb_e157 : (tb_c157).all (fun l => l.all (am_ckE tb_cl tb_aos tb_tl tb_oks tb_mt tb_mj tb_nM tb_k12 157)) = true := by decide +kernel
set_option maxRecDepth 100000 in
theorem tb_e158 : (tb_c158).all (fun l => l.all (am_ckE tb_cl tb_aos tb_tl tb_oks tb_mt tb_mj tb_nM tb_k12 158)) = true := by decide +kernel
set_option maxRecDepth 100000 in
theorem tb_e159 : (tb_c159).all (fun l => l.all (am_ckE tb_cl tb_aos tb_tl tb_oks tb_mt tb_mj tb_nM tb_k12 159)) = true := by decide +kernel
set_option maxRecDepth 100000 in
theorem tb_e160 : (tb_c160).all (fun l => l.all (am_ckE tb_cl tb_aos tb_tl tb_oks tb_mt tb_mj tb_nM tb_k12 160)) = true := by decide +kernel
set_option maxRecDepth 100000 in
theorem tb_e161 : (tb_c161).all (fun l => l.all (am_ckE tb_cl tb_aos tb_tl tb_oks tb_mt tb_mj tb_nM tb_k12 161)) = true := by decide +kernel
set_option maxRecDepth 100000 in
theorem tb_e162 : (tb_c162).all (fun l => l.all (am_ckE tb_cl tb_aos tb_tl tb_oks tb_mt tb_mj tb_nM tb_k12 162)) = true := by decide +kernel
set_option maxRecDepth 100000 in
theorem tb_e163 : (tb_c163).all (fun l => l.all (am_ckE tb_cl tb_aos tb_tl tb_oks tb_mt tb_mj tb_nM tb_k12 163)) = true := by decide +kernel
set_option maxRecDepth 100000 in
theorem tb_e164 : (tb_c164).all (fun l => l.all (am_ckE tb_cl tb_aos tb_tl tb_oks tb_mt tb_mj tb_nM tb_k12 164)) = true := by decide +kernel
set_option maxRecDepth 100000 in
theorem tb_e165 : (tb_c165).all (fun l => l.all (am_ckE tb_cl tb_aos tb_tl tb_oks tb_mt tb_mj tb_nM tb_k12 165)) = true := by decide +kernel
set_option maxRecDepth 100000 in
theorem tb_e166 : (tb_c166).all (fun l => l.all (am_ckE tb_cl tb_aos tb_tl tb_oks tb_mt tb_mj tb_nM tb_k12 166)) = true := by decide +kernel
set_option maxRecDepth 100000 in
theorem tb_e167 : (tb_c167).all (fun l => l.all (am_ckE tb_cl tb_aos tb_tl tb_oks tb_mt tb_mj tb_nM tb_k12 167)) = true := by decide +kernel
set_option maxRecDepth 100000 in
theorem tb_e168 : (tb_c168).all (fun l => l.all (am_ckE tb_cl tb_aos tb_tl tb_oks tb_mt tb_mj tb_nM tb_k12 168)) = true := by decide +kernel
set_option maxRecDepth 100000 in
theorem tb_e169 : (tb_c169).all (fun l => l.all (am_ckE tb_cl tb_aos tb_tl tb_oks tb_mt tb_mj tb_nM tb_k12 169)) = true := by decide +kernel
set_option maxRecDepth 100000 in
theorem tb_e170 : (tb_c170).all (fun l => l.all (am_ckE tb_cl tb_aos tb_tl tb_oks tb_mt tb_mj tb_nM tb_k12 170)) = true := by decide +kernel
set_option maxRecDepth 100000 in
theorem tb_e171 : (tb_c171).all (fun l => l.all (am_ckE tb_cl tb_aos tb_tl tb_oks tb_mt tb_mj tb_nM tb_k12 171)) = true := by decide +kernel
set_option maxRecDepth 100000 in
theorem tb_e172 : (tb_c172).all (fun l => l.all (am_ckE tb_cl tb_aos tb_tl tb_oks tb_mt tb_mj tb_nM tb_k12 172)) = true := by decide +kernel
set_option maxRecDepth 100000 in
theorem tb_e173 : (tb_c173).all (fun l => l.all (am_ckE tb_cl tb_aos tb_tl tb_oks tb_mt tb_mj tb_nM tb_k12 173)) = true := by decide +kernel
set_option maxRecDepth 100000 in
theorem tb_e174 : (tb_c174).all (fun l => l.all (am_ckE tb_cl tb_aos tb_tl tb_oks tb_mt tb_mj tb_nM tb_k12 174)) = true := by decide +kernel
set_option maxRecDepth 100000 in
theorem tb_e175 : (tb_c175).all (fun l => l.all (am_ckE tb_cl tb_aos tb_tl tb_oks tb_mt tb_mj tb_nM tb_k12 175)) = true := by decide +kernel
set_option maxRecDepth 100000 in
theorem tb_e176 : (tb_c176).all (fun l => l.all (am_ckE tb_cl tb_aos tb_tl tb_oks tb_mt tb_mj tb_nM tb_k12 176)) = true := by decide +kernel
set_option maxRecDepth 100000 in
theorem tb_e177 : (tb_c177).all (fun l => l.all (am_ckE tb_cl tb_aos tb_tl tb_oks tb_mt tb_mj tb_nM tb_k12 177)) = true := by decide +kernel
set_option maxRecDepth 100000 in
theorem tb_e178 : (tb_c178).all (fun l => l.all (am_ckE tb_cl tb_aos tb_tl tb_oks tb_mt tb_mj tb_nM tb_k12 178)) = true := by decide +kernel
set_option maxRecDepth 100000 in
theorem tb_e179 : (tb_c179).all (fun l => l.all (am_ckE tb_cl tb_aos tb_tl tb_oks tb_mt tb_mj tb_nM tb_k12 179)) = true := by decide +kernel
set_option maxRecDepth 100000 in
theorem tb_e180 : (tb_c180).all (fun l => l.all (am_ckE tb_cl tb_aos tb_tl tb_oks tb_mt tb_mj tb_nM tb_k12 180)) = true := by decide +kernel
set_option maxRecDepth 100000 in
theorem tb_e181 : (tb_c181).all (fun l => l.all (am_ckE tb_cl tb_aos tb_tl tb_oks tb_mt tb_mj tb_nM tb_k12 181)) = true := by decide +kernel
set_option maxRecDepth 100000 in
theorem tb_e182 : (tb_c182).all (fun l => l.all (am_ckE tb_cl tb_aos tb_tl tb_oks tb_mt tb_mj tb_nM tb_k12 182)) = true := by decide +kernel
set_option maxRecDepth 100000 in
theorem tb_e183 : (tb_c183).all (fun l => l.all (am_ckE tb_cl tb_aos tb_tl tb_oks tb_mt tb_mj tb_nM tb_k12 183)) = true := by decide +kernel
set_option maxRecDepth 100000 in
theorem tb_e184 : (tb_c184).all (fun l => l.all (am_ckE tb_cl tb_aos tb_tl tb_oks tb_mt tb_mj tb_nM tb_k12 184)) = true := by decide +kernel
set_option maxRecDepth 100000 in
theorem tb_e185 : (tb_c185).all (fun l => l.all (am_ckE tb_cl tb_aos tb_tl tb_oks tb_mt tb_mj tb_nM tb_k12 185)) = true := by decide +kernel
set_option maxRecDepth 100000 in
theorem tb_e186 : (tb_c186).all (fun l => l.all (am_ckE tb_cl tb_aos tb_tl tb_oks tb_mt tb_mj tb_nM tb_k12 186)) = true := by decide +kernel
set_option maxRecDepth 100000 in
theorem tb_e187 : (tb_c187).all (fun l => l.all (am_ckE tb_cl tb_aos tb_tl tb_oks tb_mt tb_mj tb_nM tb_k12 187)) = true := by decide +kernel
set_option maxRecDepth 100000 in
theorem tb_e188 : (tb_c188).all (fun l => l.all (am_ckE tb_cl tb_aos tb_tl tb_oks tb_mt tb_mj tb_nM tb_k12 188)) = true := by decide +kernel
set_option maxRecDepth 100000 in
theorem tb_e189 : (tb_c189).all (fun l => l.all (am_ckE tb_cl tb_aos tb_tl tb_oks tb_mt tb_mj tb_nM tb_k12 189)) = true := by decide +kernel
set_option maxRecDepth 100000 in
theorem tb_e190 : (tb_c190).all (fun l => l.all (am_ckE tb_cl tb_aos tb_tl tb_oks tb_mt tb_mj tb_nM tb_k12 190)) = true := by decide +kernel
set_option maxRecDepth 100000 in
theorem tb_e191 : (tb_c191).all (fun l => l.all (am_ckE tb_cl tb_aos tb_tl tb_oks tb_mt tb_mj tb_nM tb_k12 191)) = true := by decide +kernel
set_option maxRecDepth 100000 in
theorem tb_e192 : (tb_c192).all (fun l => l.all (am_ckE tb_cl tb_aos tb_tl tb_oks tb_mt tb_mj tb_nM tb_k14 192)) = true := by decide +kernel
set_option maxRecDepth 100000 in
theorem tb_e193 : (tb_c193).all (fun l => l.all (am_ckE tb_cl tb_aos tb_tl tb_oks tb_mt tb_mj tb_nM tb_k15 193)) = true := by decide +kernel
set_option maxRecDepth 100000 in
theorem tb_e194 : (tb_c194).all (fun l => l.all (am_ckE tb_cl tb_aos tb_tl tb_oks tb_mt tb_mj tb_nM tb_k15 194)) = true := by decide +kernel
set_option maxRecDepth 100000 in
theorem tb_e195 : (tb_c195).all (fun l => l.all (am_ckE tb_cl tb_aos tb_tl tb_oks tb_mt tb_mj tb_nM tb_k15 195)) = true := by decide +kernel
set_option maxRecDepth 100000 in
theorem tb_e196 : (tb_c196).all (fun l => l.all (am_ckE tb_cl tb_aos tb_tl tb_oks tb_mt tb_mj tb_nM tb_k15 196)) = true := by decide +kernel
theorem tb_okq : am_okq tb_tbl tb_cl tb_P tb_oks := (am_fa1 tb_q0 (am_fa1 tb_q1 (am_fa1 tb_q2 (am_fa1 tb_q3 (am_fa1 tb_q4 (am_fa1 tb_q5 (am_fa1 tb_q6 (am_fa1 tb_q7 (am_fa1 tb_q8 (am_fa1 tb_q9 (am_fa1 tb_q10 (am_fa1 tb_q11 (am_fa1 tb_q12 am_fa0)))))))))))))
theorem tb_okC : am_okC tb_cl tb_tbl tb_P.1 := by
  intro ci q h
  match ci, h with
  | 0, h => cases h; exact ⟨tb_u0, tb_ty0, tb_nm0⟩
  | 1, h => cases h; exact ⟨tb_u1, tb_ty1, tb_nm1⟩
  | 2, h => cases h; exact ⟨tb_u2, tb_ty2, tb_nm2⟩
  | 3, h => cases h; exact ⟨tb_u3, tb_ty3, tb_nm3⟩
  | 4, h => cases h; exact ⟨tb_u4, tb_ty4, tb_nm4⟩
  | 5, h => cases h; exact ⟨tb_u5, tb_ty5, tb_nm5⟩
  | 6, h => cases h; exact ⟨tb_u6, tb_ty6, tb_nm6⟩
  | 7, h => cases h; exact ⟨tb_u7, tb_ty7, tb_nm7⟩
  | 8, h => cases h; exact ⟨tb_u8, tb_ty8, tb_nm8⟩
  | 9, h => cases h; exact ⟨tb_u9, tb_ty9, tb_nm9⟩
  | 10, h => cases h; exact ⟨tb_u10, tb_ty10, tb_nm10⟩
  | 11, h => cases h; exact ⟨tb_u11, tb_ty11, tb_nm11⟩
  | 12, h => cases h; exact ⟨tb_u12, tb_ty12, tb_nm12⟩
  | n + 13, h => simp [tb_cl] at h
theorem tb_okj : am_okj tb_tbl tb_cl tb_mt tb_mj tb_nM := by
  intro j h0 h
  match j, h0, h with
  | 0, h0, _ => exact absurd h0 (by decide)
  | 1, _, _ => exact tb_j1
  | 2, _, _ => exact tb_j2
  | 3, _, _ => exact tb_j3
  | 4, _, _ => exact tb_j4
  | 5, _, _ => exact tb_j5
  | 6, _, _ => exact tb_j6
  | 7, _, _ => exact tb_j7
  | 8, _, _ => exact tb_j8
  | 9, _, _ => exact tb_j9
  | 10, _, _ => exact tb_j10
  | 11, _, _ => exact tb_j11
  | 12, _, _ => exact tb_j12
  | 13, _, _ => exact tb_j13
  | 14, _, _ => exact tb_j14
  | 15, _, _ => exact tb_j15
  | 16, _, _ => exact tb_j16
  | 17, _, _ => exact tb_j17
  | 18, _, _ => exact tb_j18
  | 19, _, _ => exact tb_j19
  | 20, _, _ => exact tb_j20
  | 21, _, _ => exact tb_j21
  | 22, _, _ => exact tb_j22
  | 23, _, _ => exact tb_j23
  | 24, _, _ => exact tb_j24
  | 25, _, _ => exact tb_j25
  | 26, _, _ => exact tb_j26
  | 27, _, _ => exact tb_j27
  | 28, _, _ => exact tb_j28
  | 29, _, _ => exact tb_j29
  | 30, _, _ => exact tb_j30
  | 31, _, _ => exact tb_j31
  | 32, _, _ => exact tb_j32
  | 33, _, _ => exact tb_j33
  | 34, _, _ => exact tb_j34
  | 35, _, _ => exact tb_j35
  | 36, _, _ => exact tb_j36
  | 37, _, _ => exact tb_j37
  | 38, _, _ => exact tb_j38
  | 39, _, _ => exact tb_j39
  | 40, _, _ => exact tb_j40
  | 41, _, _ => exact tb_j41
  | 42, _, _ => exact tb_j42
  | 43, _, _ => exact tb_j43
  | 44, _, _ => exact tb_j44
  | 45, _, _ => exact tb_j45
  | 46, _, _ => exact tb_j46
  | 47, _, _ => exact tb_j47
  | 48, _, _ => exact tb_j48
  | 49, _, _ => exact tb_j49
  | 50, _, _ => exact tb_j50
  | 51, _, _ => exact tb_j51
  | 52, _, _ => exact tb_j52
  | 53, _, _ => exact tb_j53
  | 54, _, _ => exact tb_j54
  | 55, _, _ => exact tb_j55
  | 56, _, _ => exact tb_j56
  | 57, _, _ => exact tb_j57
  | 58, _, _ => exact tb_j58
  | 59, _, _ => exact tb_j59
  | 60, _, _ => exact tb_j60
  | 61, _, _ => exact tb_j61
  | 62, _, _ => exact tb_j62
  | 63, _, _ => exact tb_j63
  | 64, _, _ => exact tb_j64
  | 65, _, _ => exact tb_j65
  | 66, _, _ => exact tb_j66
  | 67, _, _ => exact tb_j67
  | 68, _, _ => exact tb_j68
  | 69, _, _ => exact tb_j69
  | 70, _, _ => exact tb_j70
  | 71, _, _ => exact tb_j71
  | 72, _, _ => exact tb_j72
  | 73, _, _ => exact tb_j73
  | 74, _, _ => exact tb_j74
  | 75, _, _ => exact tb_j75
  | 76, _, _ => exact tb_j76
  | 77, _, _ => exact tb_j77
  | 78, _, _ => exact tb_j78
  | 79, _, _ => exact tb_j79
  | 80, _, _ => exact tb_j80
  | 81, _, _ => exact tb_j81
  | 82, _, _ => exact tb_j82
  | 83, _, _ => exact tb_j83
  | 84, _, _ => exact tb_j84
  | 85, _, _ => exact tb_j85
  | 86, _, _ => exact tb_j86
  | 87, _, _ => exact tb_j87
  | 88, _, _ => exact tb_j88
  | 89, _, _ => exact tb_j89
  | 90, _, _ => exact tb_j90
  | 91, _, _ => exact tb_j91
  | 92, _, _ => exact tb_j92
  | 93, _, _ => exact tb_j93
  | 94, _, _ => exact tb_j94
  | 95, _, _ => exact tb_j95
  | 96, _, _ => exact tb_j96
  | 97, _, _ => exact tb_j97
  | 98, _, _ => exact tb_j98
  | 99, _, _ => exact tb_j99
  | 100, _, _ => exact tb_j100
  | 101, _, _ => exact tb_j101
  | 102, _, _ => exact tb_j102
  | 103, _, _ => exact tb_j103
  | 104, _, _ => exact tb_j104
  | 105, _, _ => exact tb_j105
  | 106, _, _ => exact tb_j106
  | 107, _, _ => exact tb_j107
  | 108, _, _ => exact tb_j108
  | 109, _, _ => exact tb_j109
  | 110, _, _ => exact tb_j110
  | 111, _, _ => exact tb_j111
  | 112, _, _ => exact tb_j112
  | 113, _, _ => exact tb_j113
  | 114, _, _ => exact tb_j114
  | 115, _, _ => exact tb_j115
  | 116, _, _ => exact tb_j116
  | 117, _, _ => exact tb_j117
  | 118, _, _ => exact tb_j118
  | 119, _, _ => exact tb_j119
  | 120, _, _ => exact tb_j120
  | 121, _, _ => exact tb_j121
  | 122, _, _ => exact tb_j122
  | 123, _, _ => exact tb_j123
  | 124, _, _ => exact tb_j124
  | 125, _, _ => exact tb_j125
  | 126, _, _ => exact tb_j126
  | 127, _, _ => exact tb_j127
  | 128, _, _ => exact tb_j128
  | 129, _, _ => exact tb_j129
  | 130, _, _ => exact tb_j130
  | 131, _, _ => exact tb_j131
  | 132, _, _ => exact tb_j132
  | 133, _, _ => exact tb_j133
  | 134, _, _ => exact tb_j134
  | 135, _, _ => exact tb_j135
  | 136, _, _ => exact tb_j136
  | 137, _, _ => exact tb_j137
  | 138, _, _ => exact tb_j138
  | 139, _, _ => exact tb_j139
  | 140, _, _ => exact tb_j140
  | 141, _, _ => exact tb_j141
  | 142, _, _ => exact tb_j142
  | 143, _, _ => exact tb_j143
  | 144, _, _ => exact tb_j144
  | 145, _, _ => exact tb_j145
  | 146, _, _ => exact tb_j146
  | 147, _, _ => exact tb_j147
  | 148, _, _ => exact tb_j148
  | 149, _, _ => exact tb_j149
  | 150, _, _ => exact tb_j150
  | 151, _, _ => exact tb_j151
  | 152, _, _ => exact tb_j152
  | 153, _, _ => exact tb_j153
  | 154, _, _ => exact tb_j154
  | 155, _, _ => exact tb_j155
  | 156, _, _ => exact tb_j156
  | 157, _, _ => exact tb_j157
  | 158, _, _ => exact tb_j158
  | 159, _, _ => exact tb_j159
  | 160, _, _ => exact tb_j160
  | 161, _, _ => exact tb_j161
  | 162, _, _ => exact tb_j162
  | 163, _, _ => exact tb_j163
  | 164, _, _ => exact tb_j164
  | 165, _, _ => exact tb_j165
  | 166, _, _ => exact tb_j166
  | 167, _, _ => exact tb_j167
  | 168, _, _ => exact tb_j168
  | 169, _, _ => exact tb_j169
  | 170, _, _ => exact tb_j170
  | 171, _, _ => exact tb_j171
  | 172, _, _ => exact tb_j172
  | 173, _, _ => exact tb_j173
  | 174, _, _ => exact tb_j174
  | 175, _, _ => exact tb_j175
  | 176, _, _ => exact tb_j176
  | 177, _, _ => exact tb_j177
  | 178, _, _ => exact tb_j178
  | 179, _, _ => exact tb_j179
  | 180, _, _ => exact tb_j180
  | 181, _, _ => exact tb_j181
  | 182, _, _ => exact tb_j182
  | 183, _, _ => exact tb_j183
  | 184, _, _ => exact tb_j184
  | 185, _, _ => exact tb_j185
  | 186, _, _ => exact tb_j186
  | 187, _, _ => exact tb_j187
  | 188, _, _ => exact tb_j188
  | 189, _, _ => exact tb_j189
  | 190, _, _ => exact tb_j190
  | 191, _, _ => exact tb_j191
  | 192, _, _ => exact tb_j192
  | 193, _, _ => exact tb_j193
  | 194, _, _ => exact tb_j194
  | 195, _, _ => exact tb_j195
  | 196, _, _ => exact tb_j196
  | n + 197, _, h => exact absurd h (by simp [tb_nM])
theorem tb_okL : ∀ mi, mi < tb_nM → ∃ K, am_vK tb_tbl tb_nst tb_cl tb_tl tb_mt (tb_mt mi).1.cls K ∧ (tb_code mi).all (fun l => l.all (am_ckE tb_cl tb_aos tb_tl tb_oks tb_mt tb_mj tb_nM K mi)) = true := by
  intro mi h
  match mi, h with
  | 0, _ => exact ⟨tb_k13, tb_v13, tb_e0⟩
  | 1, _ => exact ⟨tb_k0, tb_v0, tb_e1⟩
  | 2, _ => exact ⟨tb_k0, tb_v0, tb_e2⟩
  | 3, _ => exact ⟨tb_k0, tb_v0, tb_e3⟩
  | 4, _ => exact ⟨tb_k0, tb_v0, tb_e4⟩
  | 5, _ => exact ⟨tb_k0, tb_v0, tb_e5⟩
  | 6, _ => exact ⟨tb_k0, tb_v0, tb_e6⟩
  | 7, _ => exact ⟨tb_k0, tb_v0, tb_e7⟩
  | 8, _ => exact ⟨tb_k0, tb_v0, tb_e8⟩
  | 9, _ => exact ⟨tb_k0, tb_v0, tb_e9⟩
  | 10, _ => exact ⟨tb_k0, tb_v0, tb_e10⟩
  | 11, _ => exact ⟨tb_k0, tb_v0, tb_e11⟩
  | 12, _ => exact ⟨tb_k0, tb_v0, tb_e12⟩
  | 13, _ => exact ⟨tb_k0, tb_v0, tb_e13⟩
  | 14, _ => exact ⟨tb_k0, tb_v0, tb_e14⟩
  | 15, _ => exact ⟨tb_k0, tb_v0, tb_e15⟩
  | 16, _ => exact ⟨tb_k0, tb_v0, tb_e16⟩
  | 17, _ => exact ⟨tb_k0, tb_v0, tb_e17⟩
  | 18, _ => exact ⟨tb_k0, tb_v0, tb_e18⟩
  | 19, _ => exact ⟨tb_k0, tb_v0, tb_e19⟩
  | 20, _ => exact ⟨tb_k0, tb_v0, tb_e20⟩
  | 21, _ => exact ⟨tb_k8, tb_v8, tb_e21⟩
  | 22, _ => exact ⟨tb_k8, tb_v8, tb_e22⟩
  | 23, _ => exact ⟨tb_k8, tb_v8, tb_e23⟩
  | 24, _ => exact ⟨tb_k8, tb_v8, tb_e24⟩
  | 25, _ => exact ⟨tb_k8, tb_v8, tb_e25⟩
  | 26, _ => exact ⟨tb_k8, tb_v8, tb_e26⟩
  | 27, _ => exact ⟨tb_k8, tb_v8, tb_e27⟩
  | 28, _ => exact ⟨tb_k8, tb_v8, tb_e28⟩
  | 29, _ => exact ⟨tb_k8, tb_v8, tb_e29⟩
  | 30, _ => exact ⟨tb_k8, tb_v8, tb_e30⟩
  | 31, _ => exact ⟨tb_k3, tb_v3, tb_e31⟩
  | 32, _ => exact ⟨tb_k3, tb_v3, tb_e32⟩
  | 33, _ => exact ⟨tb_k3, tb_v3, tb_e33⟩
  | 34, _ => exact ⟨tb_k3, tb_v3, tb_e34⟩
  | 35, _ => exact ⟨tb_k3, tb_v3, tb_e35⟩
  | 36, _ => exact ⟨tb_k3, tb_v3, tb_e36⟩
  | 37, _ => exact ⟨tb_k3, tb_v3, tb_e37⟩
  | 38, _ => exact ⟨tb_k3, tb_v3, tb_e38⟩
  | 39, _ => exact ⟨tb_k3, tb_v3, tb_e39⟩
  | 40, _ => exact ⟨tb_k3, tb_v3, tb_e40⟩
  | 41, _ => exact ⟨tb_k3, tb_v3, tb_e41⟩
  | 42, _ => exact ⟨tb_k3, tb_v3, tb_e42⟩
  | 43, _ => exact ⟨tb_k4, tb_v4, tb_e43⟩
  | 44, _ => exact ⟨tb_k4, tb_v4, tb_e44⟩
  | 45, _ => exact ⟨tb_k4, tb_v4, tb_e45⟩
  | 46, _ => exact ⟨tb_k4, tb_v4, tb_e46⟩
  | 47, _ => exact ⟨tb_k4, tb_v4, tb_e47⟩
  | 48, _ => exact ⟨tb_k4, tb_v4, tb_e48⟩
  | 49, _ => exact ⟨tb_k4, tb_v4, tb_e49⟩
  | 50, _ => exact ⟨tb_k4, tb_v4, tb_e50⟩
  | 51, _ => exact ⟨tb_k4, tb_v4, tb_e51⟩
  | 52, _ => exact ⟨tb_k4, tb_v4, tb_e52⟩
  | 53, _ => exact ⟨tb_k1, tb_v1, tb_e53⟩
  | 54, _ => exact ⟨tb_k1, tb_v1, tb_e54⟩
  | 55, _ => exact ⟨tb_k1, tb_v1, tb_e55⟩
  | 56, _ => exact ⟨tb_k1, tb_v1, tb_e56⟩
  | 57, _ => exact ⟨tb_k1, tb_v1, tb_e57⟩
  | 58, _ => exact ⟨tb_k1, tb_v1, tb_e58⟩
  | 59, _ => exact ⟨tb_k1, tb_v1, tb_e59⟩
  | 60, _ => exact ⟨tb_k1, tb_v1, tb_e60⟩
  | 61, _ => exact ⟨tb_k1, tb_v1, tb_e61⟩
  | 62, _ => exact ⟨tb_k1, tb_v1, tb_e62⟩
  | 63, _ => exact ⟨tb_k1, tb_v1, tb_e63⟩
  | 64, _ => exact ⟨tb_k1, tb_v1, tb_e64⟩
  | 65, _ => exact ⟨tb_k5, tb_v5, tb_e65⟩
  | 66, _ => exact ⟨tb_k5, tb_v5, tb_e66⟩
  | 67, _ => exact ⟨tb_k5, tb_v5, tb_e67⟩
  | 68, _ => exact ⟨tb_k5, tb_v5, tb_e68⟩
  | 69, _ => exact ⟨tb_k5, tb_v5, tb_e69⟩
  | 70, _ => exact ⟨tb_k5, tb_v5, tb_e70⟩
  | 71, _ => exact ⟨tb_k5, tb_v5, tb_e71⟩
  | 72, _ => exact ⟨tb_k5, tb_v5, tb_e72⟩
  | 73, _ => exact ⟨tb_k9, tb_v9, tb_e73⟩
  | 74, _ => exact ⟨tb_k9, tb_v9, tb_e74⟩
  | 75, _ => exact ⟨tb_k9, tb_v9, tb_e75⟩
  | 76, _ => exact ⟨tb_k9, tb_v9, tb_e76⟩
  | 77, _ => exact ⟨tb_k9, tb_v9, tb_e77⟩
  | 78, _ => exact ⟨tb_k9, tb_v9, tb_e78⟩
  | 79, _ => exact ⟨tb_k9, tb_v9, tb_e79⟩
  | 80, _ => exact ⟨tb_k9, tb_v9, tb_e80⟩
  | 81, _ => exact ⟨tb_k9, tb_v9, tb_e81⟩
  | 82, _ => exact ⟨tb_k9, tb_v9, tb_e82⟩
  | 83, _ => exact ⟨tb_k9, tb_v9, tb_e83⟩
  | 84, _ => exact ⟨tb_k9, tb_v9, tb_e84⟩
  | 85, _ => exact ⟨tb_k9, tb_v9, tb_e85⟩
  | 86, _ => exact ⟨tb_k9, tb_v9, tb_e86⟩
  | 87, _ => exact ⟨tb_k11, tb_v11, tb_e87⟩
  | 88, _ => exact ⟨tb_k7, tb_v7, tb_e88⟩
  | 89, _ => exact ⟨tb_k7, tb_v7, tb_e89⟩
  | 90, _ => exact ⟨tb_k7, tb_v7, tb_e90⟩
  | 91, _ => exact ⟨tb_k7, tb_v7, tb_e91⟩
  | 92, _ => exact ⟨tb_k7, tb_v7, tb_e92⟩
  | 93, _ => exact ⟨tb_k7, tb_v7, tb_e93⟩
  | 94, _ => exact ⟨tb_k7, tb_v7, tb_e94⟩
  | 95, _ => exact ⟨tb_k7, tb_v7, tb_e95⟩
  | 96, _ => exact ⟨tb_k7, tb_v7, tb_e96⟩
  | 97, _ => exact ⟨tb_k7, tb_v7, tb_e97⟩
  | 98, _ => exact ⟨tb_k7, tb_v7, tb_e98⟩
  | 99, _ => exact ⟨tb_k10, tb_v10, tb_e99⟩
  | 100, _ => exact ⟨tb_k10, tb_v10, tb_e100⟩
  | 101, _ => exact ⟨tb_k10, tb_v10, tb_e101⟩
  | 102, _ => exact ⟨tb_k10, tb_v10, tb_e102⟩
  | 103, _ => exact ⟨tb_k10, tb_v10, tb_e103⟩
  | 104, _ => exact ⟨tb_k10, tb_v10, tb_e104⟩
  | 105, _ => exact ⟨tb_k10, tb_v10, tb_e105⟩
  | 106, _ => exact ⟨tb_k2, tb_v2, tb_e106⟩
  | 107, _ => exact ⟨tb_k2, tb_v2, tb_e107⟩
  | 108, _ => exact ⟨tb_k2, tb_v2, tb_e108⟩
  | 109, _ => exact ⟨tb_k2, tb_v2, tb_e109⟩
  | 110, _ => exact ⟨tb_k2, tb_v2, tb_e110⟩
  | 111, _ => exact ⟨tb_k2, tb_v2, tb_e111⟩
  | 112, _ => exact ⟨tb_k2, tb_v2, tb_e112⟩
  | 113, _ => exact ⟨tb_k2, tb_v2, tb_e113⟩
  | 114, _ => exact ⟨tb_k2, tb_v2, tb_e114⟩
  | 115, _ => exact ⟨tb_k2, tb_v2, tb_e115⟩
  | 116, _ => exact ⟨tb_k2, tb_v2, tb_e116⟩
  | 117, _ => exact ⟨tb_k2, tb_v2, tb_e117⟩
  | 118, _ => exact ⟨tb_k2, tb_v2, tb_e118⟩
  | 119, _ => exact ⟨tb_k2, tb_v2, tb_e119⟩
  | 120, _ => exact ⟨tb_k6, tb_v6, tb_e120⟩
  | 121, _ => exact ⟨tb_k6, tb_v6, tb_e121⟩
  | 122, _ => exact ⟨tb_k6, tb_v6, tb_e122⟩
  | 123, _ => exact ⟨tb_k6, tb_v6, tb_e123⟩
  | 124, _ => exact ⟨tb_k6, tb_v6, tb_e124⟩
  | 125, _ => exact ⟨tb_k12, tb_v12, tb_e125⟩
  | 126, _ => exact ⟨tb_k12, tb_v12, tb_e126⟩
  | 127, _ => exact ⟨tb_k12, tb_v12, tb_e127⟩
  | 128, _ => exact ⟨tb_k12, tb_v12, tb_e128⟩
  | 129, _ => exact ⟨tb_k12, tb_v12, tb_e129⟩
  | 130, _ => exact ⟨tb_k12, tb_v12, tb_e130⟩
  | 131, _ => exact ⟨tb_k12, tb_v12, tb_e131⟩
  | 132, _ => exact ⟨tb_k12, tb_v12, tb_e132⟩
  | 133, _ => exact ⟨tb_k12, tb_v12, tb_e133⟩
  | 134, _ => exact ⟨tb_k12, tb_v12, tb_e134⟩
  | 135, _ => exact ⟨tb_k12, tb_v12, tb_e135⟩
  | 136, _ => exact ⟨tb_k12, tb_v12, tb_e136⟩
  | 137, _ => exact ⟨tb_k12, tb_v12, tb_e137⟩
  | 138, _ => exact ⟨tb_k12, tb_v12, tb_e138⟩
  | 139, _ => exact ⟨tb_k12, tb_v12, tb_e139⟩
  | 140, _ => exact ⟨tb_k12, tb_v12, tb_e140⟩
  | 141, _ => exact ⟨tb_k12, tb_v12, tb_e141⟩
  | 142, _ => exact ⟨tb_k12, tb_v12, tb_e142⟩
  | 143, _ => exact ⟨tb_k12, tb_v12, tb_e143⟩
  | 144, _ => exact ⟨tb_k12, tb_v12, tb_e144⟩
  | 145, _ => exact ⟨tb_k12, tb_v12, tb_e145⟩
  | 146, _ => exact ⟨tb_k12, tb_v12, tb_e146⟩
  | 147, _ => exact ⟨tb_k12, tb_v12, tb_e147⟩
  | 148, _ => exact ⟨tb_k12, tb_v12, tb_e148⟩
  | 149, _ => exact ⟨tb_k12, tb_v12, tb_e149⟩
  | 150, _ => exact ⟨tb_k12, tb_v12, tb_e150⟩
  | 151, _ => exact ⟨tb_k12, tb_v12, tb_e151⟩
  | 152, _ => exact ⟨tb_k12, tb_v12, tb_e152⟩
  | 153, _ => exact ⟨tb_k12, tb_v12, tb_e153⟩
  | 154, _ => exact ⟨tb_k12, tb_v12, tb_e154⟩
  | 155, _ => exact ⟨tb_k12, tb_v12, tb_e155⟩
  | 156, _ => exact ⟨tb_k12, tb_v12, tb_e156⟩
  | 157, _ => exact ⟨tb_k12, tb_v12, tb_e157⟩
  | 158, _ => exact ⟨tb_k12, tb_v12, tb_e158⟩
  | 159, _ => exact ⟨tb_k12, tb_v12, tb_e159⟩
  | 160, _ => exact ⟨tb_k12, tb_v12, tb_e160⟩
  | 161, _ => exact ⟨tb_k12, tb_v12, tb_e161⟩
  | 162, _ => exact ⟨tb_k12, tb_v12, tb_e162⟩
  | 163, _ => exact ⟨tb_k12, tb_v12, tb_e163⟩
  | 164, _ => exact ⟨tb_k12, tb_v12, tb_e164⟩
  | 165, _ => exact ⟨tb_k12, tb_v12, tb_e165⟩
  | 166, _ => exact ⟨tb_k12, tb_v12, tb_e166⟩
  | 167, _ => exact ⟨tb_k12, tb_v12, tb_e167⟩
  | 168, _ => exact ⟨tb_k12, tb_v12, tb_e168⟩
  | 169, _ => exact ⟨tb_k12, tb_v12, tb_e169⟩
  | 170, _ => exact ⟨tb_k12, tb_v12, tb_e170⟩
  | 171, _ => exact ⟨tb_k12, tb_v12, tb_e171⟩
  | 172, _ => exact ⟨tb_k12, tb_v12, tb_e172⟩
  | 173, _ => exact ⟨tb_k12, tb_v12, tb_e173⟩
  | 174, _ => exact ⟨tb_k12, tb_v12, tb_e174⟩
  | 175, _ => exact ⟨tb_k12, tb_v12, tb_e175⟩
  | 176, _ => exact ⟨tb_k12, tb_v12, tb_e176⟩
  | 177, _ => exact ⟨tb_k12, tb_v12, tb_e177⟩
  | 178, _ => exact ⟨tb_k12, tb_v12, tb_e178⟩
  | 179, _ => exact ⟨tb_k12, tb_v12, tb_e179⟩
  | 180, _ => exact ⟨tb_k12, tb_v12, tb_e180⟩
  | 181, _ => exact ⟨tb_k12, tb_v12, tb_e181⟩
  | 182, _ => exact ⟨tb_k12, tb_v12, tb_e182⟩
  | 183, _ => exact ⟨tb_k12, tb_v12, tb_e183⟩
  | 184, _ => exact ⟨tb_k12, tb_v12, tb_e184⟩
  | 185, _ => exact ⟨tb_k12, tb_v12, tb_e185⟩
  | 186, _ => exact ⟨tb_k12, tb_v12, tb_e186⟩
  | 187, _ => exact ⟨tb_k12, tb_v12, tb_e187⟩
  | 188, _ => exact ⟨tb_k12, tb_v12, tb_e188⟩
  | 189, _ => exact ⟨tb_k12, tb_v12, tb_e189⟩
  | 190, _ => exact ⟨tb_k12, tb_v12, tb_e190⟩
  | 191, _ => exact ⟨tb_k12, tb_v12, tb_e191⟩
  | 192, _ => exact ⟨tb_k14, tb_v14, tb_e192⟩
  | 193, _ => exact ⟨tb_k15, tb_v15, tb_e193⟩
  | 194, _ => exact ⟨tb_k15, tb_v15, tb_e194⟩
  | 195, _ => exact ⟨tb_k15, tb_v15, tb_e195⟩
  | 196, _ => exact ⟨tb_k15, tb_v15, tb_e196⟩
  | n + 197, h => exact absurd h (by simp [tb_nM])

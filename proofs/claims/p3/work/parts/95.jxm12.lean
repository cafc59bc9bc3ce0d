/-! contracts of the reference (12); written by wip/jc/e5.py -/
section Jjxm12
variable {X : J_H → Prop}
-- arrives4
def jxm_c39 : jc_Cn := (223, 4, [.inr (some (some 359)), .inl (0, .ofNat 4)], (2, [(1, .ofNat 5, .ofNat 5)], [(2949294, .inl (0, .ofNat 2)), (2949323, .inl (1, .ofNat 0))], [], [], [9, 10, 11, 12, 13, 14, 15, 16, 17, 18, 21, 22, 23, 24, 25]), [(360, 0, 602)], [((2, [(1, .ofNat 1, .ofNat 3)], [(2949294, .inl (1, .ofNat 0)), (2949323, .inl (0, .ofNat 5))], [], [], [9, 10, 11, 12, 13, 14, 15, 16, 17, 18, 21, 22, 23, 24, 25]), none)])
def jxm_c39_N : jc_Nt := []
set_option maxRecDepth 1000000 in
theorem jxm_c39_ok (hX : jc_Xo jxm X) : jc_Con jP jxm X jxm_c39 := jc_mth_ok (Z := (jxm, [], jT, [], jxm_S10, jxm_c39_N, .ofNat 100000)) (f := 100000) jxm_ok hX jT_ok jc_c0 (by decide +kernel)
-- isKept
def jxm_c40 : jc_Cn := (226, 3, [.inr (some (some 359)), .inl (1, .ofNat 0)], (2, [(1, .ofNat 0, .ofNat 4)], [], [], [], [9, 10, 11, 12, 13, 14, 15, 16, 17, 18, 21, 22, 23, 24, 25]), [], [((2, [(1, .ofNat 0, .ofNat 1)], [], [], [], [9, 10, 11, 12, 13, 14, 15, 16, 17, 18, 21, 22, 23, 24, 25]), some (.inl (1, .ofNat 0)))])
def jxm_c40_N : jc_Nt := [some [none, none, some ([(5, none, (2, [(1, .ofNat 0, .ofNat 4)], [], [], [], [9, 10, 11, 12, 13, 14, 15, 16, 17, 18, 21, 22, 23, 24, 25]), [(0, .inr (some (some 359))), (1, .inl (1, .ofNat 0)), (2, .inl (0, .ofNat 0))]),
    (4, none, (2, [(1, .ofNat 0, .ofNat 4)], [], [], [], [9, 10, 11, 12, 13, 14, 15, 16, 17, 18, 21, 22, 23, 24, 25]), [(0, .inr (some (some 359))), (1, .inl (1, .ofNat 0)), (2, .inl (0, .ofNat 1))]),
    (3, none, (2, [(1, .ofNat 0, .ofNat 4)], [], [], [], [9, 10, 11, 12, 13, 14, 15, 16, 17, 18, 21, 22, 23, 24, 25]), [(0, .inr (some (some 359))), (1, .inl (1, .ofNat 0)), (2, .inl (0, .ofNat 2))]),
    (2, none, (2, [(1, .ofNat 0, .ofNat 4)], [], [], [], [9, 10, 11, 12, 13, 14, 15, 16, 17, 18, 21, 22, 23, 24, 25]), [(0, .inr (some (some 359))), (1, .inl (1, .ofNat 0)), (2, .inl (0, .ofNat 3))]),
    (1, none, (2, [(1, .ofNat 0, .ofNat 4)], [], [], [], [9, 10, 11, 12, 13, 14, 15, 16, 17, 18, 21, 22, 23, 24, 25]), [(0, .inr (some (some 359))), (1, .inl (1, .ofNat 0)), (2, .inl (0, .ofNat 4))])]), none, none, none, none, none, none, none, none, none, none, none, none, none]]
set_option maxRecDepth 1000000 in
theorem jxm_c40_ok (hX : jc_Xo jxm X) : jc_Con jP jxm X jxm_c40 := jc_mth_ok (Z := (jxm, [], jT, [], jxm_S0, jxm_c40_N, .ofNat 100000)) (f := 100000) jxm_ok hX jT_ok jc_c0 (by decide +kernel)
-- tries0
def jxm_c41 : jc_Cn := (222, 9, [.inr (some (some 359)), .inl (0, .ofNat 0), .inl (2, .ofNat 0)], (3, [(1, .ofNat 1, .ofNat 5), (2, .ofNat 0, .ofNat 1)], [(2949323, .inl (1, .ofNat 0))], [], [], [9, 10, 12, 13, 14, 15, 16, 17, 18, 21, 22, 23, 24, 25]), [(360, 0, 602), (363, 0, 602), (368, 0, 5), (359, 23, 24)], [((1, [], [], [], [], [9, 10, 12, 13, 14, 15, 16, 17, 18, 21, 22, 23, 24, 25]), none)])
def jxm_c41_N : jc_Nt := []
set_option maxRecDepth 1000000 in
theorem jxm_c41_ok (hX : jc_Xo jxm X) (hg20 : jc_Con jP jxm X jxm_g20) (hg41 : jc_Con jP jxm X jxm_g41) : jc_Con jP jxm X jxm_c41 := jc_mth_ok (Z := (jxm, [], jT, [jxm_g20, jxm_g41, jxm_c17, jxm_c30, jxm_c16], jxm_S0, jxm_c41_N, .ofNat 100000)) (f := 100000) jxm_ok hX jT_ok (jc_c1 hg20 (jc_c1 hg41 (jc_c1 (jxm_c17_ok hX) (jc_c1 (jxm_c30_ok hX) (jc_c1 (jxm_c16_ok hX) jc_c0))))) (by decide +kernel)
-- tries1
def jxm_c42 : jc_Cn := (222, 9, [.inr (some (some 359)), .inl (0, .ofNat 1), .inl (2, .ofNat 0)], (3, [(1, .ofNat 2, .ofNat 5), (2, .ofNat 0, .ofNat 1)], [(2949323, .inl (1, .ofNat 0))], [], [], [9, 10, 12, 13, 14, 15, 16, 17, 18, 21, 22, 23, 24, 25]), [(360, 0, 602), (363, 0, 602), (368, 0, 5), (359, 23, 24)], [((1, [], [], [], [], [9, 10, 12, 13, 14, 15, 16, 17, 18, 21, 22, 23, 24, 25]), none)])
def jxm_c42_N : jc_Nt := []
set_option maxRecDepth 1000000 in
theorem jxm_c42_ok (hX : jc_Xo jxm X) (hg20 : jc_Con jP jxm X jxm_g20) (hg41 : jc_Con jP jxm X jxm_g41) : jc_Con jP jxm X jxm_c42 := jc_mth_ok (Z := (jxm, [], jT, [jxm_g20, jxm_g41, jxm_c18, jxm_c31, jxm_c16], jxm_S0, jxm_c42_N, .ofNat 100000)) (f := 100000) jxm_ok hX jT_ok (jc_c1 hg20 (jc_c1 hg41 (jc_c1 (jxm_c18_ok hX) (jc_c1 (jxm_c31_ok hX) (jc_c1 (jxm_c16_ok hX) jc_c0))))) (by decide +kernel)
-- tries2
def jxm_c43 : jc_Cn := (222, 9, [.inr (some (some 359)), .inl (0, .ofNat 2), .inl (2, .ofNat 0)], (3, [(1, .ofNat 3, .ofNat 5), (2, .ofNat 0, .ofNat 1)], [(2949323, .inl (1, .ofNat 0))], [], [], [9, 10, 12, 13, 14, 15, 16, 17, 18, 21, 22, 23, 24, 25]), [(360, 0, 602), (363, 0, 602), (368, 0, 5), (359, 23, 24)], [((1, [], [], [], [], [9, 10, 12, 13, 14, 15, 16, 17, 18, 21, 22, 23, 24, 25]), none)])
def jxm_c43_N : jc_Nt := []
set_option maxRecDepth 1000000 in
theorem jxm_c43_ok (hX : jc_Xo jxm X) (hg20 : jc_Con jP jxm X jxm_g20) (hg41 : jc_Con jP jxm X jxm_g41) : jc_Con jP jxm X jxm_c43 := jc_mth_ok (Z := (jxm, [], jT, [jxm_g20, jxm_g41, jxm_c19, jxm_c32, jxm_c16], jxm_S0, jxm_c43_N, .ofNat 100000)) (f := 100000) jxm_ok hX jT_ok (jc_c1 hg20 (jc_c1 hg41 (jc_c1 (jxm_c19_ok hX) (jc_c1 (jxm_c32_ok hX) (jc_c1 (jxm_c16_ok hX) jc_c0))))) (by decide +kernel)
-- tries3
def jxm_c44 : jc_Cn := (222, 9, [.inr (some (some 359)), .inl (0, .ofNat 3), .inl (2, .ofNat 0)], (3, [(1, .ofNat 4, .ofNat 5), (2, .ofNat 0, .ofNat 1)], [(2949323, .inl (1, .ofNat 0))], [], [], [9, 10, 12, 13, 14, 15, 16, 17, 18, 21, 22, 23, 24, 25]), [(360, 0, 602), (363, 0, 602), (368, 0, 5), (359, 23, 24)], [((1, [], [], [], [], [9, 10, 12, 13, 14, 15, 16, 17, 18, 21, 22, 23, 24, 25]), none)])
def jxm_c44_N : jc_Nt := []
set_option maxRecDepth 1000000 in
theorem jxm_c44_ok (hX : jc_Xo jxm X) (hg20 : jc_Con jP jxm X jxm_g20) (hg41 : jc_Con jP jxm X jxm_g41) : jc_Con jP jxm X jxm_c44 := jc_mth_ok (Z := (jxm, [], jT, [jxm_g20, jxm_g41, jxm_c20, jxm_c33, jxm_c16], jxm_S0, jxm_c44_N, .ofNat 100000)) (f := 100000) jxm_ok hX jT_ok (jc_c1 hg20 (jc_c1 hg41 (jc_c1 (jxm_c20_ok hX) (jc_c1 (jxm_c33_ok hX) (jc_c1 (jxm_c16_ok hX) jc_c0))))) (by decide +kernel)
-- tries4
def jxm_c45 : jc_Cn := (222, 9, [.inr (some (some 359)), .inl (0, .ofNat 4), .inl (2, .ofNat 0)], (3, [(1, .ofNat 5, .ofNat 5), (2, .ofNat 0, .ofNat 1)], [(2949323, .inl (1, .ofNat 0))], [], [], [9, 10, 12, 13, 14, 15, 16, 17, 18, 21, 22, 23, 24, 25]), [(360, 0, 602), (363, 0, 602), (368, 0, 5), (359, 23, 24)], [((1, [], [(2949323, .inl (0, .ofNat 5))], [], [], [9, 10, 12, 13, 14, 15, 16, 17, 18, 21, 22, 23, 24, 25]), none)])
def jxm_c45_N : jc_Nt := []
set_option maxRecDepth 1000000 in
theorem jxm_c45_ok (hX : jc_Xo jxm X) (hg19 : jc_Con jP jxm X jxm_g19) (hg40 : jc_Con jP jxm X jxm_g40) : jc_Con jP jxm X jxm_c45 := jc_mth_ok (Z := (jxm, [], jT, [jxm_g19, jxm_g40, jxm_c21, jxm_c34, jxm_c16], jxm_S0, jxm_c45_N, .ofNat 100000)) (f := 100000) jxm_ok hX jT_ok (jc_c1 hg19 (jc_c1 hg40 (jc_c1 (jxm_c21_ok hX) (jc_c1 (jxm_c34_ok hX) (jc_c1 (jxm_c16_ok hX) jc_c0))))) (by decide +kernel)
end Jjxm12

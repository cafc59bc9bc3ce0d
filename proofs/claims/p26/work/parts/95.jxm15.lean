/-! contracts of the reference (15); written by wip/jc/e5.py -/
section Jjxm15
variable {X : J_H → Prop}
-- arrives3
def jxm_c38 : jc_Cn := (223, 4, [.inr (some (some 359)), .inl (0, .ofNat 3)], (2, [(1, .ofNat 4, .ofNat 5)], [(2949266, .inl (0, .ofNat 2)), (2949323, .inl (1, .ofNat 0))], [], [], [9, 10, 11, 12, 13, 14, 15, 16, 17, 18, 21, 22, 23, 24, 25]), [(360, 0, 602)], [((3, [(1, .ofNat 1, .ofNat 3), (2, .ofNat 4, .ofNat 5)], [(2949266, .inl (1, .ofNat 0)), (2949323, .inl (2, .ofNat 0))], [], [], [9, 10, 11, 12, 13, 14, 15, 16, 17, 18, 21, 22, 23, 24, 25]), none)])
def jxm_c38_N : jc_Nt := []
set_option maxRecDepth 1000000 in
theorem jxm_c38_ok (hX : jc_Xo jxm X) : jc_Con jP jxm X jxm_c38 := jc_mth_ok (Z := (jxm, [], jT, [], jxm_S9, jxm_c38_N, .ofNat 100000)) (f := 100000) jxm_ok hX jT_ok jc_c0 (by decide +kernel)
-- arrives4
def jxm_c39 : jc_Cn := (223, 4, [.inr (some (some 359)), .inl (0, .ofNat 4)], (2, [(1, .ofNat 5, .ofNat 5)], [(2949294, .inl (0, .ofNat 2)), (2949323, .inl (1, .ofNat 0))], [], [], [9, 10, 11, 12, 13, 14, 15, 16, 17, 18, 21, 22, 23, 24, 25]), [(360, 0, 602)], [((2, [(1, .ofNat 1, .ofNat 3)], [(2949294, .inl (1, .ofNat 0)), (2949323, .inl (0, .ofNat 5))], [], [], [9, 10, 11, 12, 13, 14, 15, 16, 17, 18, 21, 22, 23, 24, 25]), none)])
def jxm_c39_N : jc_Nt := []
set_option maxRecDepth 1000000 in
theorem jxm_c39_ok (hX : jc_Xo jxm X) : jc_Con jP jxm X jxm_c39 := jc_mth_ok (Z := (jxm, [], jT, [], jxm_S10, jxm_c39_N, .ofNat 100000)) (f := 100000) jxm_ok hX jT_ok jc_c0 (by decide +kernel)
-- isKept
def jxm_c40 : jc_Cn := (226, 3, [.inr (some (some 359)), .inl (1, .ofNat 0)], (2, [(1, .ofNat 0, .ofNat 4)], [], [], [], [9, 10, 11, 12, 13, 14, 15, 16, 17, 18, 21, 22, 23, 24, 25]), [], [((2, [(1, .ofNat 0, .ofNat 1)], [], [], [], [9, 10, 11, 12, 13, 14, 15, 16, 17, 18, 21, 22, 23, 24, 25]), some (.inl (1, .ofNat 0)))])
def jxm_c40_N : jc_Nt := [some [none, none, some ([(5, none, (2, [(1, .ofNat 0, .ofNat 4)], [], [], [], [9, 10, 11, 12, 13, 14, 15, 16, 17, 18, 21, 22, 23, 24, 25]), [(0, .inr (some (some 359))), (1, .inl (1, .ofNat 0)), (2, .inl (0, .ofNat 0))]),
    (4, none, (2, [(1, .ofNat 0, .ofNat 4)], [], [], [], [9, 10, 11, 12, 13, 14, 15, 16, 17, 18, 21, 22, 23, 24, 25]), [(0, .inr (some (some 359))), (1, .inl (1, .ofNat 0)), (2, .inl (0, .ofNat 1))]),
    (3, none, (2, [(1, .ofNat 0, .ofNat 4)], [], [], [], [9, 10, 11, 12, 13, 14, 15, 16, 17, 18, 21, 22, 23, 24, 25]), [(0, .inr (some (some 359))), (1, .inl (1, .ofNat 0)), (2, .inl (0, .ofNat 2))]),
    (2, none, (2, [(1, .ofNat 0, .ofNat 4)], [], [], [], [9, 10, 11, 12, 13, 14, 15, 16, 17, 18, 21, 22, 23, 24, 25]), [(0, .inr (some (some 359))), (1, .inl (1, .ofNat 0)), (2, .inl (0, .ofNat 3))]),
    (1, none, (2, [(1, .ofNat 0, .ofNat 4)], [], [], [], [9, 10, 11, 12, 13, 14, 15, 16, 17, 18, 21, 22, 23, 24, 25]), [(0, .inr (some (some 359))), (1, .inl (1, .ofNat 0)), (2, .inl (0, .ofNat 4))])]), none, none, none, none, none, none, none, none, none, none, none, none, none]]
set_option maxRecDepth 1000000 in
theorem jxm_c40_ok (hX : jc_Xo jxm X) : jc_Con jP jxm X jxm_c40 := jc_mth_ok (Z := (jxm, [], jT, [], jxm_S0, jxm_c40_N, .ofNat 100000)) (f := 100000) jxm_ok hX jT_ok jc_c0 (by decide +kernel)
-- tries0
def jxm_c41 : jc_Cn := (222, 9, [.inr (some (some 359)), .inl (0, .ofNat 0), .inl (2, .ofNat 0)], (3, [(1, .ofNat 1, .ofNat 5), (2, .ofNat 0, .ofNat 1)], [(2949323, .inl (1, .ofNat 0))], [], [], [9, 10, 12, 13, 14, 15, 16, 17, 18, 21, 22, 23, 24, 25]), [(360, 0, 602), (363, 0, 602), (368, 0, 5), (359, 23, 24)], [((1, [], [], [], [], [9, 10, 12, 13, 14, 15, 16, 17, 18, 21, 22, 23, 24, 25]), none)])
def jxm_c41_N : jc_Nt := []
set_option maxRecDepth 1000000 in
theorem jxm_c41_ok (hX : jc_Xo jxm X) (hg20 : jc_Con jP jxm X jxm_g20) (hg41 : jc_Con jP jxm X jxm_g41) : jc_Con jP jxm X jxm_c41 := jc_mth_ok (Z := (jxm, [], jT, [jxm_g20, jxm_g41, jxm_c17, jxm_c30, jxm_c16], jxm_S0, jxm_c41_N, .ofNat 100000)) (f := 100000) jxm_ok hX jT_ok (jc_c1 hg20 (jc_c1 hg41 (jc_c1 (jxm_c17_ok hX) (jc_c1 (jxm_c30_ok hX) (jc_c1 (jxm_c16_ok hX) jc_c0))))) (by decide +kernel)
-- tries1
def jxm_c42 : jc_Cn := (222, 9, [.inr (some (some 359)), .inl (0, .ofNat 1), .inl (2, .ofNat 0)], (3, [(1, .ofNat 2, .ofNat 5), (2, .ofNat 0, .ofNat 1)], [(2949323, .inl (1, .ofNat 0))], [], [], [9, 10, 12, 13, 14, 15, 16, 17, 18, 21, 22, 23, 24, 25]), [(360, 0, 602), (363, 0, 602), (368, 0, 5), (359, 23, 24)], [((1, [], [], [], [], [9, 10, 12, 13, 14, 15, 16, 17, 18, 21, 22, 23, 24, 25]), none)])
def jxm_c42_N : jc_Nt := []
set_option maxRecDepth 1000000 in
theorem jxm_c42_ok (hX : jc_Xo jxm X) (hg20 : jc_Con jP jxm X jxm_g20) (hg41 : jc_Con jP jxm X jxm_g41) : jc_Con jP jxm X jxm_c42 := jc_mth_ok (Z := (jxm, [], jT, [jxm_g20, jxm_g41, jxm_c18, jxm_c31, jxm_c16], jxm_S0, jxm_c42_N, .ofNat 100000)) (f := 100000) jxm_ok hX jT_ok (jc_c1 hg20 (jc_c1 hg41 (jc_c1 (jxm_c18_ok hX) (jc_c1 (jxm_c31_ok hX) (jc_c1 (jxm_c16_ok hX) jc_c0))))) (by decide +kernel)
-- tries2
def jxm_c43 : jc_Cn := (222, 9, [.inr (some (some 359)), .inl (0, .ofNat 2), .inl (2, .ofNat 0)], (3, [(1, .ofNat 3, .ofNat 5), (2, .ofNat 0, .ofNat 1)], [(2949323, .inl (1, .ofNat 0))], [], [], [9, 10, 12, 13, 14, 15, 16, 17, 18, 21, 22, 23, 24, 25]), [(360, 0, 602), (363, 0, 602), (368, 0, 5), (359, 23, 24)], [((1, [], [], [], [], [9, 10, 12, 13, 14, 15, 16, 17, 18, 21, 22, 23, 24, 25]), none)])
def jxm_c43_N : jc_Nt := []
set_option maxRecDepth 1000000 in
theorem jxm_c43_ok (hX : jc_Xo jxm X) (hg20 : jc_Con jP jxm X jxm_g20) (hg41 : jc_Con jP jxm X jxm_g41) : jc_Con jP jxm X jxm_c43 := jc_mth_ok (Z := (jxm, [], jT, [jxm_g20, jxm_g41, jxm_c19, jxm_c32, jxm_c16], jxm_S0, jxm_c43_N, .ofNat 100000)) (f := 100000) jxm_ok hX jT_ok (jc_c1 hg20 (jc_c1 hg41 (jc_c1 (jxm_c19_ok hX) (jc_c1 (jxm_c32_ok hX) (jc_c1 (jxm_c16_ok hX) jc_c0))))) (by decide +kernel)
-- tries3
def jxm_c44 : jc_Cn := (222, 9, [.inr (some (some 359)), .inl (0, .ofNat 3), .inl (2, .ofNat 0)], (3, [(1, .ofNat 4, .ofNat 5), (2, .ofNat 0, .ofNat 1)], [(2949323, .inl (1, .ofNat 0))], [], [], [9, 10, 12, 13, 14, 15, 16, 17, 18, 21, 22, 23, 24, 25]), [(360, 0, 602), (363, 0, 602), (368, 0, 5), (359, 23, 24)], [((1, [], [], [], [], [9, 10, 12, 13, 14, 15, 16, 17, 18, 21, 22, 23, 24, 25]), none)])
def jxm_c44_N : jc_Nt := []
set_option maxRecDepth 1000000 in
theorem jxm_c44_ok (hX : jc_Xo jxm X) (hg20 : jc_Con jP jxm X jxm_g20) (hg41 : jc_Con jP jxm X jxm_g41) : jc_Con jP jxm X jxm_c44 := jc_mth_ok (Z := (jxm, [], jT, [jxm_g20, jxm_g41, jxm_c20, jxm_c33, jxm_c16], jxm_S0, jxm_c44_N, .ofNat 100000)) (f := 100000) jxm_ok hX jT_ok (jc_c1 hg20 (jc_c1 hg41 (jc_c1 (jxm_c20_ok hX) (jc_c1 (jxm_c33_ok hX) (jc_c1 (jxm_c16_ok hX) jc_c0))))) (by decide +kernel)
-- tries4
def jxm_c45 : jc_Cn := (222, 9, [.inr (some (some 359)), .inl (0, .ofNat 4), .inl (2, .ofNat 0)], (3, [(1, .ofNat 5, .ofNat 5), (2, .ofNat 0, .ofNat 1)], [(2949323, .inl (1, .ofNat 0))], [], [], [9, 10, 12, 13, 14, 15, 16, 17, 18, 21, 22, 23, 24, 25]), [(360, 0, 602), (363, 0, 602), (368, 0, 5), (359, 23, 24)], [((1, [], [(2949323, .inl (0, .ofNat 5))], [], [], [9, 10, 12, 13, 14, 15, 16, 17, 18, 21, 22, 23, 24, 25]), none)])
def jxm_c45_N : jc_Nt := []
set_option maxRecDepth 1000000 in
theorem jxm_c45_ok (hX : jc_Xo jxm X) (hg19 : jc_Con jP jxm X jxm_g19) (hg40 : jc_Con jP jxm X jxm_g40) : jc_Con jP jxm X jxm_c45 := jc_mth_ok (Z := (jxm, [], jT, [jxm_g19, jxm_g40, jxm_c21, jxm_c34, jxm_c16], jxm_S0, jxm_c45_N, .ofNat 100000)) (f := 100000) jxm_ok hX jT_ok (jc_c1 hg19 (jc_c1 hg40 (jc_c1 (jxm_c21_ok hX) (jc_c1 (jxm_c34_ok hX) (jc_c1 (jxm_c16_ok hX) jc_c0))))) (by decide +kernel)
-- minute
def jxm_c46 : jc_Cn := (227, 10, [.inr (some (some 359)), .inl (1, .ofNat 0)], (2, [(1, .ofNat 0, .ofNat 1)], [], [], [], [9, 10, 12, 13, 14, 15, 16, 17, 18, 21, 22, 23, 24, 25]), [(360, 0, 602), (363, 0, 602), (368, 0, 5), (359, 23, 24)], [((1, [], [], [], [], [9, 10, 12, 13, 14, 15, 16, 17, 18, 21, 22, 23, 24, 25]), none)])
def jxm_c46_n2_0 : List jc_Nd := [(48, none, (2, [(1, .ofNat 0, .ofNat 1)], [], [], [], [9, 10, 12, 13, 14, 15, 16, 17, 18, 21, 22, 23, 24, 25]), [(0, .inr (some (some 359))), (1, .inl (1, .ofNat 0)), (2, .inl (0, .ofNat 0))]),
    (47, none, (2, [(1, .ofNat 0, .ofNat 1)], [], [], [], [9, 10, 12, 13, 14, 15, 16, 17, 18, 21, 22, 23, 24, 25]), [(0, .inr (some (some 359))), (1, .inl (1, .ofNat 0)), (2, .inl (0, .ofNat 1))]),
    (46, none, (2, [(1, .ofNat 0, .ofNat 1)], [], [], [], [9, 10, 12, 13, 14, 15, 16, 17, 18, 21, 22, 23, 24, 25]), [(0, .inr (some (some 359))), (1, .inl (1, .ofNat 0)), (2, .inl (0, .ofNat 2))]),
    (45, none, (2, [(1, .ofNat 0, .ofNat 1)], [], [], [], [9, 10, 12, 13, 14, 15, 16, 17, 18, 21, 22, 23, 24, 25]), [(0, .inr (some (some 359))), (1, .inl (1, .ofNat 0)), (2, .inl (0, .ofNat 3))]),
    (44, none, (2, [(1, .ofNat 0, .ofNat 1)], [], [], [], [9, 10, 12, 13, 14, 15, 16, 17, 18, 21, 22, 23, 24, 25]), [(0, .inr (some (some 359))), (1, .inl (1, .ofNat 0)), (2, .inl (0, .ofNat 4))]),
    (43, none, (2, [(1, .ofNat 0, .ofNat 1)], [], [], [], [9, 10, 12, 13, 14, 15, 16, 17, 18, 21, 22, 23, 24, 25]), [(0, .inr (some (some 359))), (1, .inl (1, .ofNat 0)), (2, .inl (0, .ofNat 5))])]
def jxm_c46_n56_0 : List jc_Nd := [(42, none, (2, [(1, .ofNat 0, .ofNat 1)], [], [], [], [9, 10, 12, 13, 14, 15, 16, 17, 18, 21, 22, 23, 24, 25]), [(0, .inr (some (some 359))), (1, .inl (1, .ofNat 0)), (2, .inl (0, .ofNat 0))]),
    (41, none, (3, [(1, .ofNat 0, .ofNat 1), (2, .ofNat 0, .ofNat 4)], [], [], [], [9, 10, 12, 13, 14, 15, 16, 17, 18, 21, 22, 23, 24, 25]), [(0, .inr (some (some 359))), (1, .inl (1, .ofNat 0)), (2, .inl (0, .ofNat 1)), (3, .inl (2, .ofNat 0))])]
def jxm_c46_n56_1 : List jc_Nd := [(40, none, (3, [(1, .ofNat 0, .ofNat 1), (2, .ofNat 0, .ofNat 4)], [], [], [], [9, 10, 12, 13, 14, 15, 16, 17, 18, 21, 22, 23, 24, 25]), [(0, .inr (some (some 359))), (1, .inl (1, .ofNat 0)), (2, .inl (0, .ofNat 2)), (3, .inl (2, .ofNat 0))]),
    (39, none, (3, [(1, .ofNat 0, .ofNat 1), (2, .ofNat 0, .ofNat 4)], [], [], [], [9, 10, 12, 13, 14, 15, 16, 17, 18, 21, 22, 23, 24, 25]), [(0, .inr (some (some 359))), (1, .inl (1, .ofNat 0)), (2, .inl (0, .ofNat 3)), (3, .inl (2, .ofNat 0))])]
def jxm_c46_n56_2 : List jc_Nd := [(38, none, (3, [(1, .ofNat 0, .ofNat 1), (2, .ofNat 0, .ofNat 4)], [], [], [], [9, 10, 12, 13, 14, 15, 16, 17, 18, 21, 22, 23, 24, 25]), [(0, .inr (some (some 359))), (1, .inl (1, .ofNat 0)), (2, .inl (0, .ofNat 4)), (3, .inl (2, .ofNat 0))]),
    (37, none, (3, [(1, .ofNat 0, .ofNat 1), (2, .ofNat 0, .ofNat 4)], [], [], [], [9, 10, 12, 13, 14, 15, 16, 17, 18, 21, 22, 23, 24, 25]), [(0, .inr (some (some 359))), (1, .inl (1, .ofNat 0)), (2, .inl (0, .ofNat 5)), (3, .inl (2, .ofNat 0))])]
def jxm_c46_n211_0 : List jc_Nd := [(36, none, (2, [(1, .ofNat 0, .ofNat 1)], [], [], [], [9, 10, 12, 13, 14, 15, 16, 17, 18, 21, 22, 23, 24, 25]), [(0, .inr (some (some 359))), (1, .inl (1, .ofNat 0)), (2, .inl (0, .ofNat 0))]),
    (29, none, (2, [(1, .ofNat 0, .ofNat 1)], [], [], [], [9, 10, 12, 13, 14, 15, 16, 17, 18, 21, 22, 23, 24, 25]), [(0, .inr (some (some 359))), (1, .inl (1, .ofNat 0)), (2, .inl (0, .ofNat 1))]),
    (22, none, (2, [(1, .ofNat 0, .ofNat 1)], [], [], [], [9, 10, 12, 13, 14, 15, 16, 17, 18, 21, 22, 23, 24, 25]), [(0, .inr (some (some 359))), (1, .inl (1, .ofNat 0)), (2, .inl (0, .ofNat 2))])]
def jxm_c46_n211_1 : List jc_Nd := [(15, none, (2, [(1, .ofNat 0, .ofNat 1)], [], [], [], [9, 10, 12, 13, 14, 15, 16, 17, 18, 21, 22, 23, 24, 25]), [(0, .inr (some (some 359))), (1, .inl (1, .ofNat 0)), (2, .inl (0, .ofNat 3))]),
    (8, none, (2, [(1, .ofNat 0, .ofNat 1)], [], [], [], [9, 10, 12, 13, 14, 15, 16, 17, 18, 21, 22, 23, 24, 25]), [(0, .inr (some (some 359))), (1, .inl (1, .ofNat 0)), (2, .inl (0, .ofNat 4))]),
    (1, none, (2, [(1, .ofNat 0, .ofNat 1)], [], [], [], [9, 10, 12, 13, 14, 15, 16, 17, 18, 21, 22, 23, 24, 25]), [(0, .inr (some (some 359))), (1, .inl (1, .ofNat 0)), (2, .inl (0, .ofNat 5))])]
def jxm_c46_n304_0 : List jc_Nd := [(35, none, (2, [(1, .ofNat 0, .ofNat 1)], [], [], [], [9, 10, 12, 13, 14, 15, 16, 17, 18, 21, 22, 23, 24, 25]), [(0, .inr (some (some 359))), (1, .inl (1, .ofNat 0)), (2, .inl (0, .ofNat 0)), (3, .inl (0, .ofNat 0))]),
    (28, none, (2, [(1, .ofNat 0, .ofNat 1)], [], [], [], [9, 10, 12, 13, 14, 15, 16, 17, 18, 21, 22, 23, 24, 25]), [(0, .inr (some (some 359))), (1, .inl (1, .ofNat 0)), (2, .inl (0, .ofNat 1)), (3, .inl (0, .ofNat 0))]),
    (34, none, (2, [(1, .ofNat 0, .ofNat 1)], [], [], [], [9, 10, 12, 13, 14, 15, 16, 17, 18, 21, 22, 23, 24, 25]), [(0, .inr (some (some 359))), (1, .inl (1, .ofNat 0)), (2, .inl (0, .ofNat 0)), (3, .inl (0, .ofNat 1))]),
    (21, none, (2, [(1, .ofNat 0, .ofNat 1)], [], [], [], [9, 10, 12, 13, 14, 15, 16, 17, 18, 21, 22, 23, 24, 25]), [(0, .inr (some (some 359))), (1, .inl (1, .ofNat 0)), (2, .inl (0, .ofNat 2)), (3, .inl (0, .ofNat 0))]),
    (27, none, (2, [(1, .ofNat 0, .ofNat 1)], [], [], [], [9, 10, 12, 13, 14, 15, 16, 17, 18, 21, 22, 23, 24, 25]), [(0, .inr (some (some 359))), (1, .inl (1, .ofNat 0)), (2, .inl (0, .ofNat 1)), (3, .inl (0, .ofNat 1))]),
    (33, none, (2, [(1, .ofNat 0, .ofNat 1)], [], [], [], [9, 10, 12, 13, 14, 15, 16, 17, 18, 21, 22, 23, 24, 25]), [(0, .inr (some (some 359))), (1, .inl (1, .ofNat 0)), (2, .inl (0, .ofNat 0)), (3, .inl (0, .ofNat 2))])]
def jxm_c46_n304_1 : List jc_Nd := [(14, none, (2, [(1, .ofNat 0, .ofNat 1)], [], [], [], [9, 10, 12, 13, 14, 15, 16, 17, 18, 21, 22, 23, 24, 25]), [(0, .inr (some (some 359))), (1, .inl (1, .ofNat 0)), (2, .inl (0, .ofNat 3)), (3, .inl (0, .ofNat 0))]),
    (20, none, (2, [(1, .ofNat 0, .ofNat 1)], [], [], [], [9, 10, 12, 13, 14, 15, 16, 17, 18, 21, 22, 23, 24, 25]), [(0, .inr (some (some 359))), (1, .inl (1, .ofNat 0)), (2, .inl (0, .ofNat 2)), (3, .inl (0, .ofNat 1))]),
    (26, none, (2, [(1, .ofNat 0, .ofNat 1)], [], [], [], [9, 10, 12, 13, 14, 15, 16, 17, 18, 21, 22, 23, 24, 25]), [(0, .inr (some (some 359))), (1, .inl (1, .ofNat 0)), (2, .inl (0, .ofNat 1)), (3, .inl (0, .ofNat 2))]),
    (32, none, (2, [(1, .ofNat 0, .ofNat 1)], [], [], [], [9, 10, 12, 13, 14, 15, 16, 17, 18, 21, 22, 23, 24, 25]), [(0, .inr (some (some 359))), (1, .inl (1, .ofNat 0)), (2, .inl (0, .ofNat 0)), (3, .inl (0, .ofNat 3))])]
def jxm_c46_n304_2 : List jc_Nd := [(7, none, (2, [(1, .ofNat 0, .ofNat 1)], [], [], [], [9, 10, 12, 13, 14, 15, 16, 17, 18, 21, 22, 23, 24, 25]), [(0, .inr (some (some 359))), (1, .inl (1, .ofNat 0)), (2, .inl (0, .ofNat 4)), (3, .inl (0, .ofNat 0))]),
    (13, none, (2, [(1, .ofNat 0, .ofNat 1)], [], [], [], [9, 10, 12, 13, 14, 15, 16, 17, 18, 21, 22, 23, 24, 25]), [(0, .inr (some (some 359))), (1, .inl (1, .ofNat 0)), (2, .inl (0, .ofNat 3)), (3, .inl (0, .ofNat 1))]),
    (19, none, (2, [(1, .ofNat 0, .ofNat 1)], [], [], [], [9, 10, 12, 13, 14, 15, 16, 17, 18, 21, 22, 23, 24, 25]), [(0, .inr (some (some 359))), (1, .inl (1, .ofNat 0)), (2, .inl (0, .ofNat 2)), (3, .inl (0, .ofNat 2))]),
    (25, none, (2, [(1, .ofNat 0, .ofNat 1)], [], [], [], [9, 10, 12, 13, 14, 15, 16, 17, 18, 21, 22, 23, 24, 25]), [(0, .inr (some (some 359))), (1, .inl (1, .ofNat 0)), (2, .inl (0, .ofNat 1)), (3, .inl (0, .ofNat 3))]),
    (31, none, (2, [(1, .ofNat 0, .ofNat 1)], [], [], [], [9, 10, 12, 13, 14, 15, 16, 17, 18, 21, 22, 23, 24, 25]), [(0, .inr (some (some 359))), (1, .inl (1, .ofNat 0)), (2, .inl (0, .ofNat 0)), (3, .inl (0, .ofNat 4))])]
def jxm_c46_n304_3 : List jc_Nd := [(6, none, (2, [(1, .ofNat 0, .ofNat 1)], [], [], [], [9, 10, 12, 13, 14, 15, 16, 17, 18, 21, 22, 23, 24, 25]), [(0, .inr (some (some 359))), (1, .inl (1, .ofNat 0)), (2, .inl (0, .ofNat 4)), (3, .inl (0, .ofNat 1))]),
    (12, none, (2, [(1, .ofNat 0, .ofNat 1)], [], [], [], [9, 10, 12, 13, 14, 15, 16, 17, 18, 21, 22, 23, 24, 25]), [(0, .inr (some (some 359))), (1, .inl (1, .ofNat 0)), (2, .inl (0, .ofNat 3)), (3, .inl (0, .ofNat 2))]),
    (18, none, (2, [(1, .ofNat 0, .ofNat 1)], [], [], [], [9, 10, 12, 13, 14, 15, 16, 17, 18, 21, 22, 23, 24, 25]), [(0, .inr (some (some 359))), (1, .inl (1, .ofNat 0)), (2, .inl (0, .ofNat 2)), (3, .inl (0, .ofNat 3))]),
    (24, none, (2, [(1, .ofNat 0, .ofNat 1)], [], [], [], [9, 10, 12, 13, 14, 15, 16, 17, 18, 21, 22, 23, 24, 25]), [(0, .inr (some (some 359))), (1, .inl (1, .ofNat 0)), (2, .inl (0, .ofNat 1)), (3, .inl (0, .ofNat 4))]),
    (30, none, (2, [(1, .ofNat 0, .ofNat 1)], [], [], [], [9, 10, 12, 13, 14, 15, 16, 17, 18, 21, 22, 23, 24, 25]), [(0, .inr (some (some 359))), (1, .inl (1, .ofNat 0)), (2, .inl (0, .ofNat 0)), (3, .inl (0, .ofNat 5))])]
def jxm_c46_n304_4 : List jc_Nd := [(5, none, (2, [(1, .ofNat 0, .ofNat 1)], [], [], [], [9, 10, 12, 13, 14, 15, 16, 17, 18, 21, 22, 23, 24, 25]), [(0, .inr (some (some 359))), (1, .inl (1, .ofNat 0)), (2, .inl (0, .ofNat 4)), (3, .inl (0, .ofNat 2))]),
    (11, none, (2, [(1, .ofNat 0, .ofNat 1)], [], [], [], [9, 10, 12, 13, 14, 15, 16, 17, 18, 21, 22, 23, 24, 25]), [(0, .inr (some (some 359))), (1, .inl (1, .ofNat 0)), (2, .inl (0, .ofNat 3)), (3, .inl (0, .ofNat 3))]),
    (17, none, (2, [(1, .ofNat 0, .ofNat 1)], [], [], [], [9, 10, 12, 13, 14, 15, 16, 17, 18, 21, 22, 23, 24, 25]), [(0, .inr (some (some 359))), (1, .inl (1, .ofNat 0)), (2, .inl (0, .ofNat 2)), (3, .inl (0, .ofNat 4))]),
    (23, none, (2, [(1, .ofNat 0, .ofNat 1)], [], [], [], [9, 10, 12, 13, 14, 15, 16, 17, 18, 21, 22, 23, 24, 25]), [(0, .inr (some (some 359))), (1, .inl (1, .ofNat 0)), (2, .inl (0, .ofNat 1)), (3, .inl (0, .ofNat 5))]),
    (4, none, (2, [(1, .ofNat 0, .ofNat 1)], [], [], [], [9, 10, 12, 13, 14, 15, 16, 17, 18, 21, 22, 23, 24, 25]), [(0, .inr (some (some 359))), (1, .inl (1, .ofNat 0)), (2, .inl (0, .ofNat 4)), (3, .inl (0, .ofNat 3))]),
    (10, none, (2, [(1, .ofNat 0, .ofNat 1)], [], [], [], [9, 10, 12, 13, 14, 15, 16, 17, 18, 21, 22, 23, 24, 25]), [(0, .inr (some (some 359))), (1, .inl (1, .ofNat 0)), (2, .inl (0, .ofNat 3)), (3, .inl (0, .ofNat 4))]),
    (16, none, (2, [(1, .ofNat 0, .ofNat 1)], [], [], [], [9, 10, 12, 13, 14, 15, 16, 17, 18, 21, 22, 23, 24, 25]), [(0, .inr (some (some 359))), (1, .inl (1, .ofNat 0)), (2, .inl (0, .ofNat 2)), (3, .inl (0, .ofNat 5))]),
    (3, none, (2, [(1, .ofNat 0, .ofNat 1)], [], [], [], [9, 10, 12, 13, 14, 15, 16, 17, 18, 21, 22, 23, 24, 25]), [(0, .inr (some (some 359))), (1, .inl (1, .ofNat 0)), (2, .inl (0, .ofNat 4)), (3, .inl (0, .ofNat 4))]),
    (9, none, (2, [(1, .ofNat 0, .ofNat 1)], [], [], [], [9, 10, 12, 13, 14, 15, 16, 17, 18, 21, 22, 23, 24, 25]), [(0, .inr (some (some 359))), (1, .inl (1, .ofNat 0)), (2, .inl (0, .ofNat 3)), (3, .inl (0, .ofNat 5))]),
    (2, none, (2, [(1, .ofNat 0, .ofNat 1)], [], [], [], [9, 10, 12, 13, 14, 15, 16, 17, 18, 21, 22, 23, 24, 25]), [(0, .inr (some (some 359))), (1, .inl (1, .ofNat 0)), (2, .inl (0, .ofNat 4)), (3, .inl (0, .ofNat 5))])]
def jxm_c46_N : jc_Nt := [some [none, none, some (jxm_c46_n2_0), none, none, none, none, none, none, none, none, none, none, none, none, none],
  none,
  none,
  some [none, none, none, none, none, none, none, none, some ((jxm_c46_n56_0 ++ (jxm_c46_n56_1 ++ jxm_c46_n56_2))), none, none, none, none, none, none, none],
  none,
  none,
  none,
  none,
  none,
  none,
  none,
  none,
  none,
  some [none, none, none, some ((jxm_c46_n211_0 ++ jxm_c46_n211_1)), none, none, none, none, none, none, none, none, none, none, none, none],
  none,
  none,
  none,
  none,
  none,
  some [some ((jxm_c46_n304_0 ++ (jxm_c46_n304_1 ++ (jxm_c46_n304_2 ++ (jxm_c46_n304_3 ++ jxm_c46_n304_4))))), none, none, none, none, none, none, none, none, none, none, none, none, none, none, none]]
noncomputable def jxm_c46_Z : jc_Ce := (jxm, [], jT, [jxm_c41, jxm_c42, jxm_c43, jxm_c44, jxm_c45, jxm_c35, jxm_c36, jxm_c37, jxm_c38, jxm_c39, jxm_c40], jxm_S0, jxm_c46_N, .ofNat 100000)
set_option maxRecDepth 1000000 in
theorem jxm_c46_k2_0 : jc_ndc jxm_c46_Z 100000 jxm_c46 2 jxm_c46_n2_0 = true := by decide +kernel
set_option maxRecDepth 1000000 in
theorem jxm_c46_k56_0 : jc_ndc jxm_c46_Z 100000 jxm_c46 56 jxm_c46_n56_0 = true := by decide +kernel
end Jjxm15

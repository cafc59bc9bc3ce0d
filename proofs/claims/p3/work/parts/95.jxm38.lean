/-! contracts of the reference (38); written by wip/jc/e5.py -/
section Jjxm38
variable {X : J_H → Prop}
-- printsWord604
def jxm_c223 : jc_Cn := (292, 1, [.inr (some (some 359)), .inr none], (2, [(1, .ofNat 0, .ofNat 604)], [(2940955, .inl (1, .ofNat 0))], [], [], [9, 12, 13, 14, 15, 16, 17, 18, 21, 22, 23, 24, 25]), [(371, 0, 1400), (359, 27, 28)], [((2, [(1, .ofNat 0, .ofNat 613)], [(2940955, .inl (1, .ofNat 0))], [], [], [9, 12, 13, 14, 15, 16, 17, 18, 21, 22, 23, 24, 25]), none)])
def jxm_c223_N : jc_Nt := [some [none, none, none, some ([(10, none, (2, [(1, .ofNat 0, .ofNat 604)], [(2940955, .inl (1, .ofNat 0))], [], [], [9, 12, 13, 14, 15, 16, 17, 18, 21, 22, 23, 24, 25]), [(0, .inr (some (some 359))), (1, .inr none), (3, .inl (0, .ofNat 40))]),
    (9, none, (2, [(1, .ofNat 0, .ofNat 605)], [(2940955, .inl (1, .ofNat 0))], [], [], [9, 12, 13, 14, 15, 16, 17, 18, 21, 22, 23, 24, 25]), [(0, .inr (some (some 359))), (1, .inr none), (3, .inl (0, .ofNat 35))]),
    (8, none, (2, [(1, .ofNat 0, .ofNat 606)], [(2940955, .inl (1, .ofNat 0))], [], [], [9, 12, 13, 14, 15, 16, 17, 18, 21, 22, 23, 24, 25]), [(0, .inr (some (some 359))), (1, .inr none), (3, .inl (0, .ofNat 30))]),
    (7, none, (2, [(1, .ofNat 0, .ofNat 607)], [(2940955, .inl (1, .ofNat 0))], [], [], [9, 12, 13, 14, 15, 16, 17, 18, 21, 22, 23, 24, 25]), [(0, .inr (some (some 359))), (1, .inr none), (3, .inl (0, .ofNat 25))]),
    (6, none, (2, [(1, .ofNat 0, .ofNat 608)], [(2940955, .inl (1, .ofNat 0))], [], [], [9, 12, 13, 14, 15, 16, 17, 18, 21, 22, 23, 24, 25]), [(0, .inr (some (some 359))), (1, .inr none), (3, .inl (0, .ofNat 20))]),
    (5, none, (2, [(1, .ofNat 0, .ofNat 609)], [(2940955, .inl (1, .ofNat 0))], [], [], [9, 12, 13, 14, 15, 16, 17, 18, 21, 22, 23, 24, 25]), [(0, .inr (some (some 359))), (1, .inr none), (3, .inl (0, .ofNat 15))]),
    (4, none, (2, [(1, .ofNat 0, .ofNat 610)], [(2940955, .inl (1, .ofNat 0))], [], [], [9, 12, 13, 14, 15, 16, 17, 18, 21, 22, 23, 24, 25]), [(0, .inr (some (some 359))), (1, .inr none), (3, .inl (0, .ofNat 10))]),
    (3, none, (2, [(1, .ofNat 0, .ofNat 611)], [(2940955, .inl (1, .ofNat 0))], [], [], [9, 12, 13, 14, 15, 16, 17, 18, 21, 22, 23, 24, 25]), [(0, .inr (some (some 359))), (1, .inr none), (3, .inl (0, .ofNat 5))]),
    (2, none, (2, [(1, .ofNat 0, .ofNat 612)], [(2940955, .inl (1, .ofNat 0))], [], [], [9, 12, 13, 14, 15, 16, 17, 18, 21, 22, 23, 24, 25]), [(0, .inr (some (some 359))), (1, .inr none), (3, .inl (0, .ofNat 0))]),
    (1, none, (2, [(1, .ofNat 0, .ofNat 613)], [(2940955, .inl (1, .ofNat 0))], [], [], [9, 12, 13, 14, 15, 16, 17, 18, 21, 22, 23, 24, 25]), [(0, .inr (some (some 359))), (1, .inr none), (3, .inl (0, .negSucc 4))])]), none, none, none, none, none, none, none, none, none, none, none, none]]
set_option maxRecDepth 1000000 in
theorem jxm_c223_ok (hX : jc_Xo jxm X) : jc_Con jP jxm X jxm_c223 := jc_mth_ok (Z := (jxm, [], jT, [], jxm_S0, jxm_c223_N, .ofNat 100000)) (f := 100000) jxm_ok hX jT_ok jc_c0 (by decide +kernel)
-- printsWord618
def jxm_c224 : jc_Cn := (292, 1, [.inr (some (some 359)), .inr none], (2, [(1, .ofNat 0, .ofNat 618)], [(2940955, .inl (1, .ofNat 0))], [], [], [9, 12, 13, 14, 15, 16, 17, 18, 21, 22, 23, 24, 25]), [(371, 0, 1400), (359, 27, 28)], [((2, [(1, .ofNat 0, .ofNat 627)], [(2940955, .inl (1, .ofNat 0))], [], [], [9, 12, 13, 14, 15, 16, 17, 18, 21, 22, 23, 24, 25]), none)])
def jxm_c224_N : jc_Nt := [some [none, none, none, some ([(10, none, (2, [(1, .ofNat 0, .ofNat 618)], [(2940955, .inl (1, .ofNat 0))], [], [], [9, 12, 13, 14, 15, 16, 17, 18, 21, 22, 23, 24, 25]), [(0, .inr (some (some 359))), (1, .inr none), (3, .inl (0, .ofNat 40))]),
    (9, none, (2, [(1, .ofNat 0, .ofNat 619)], [(2940955, .inl (1, .ofNat 0))], [], [], [9, 12, 13, 14, 15, 16, 17, 18, 21, 22, 23, 24, 25]), [(0, .inr (some (some 359))), (1, .inr none), (3, .inl (0, .ofNat 35))]),
    (8, none, (2, [(1, .ofNat 0, .ofNat 620)], [(2940955, .inl (1, .ofNat 0))], [], [], [9, 12, 13, 14, 15, 16, 17, 18, 21, 22, 23, 24, 25]), [(0, .inr (some (some 359))), (1, .inr none), (3, .inl (0, .ofNat 30))]),
    (7, none, (2, [(1, .ofNat 0, .ofNat 621)], [(2940955, .inl (1, .ofNat 0))], [], [], [9, 12, 13, 14, 15, 16, 17, 18, 21, 22, 23, 24, 25]), [(0, .inr (some (some 359))), (1, .inr none), (3, .inl (0, .ofNat 25))]),
    (6, none, (2, [(1, .ofNat 0, .ofNat 622)], [(2940955, .inl (1, .ofNat 0))], [], [], [9, 12, 13, 14, 15, 16, 17, 18, 21, 22, 23, 24, 25]), [(0, .inr (some (some 359))), (1, .inr none), (3, .inl (0, .ofNat 20))]),
    (5, none, (2, [(1, .ofNat 0, .ofNat 623)], [(2940955, .inl (1, .ofNat 0))], [], [], [9, 12, 13, 14, 15, 16, 17, 18, 21, 22, 23, 24, 25]), [(0, .inr (some (some 359))), (1, .inr none), (3, .inl (0, .ofNat 15))]),
    (4, none, (2, [(1, .ofNat 0, .ofNat 624)], [(2940955, .inl (1, .ofNat 0))], [], [], [9, 12, 13, 14, 15, 16, 17, 18, 21, 22, 23, 24, 25]), [(0, .inr (some (some 359))), (1, .inr none), (3, .inl (0, .ofNat 10))]),
    (3, none, (2, [(1, .ofNat 0, .ofNat 625)], [(2940955, .inl (1, .ofNat 0))], [], [], [9, 12, 13, 14, 15, 16, 17, 18, 21, 22, 23, 24, 25]), [(0, .inr (some (some 359))), (1, .inr none), (3, .inl (0, .ofNat 5))]),
    (2, none, (2, [(1, .ofNat 0, .ofNat 626)], [(2940955, .inl (1, .ofNat 0))], [], [], [9, 12, 13, 14, 15, 16, 17, 18, 21, 22, 23, 24, 25]), [(0, .inr (some (some 359))), (1, .inr none), (3, .inl (0, .ofNat 0))]),
    (1, none, (2, [(1, .ofNat 0, .ofNat 627)], [(2940955, .inl (1, .ofNat 0))], [], [], [9, 12, 13, 14, 15, 16, 17, 18, 21, 22, 23, 24, 25]), [(0, .inr (some (some 359))), (1, .inr none), (3, .inl (0, .negSucc 4))])]), none, none, none, none, none, none, none, none, none, none, none, none]]
set_option maxRecDepth 1000000 in
theorem jxm_c224_ok (hX : jc_Xo jxm X) : jc_Con jP jxm X jxm_c224 := jc_mth_ok (Z := (jxm, [], jT, [], jxm_S0, jxm_c224_N, .ofNat 100000)) (f := 100000) jxm_ok hX jT_ok jc_c0 (by decide +kernel)
-- printsNumber19
def jxm_c225 : jc_Cn := (294, 1, [.inr (some (some 359)), .inl (2, .ofNat 0)], (3, [(1, .ofNat 0, .ofNat 19), (2, .negSucc 2147483647, .ofNat 2147483647)], [(2940955, .inl (1, .ofNat 0))], [], [], [9, 12, 13, 14, 15, 16, 17, 18, 21, 22, 23, 24, 25]), [(371, 0, 1400), (359, 27, 28)], [((2, [(1, .ofNat 2, .ofNat 23)], [(2940955, .inl (1, .ofNat 0))], [], [], [9, 12, 13, 14, 15, 16, 17, 18, 21, 22, 23, 24, 25]), none)])
def jxm_c225_N : jc_Nt := []
set_option maxRecDepth 1000000 in
theorem jxm_c225_ok (hX : jc_Xo jxm X) : jc_Con jP jxm X jxm_c225 := jc_mth_ok (Z := (jxm, [], jT, [], jxm_S0, jxm_c225_N, .ofNat 100000)) (f := 100000) jxm_ok hX jT_ok jc_c0 (by decide +kernel)
-- printsNumber23
def jxm_c226 : jc_Cn := (294, 1, [.inr (some (some 359)), .inl (2, .ofNat 0)], (3, [(1, .ofNat 0, .ofNat 23), (2, .negSucc 2147483647, .ofNat 2147483647)], [(2940955, .inl (1, .ofNat 0))], [], [], [9, 12, 13, 14, 15, 16, 17, 18, 21, 22, 23, 24, 25]), [(371, 0, 1400), (359, 27, 28)], [((2, [(1, .ofNat 2, .ofNat 27)], [(2940955, .inl (1, .ofNat 0))], [], [], [9, 12, 13, 14, 15, 16, 17, 18, 21, 22, 23, 24, 25]), none)])
def jxm_c226_N : jc_Nt := []
set_option maxRecDepth 1000000 in
theorem jxm_c226_ok (hX : jc_Xo jxm X) : jc_Con jP jxm X jxm_c226 := jc_mth_ok (Z := (jxm, [], jT, [], jxm_S0, jxm_c226_N, .ofNat 100000)) (f := 100000) jxm_ok hX jT_ok jc_c0 (by decide +kernel)
-- printsNumber27
def jxm_c227 : jc_Cn := (294, 1, [.inr (some (some 359)), .inl (2, .ofNat 0)], (3, [(1, .ofNat 0, .ofNat 27), (2, .negSucc 2147483647, .ofNat 2147483647)], [(2940955, .inl (1, .ofNat 0))], [], [], [9, 12, 13, 14, 15, 16, 17, 18, 21, 22, 23, 24, 25]), [(371, 0, 1400), (359, 27, 28)], [((2, [(1, .ofNat 2, .ofNat 31)], [(2940955, .inl (1, .ofNat 0))], [], [], [9, 12, 13, 14, 15, 16, 17, 18, 21, 22, 23, 24, 25]), none)])
def jxm_c227_N : jc_Nt := []
set_option maxRecDepth 1000000 in
theorem jxm_c227_ok (hX : jc_Xo jxm X) : jc_Con jP jxm X jxm_c227 := jc_mth_ok (Z := (jxm, [], jT, [], jxm_S0, jxm_c227_N, .ofNat 100000)) (f := 100000) jxm_ok hX jT_ok jc_c0 (by decide +kernel)
-- printsNumber31
def jxm_c228 : jc_Cn := (294, 1, [.inr (some (some 359)), .inl (2, .ofNat 0)], (3, [(1, .ofNat 0, .ofNat 31), (2, .negSucc 2147483647, .ofNat 2147483647)], [(2940955, .inl (1, .ofNat 0))], [], [], [9, 12, 13, 14, 15, 16, 17, 18, 21, 22, 23, 24, 25]), [(371, 0, 1400), (359, 27, 28)], [((2, [(1, .ofNat 2, .ofNat 35)], [(2940955, .inl (1, .ofNat 0))], [], [], [9, 12, 13, 14, 15, 16, 17, 18, 21, 22, 23, 24, 25]), none)])
def jxm_c228_N : jc_Nt := []
set_option maxRecDepth 1000000 in
theorem jxm_c228_ok (hX : jc_Xo jxm X) : jc_Con jP jxm X jxm_c228 := jc_mth_ok (Z := (jxm, [], jT, [], jxm_S0, jxm_c228_N, .ofNat 100000)) (f := 100000) jxm_ok hX jT_ok jc_c0 (by decide +kernel)
-- printsNumber55
def jxm_c229 : jc_Cn := (294, 1, [.inr (some (some 359)), .inl (2, .ofNat 0)], (3, [(1, .ofNat 0, .ofNat 55), (2, .negSucc 2147483647, .ofNat 2147483647)], [(2940955, .inl (1, .ofNat 0))], [], [], [9, 12, 13, 14, 15, 16, 17, 18, 21, 22, 23, 24, 25]), [(371, 0, 1400), (359, 27, 28)], [((2, [(1, .ofNat 2, .ofNat 59)], [(2940955, .inl (1, .ofNat 0))], [], [], [9, 12, 13, 14, 15, 16, 17, 18, 21, 22, 23, 24, 25]), none)])
def jxm_c229_N : jc_Nt := []
set_option maxRecDepth 1000000 in
theorem jxm_c229_ok (hX : jc_Xo jxm X) : jc_Con jP jxm X jxm_c229 := jc_mth_ok (Z := (jxm, [], jT, [], jxm_S0, jxm_c229_N, .ofNat 100000)) (f := 100000) jxm_ok hX jT_ok jc_c0 (by decide +kernel)
-- printsNumber59
def jxm_c230 : jc_Cn := (294, 1, [.inr (some (some 359)), .inl (2, .ofNat 0)], (3, [(1, .ofNat 0, .ofNat 59), (2, .negSucc 2147483647, .ofNat 2147483647)], [(2940955, .inl (1, .ofNat 0))], [], [], [9, 12, 13, 14, 15, 16, 17, 18, 21, 22, 23, 24, 25]), [(371, 0, 1400), (359, 27, 28)], [((2, [(1, .ofNat 2, .ofNat 63)], [(2940955, .inl (1, .ofNat 0))], [], [], [9, 12, 13, 14, 15, 16, 17, 18, 21, 22, 23, 24, 25]), none)])
def jxm_c230_N : jc_Nt := []
set_option maxRecDepth 1000000 in
theorem jxm_c230_ok (hX : jc_Xo jxm X) : jc_Con jP jxm X jxm_c230 := jc_mth_ok (Z := (jxm, [], jT, [], jxm_S0, jxm_c230_N, .ofNat 100000)) (f := 100000) jxm_ok hX jT_ok jc_c0 (by decide +kernel)
-- printsNumber63
def jxm_c231 : jc_Cn := (294, 1, [.inr (some (some 359)), .inl (2, .ofNat 0)], (3, [(1, .ofNat 0, .ofNat 63), (2, .negSucc 2147483647, .ofNat 2147483647)], [(2940955, .inl (1, .ofNat 0))], [], [], [9, 12, 13, 14, 15, 16, 17, 18, 21, 22, 23, 24, 25]), [(371, 0, 1400), (359, 27, 28)], [((2, [(1, .ofNat 2, .ofNat 67)], [(2940955, .inl (1, .ofNat 0))], [], [], [9, 12, 13, 14, 15, 16, 17, 18, 21, 22, 23, 24, 25]), none)])
def jxm_c231_N : jc_Nt := []
set_option maxRecDepth 1000000 in
theorem jxm_c231_ok (hX : jc_Xo jxm X) : jc_Con jP jxm X jxm_c231 := jc_mth_ok (Z := (jxm, [], jT, [], jxm_S0, jxm_c231_N, .ofNat 100000)) (f := 100000) jxm_ok hX jT_ok jc_c0 (by decide +kernel)
-- printsNumber67
def jxm_c232 : jc_Cn := (294, 1, [.inr (some (some 359)), .inl (2, .ofNat 0)], (3, [(1, .ofNat 0, .ofNat 67), (2, .negSucc 2147483647, .ofNat 2147483647)], [(2940955, .inl (1, .ofNat 0))], [], [], [9, 12, 13, 14, 15, 16, 17, 18, 21, 22, 23, 24, 25]), [(371, 0, 1400), (359, 27, 28)], [((2, [(1, .ofNat 2, .ofNat 71)], [(2940955, .inl (1, .ofNat 0))], [], [], [9, 12, 13, 14, 15, 16, 17, 18, 21, 22, 23, 24, 25]), none)])
def jxm_c232_N : jc_Nt := []
set_option maxRecDepth 1000000 in
theorem jxm_c232_ok (hX : jc_Xo jxm X) : jc_Con jP jxm X jxm_c232 := jc_mth_ok (Z := (jxm, [], jT, [], jxm_S0, jxm_c232_N, .ofNat 100000)) (f := 100000) jxm_ok hX jT_ok jc_c0 (by decide +kernel)
-- printsNumber91
def jxm_c233 : jc_Cn := (294, 1, [.inr (some (some 359)), .inl (2, .ofNat 0)], (3, [(1, .ofNat 0, .ofNat 91), (2, .negSucc 2147483647, .ofNat 2147483647)], [(2940955, .inl (1, .ofNat 0))], [], [], [9, 12, 13, 14, 15, 16, 17, 18, 21, 22, 23, 24, 25]), [(371, 0, 1400), (359, 27, 28)], [((2, [(1, .ofNat 2, .ofNat 95)], [(2940955, .inl (1, .ofNat 0))], [], [], [9, 12, 13, 14, 15, 16, 17, 18, 21, 22, 23, 24, 25]), none)])
def jxm_c233_N : jc_Nt := []
set_option maxRecDepth 1000000 in
theorem jxm_c233_ok (hX : jc_Xo jxm X) : jc_Con jP jxm X jxm_c233 := jc_mth_ok (Z := (jxm, [], jT, [], jxm_S0, jxm_c233_N, .ofNat 100000)) (f := 100000) jxm_ok hX jT_ok jc_c0 (by decide +kernel)
-- printsNumber95
def jxm_c234 : jc_Cn := (294, 1, [.inr (some (some 359)), .inl (2, .ofNat 0)], (3, [(1, .ofNat 0, .ofNat 95), (2, .negSucc 2147483647, .ofNat 2147483647)], [(2940955, .inl (1, .ofNat 0))], [], [], [9, 12, 13, 14, 15, 16, 17, 18, 21, 22, 23, 24, 25]), [(371, 0, 1400), (359, 27, 28)], [((2, [(1, .ofNat 2, .ofNat 99)], [(2940955, .inl (1, .ofNat 0))], [], [], [9, 12, 13, 14, 15, 16, 17, 18, 21, 22, 23, 24, 25]), none)])
def jxm_c234_N : jc_Nt := []
set_option maxRecDepth 1000000 in
theorem jxm_c234_ok (hX : jc_Xo jxm X) : jc_Con jP jxm X jxm_c234 := jc_mth_ok (Z := (jxm, [], jT, [], jxm_S0, jxm_c234_N, .ofNat 100000)) (f := 100000) jxm_ok hX jT_ok jc_c0 (by decide +kernel)
-- printsNumber99
def jxm_c235 : jc_Cn := (294, 1, [.inr (some (some 359)), .inl (2, .ofNat 0)], (3, [(1, .ofNat 0, .ofNat 99), (2, .negSucc 2147483647, .ofNat 2147483647)], [(2940955, .inl (1, .ofNat 0))], [], [], [9, 12, 13, 14, 15, 16, 17, 18, 21, 22, 23, 24, 25]), [(371, 0, 1400), (359, 27, 28)], [((2, [(1, .ofNat 2, .ofNat 103)], [(2940955, .inl (1, .ofNat 0))], [], [], [9, 12, 13, 14, 15, 16, 17, 18, 21, 22, 23, 24, 25]), none)])
def jxm_c235_N : jc_Nt := []
set_option maxRecDepth 1000000 in
theorem jxm_c235_ok (hX : jc_Xo jxm X) : jc_Con jP jxm X jxm_c235 := jc_mth_ok (Z := (jxm, [], jT, [], jxm_S0, jxm_c235_N, .ofNat 100000)) (f := 100000) jxm_ok hX jT_ok jc_c0 (by decide +kernel)
-- printsNumber103
def jxm_c236 : jc_Cn := (294, 1, [.inr (some (some 359)), .inl (2, .ofNat 0)], (3, [(1, .ofNat 0, .ofNat 103), (2, .negSucc 2147483647, .ofNat 2147483647)], [(2940955, .inl (1, .ofNat 0))], [], [], [9, 12, 13, 14, 15, 16, 17, 18, 21, 22, 23, 24, 25]), [(371, 0, 1400), (359, 27, 28)], [((2, [(1, .ofNat 2, .ofNat 107)], [(2940955, .inl (1, .ofNat 0))], [], [], [9, 12, 13, 14, 15, 16, 17, 18, 21, 22, 23, 24, 25]), none)])
def jxm_c236_N : jc_Nt := []
set_option maxRecDepth 1000000 in
theorem jxm_c236_ok (hX : jc_Xo jxm X) : jc_Con jP jxm X jxm_c236 := jc_mth_ok (Z := (jxm, [], jT, [], jxm_S0, jxm_c236_N, .ofNat 100000)) (f := 100000) jxm_ok hX jT_ok jc_c0 (by decide +kernel)
-- printsNumber127
def jxm_c237 : jc_Cn := (294, 1, [.inr (some (some 359)), .inl (2, .ofNat 0)], (3, [(1, .ofNat 0, .ofNat 127), (2, .negSucc 2147483647, .ofNat 2147483647)], [(2940955, .inl (1, .ofNat 0))], [], [], [9, 12, 13, 14, 15, 16, 17, 18, 21, 22, 23, 24, 25]), [(371, 0, 1400), (359, 27, 28)], [((2, [(1, .ofNat 2, .ofNat 131)], [(2940955, .inl (1, .ofNat 0))], [], [], [9, 12, 13, 14, 15, 16, 17, 18, 21, 22, 23, 24, 25]), none)])
def jxm_c237_N : jc_Nt := []
set_option maxRecDepth 1000000 in
theorem jxm_c237_ok (hX : jc_Xo jxm X) : jc_Con jP jxm X jxm_c237 := jc_mth_ok (Z := (jxm, [], jT, [], jxm_S0, jxm_c237_N, .ofNat 100000)) (f := 100000) jxm_ok hX jT_ok jc_c0 (by decide +kernel)
-- printsNumber131
def jxm_c238 : jc_Cn := (294, 1, [.inr (some (some 359)), .inl (2, .ofNat 0)], (3, [(1, .ofNat 0, .ofNat 131), (2, .negSucc 2147483647, .ofNat 2147483647)], [(2940955, .inl (1, .ofNat 0))], [], [], [9, 12, 13, 14, 15, 16, 17, 18, 21, 22, 23, 24, 25]), [(371, 0, 1400), (359, 27, 28)], [((2, [(1, .ofNat 2, .ofNat 135)], [(2940955, .inl (1, .ofNat 0))], [], [], [9, 12, 13, 14, 15, 16, 17, 18, 21, 22, 23, 24, 25]), none)])
def jxm_c238_N : jc_Nt := []
set_option maxRecDepth 1000000 in
theorem jxm_c238_ok (hX : jc_Xo jxm X) : jc_Con jP jxm X jxm_c238 := jc_mth_ok (Z := (jxm, [], jT, [], jxm_S0, jxm_c238_N, .ofNat 100000)) (f := 100000) jxm_ok hX jT_ok jc_c0 (by decide +kernel)
-- printsNumber135
def jxm_c239 : jc_Cn := (294, 1, [.inr (some (some 359)), .inl (2, .ofNat 0)], (3, [(1, .ofNat 0, .ofNat 135), (2, .negSucc 2147483647, .ofNat 2147483647)], [(2940955, .inl (1, .ofNat 0))], [], [], [9, 12, 13, 14, 15, 16, 17, 18, 21, 22, 23, 24, 25]), [(371, 0, 1400), (359, 27, 28)], [((2, [(1, .ofNat 2, .ofNat 139)], [(2940955, .inl (1, .ofNat 0))], [], [], [9, 12, 13, 14, 15, 16, 17, 18, 21, 22, 23, 24, 25]), none)])
def jxm_c239_N : jc_Nt := []
set_option maxRecDepth 1000000 in
theorem jxm_c239_ok (hX : jc_Xo jxm X) : jc_Con jP jxm X jxm_c239 := jc_mth_ok (Z := (jxm, [], jT, [], jxm_S0, jxm_c239_N, .ofNat 100000)) (f := 100000) jxm_ok hX jT_ok jc_c0 (by decide +kernel)
-- printsNumber139
def jxm_c240 : jc_Cn := (294, 1, [.inr (some (some 359)), .inl (2, .ofNat 0)], (3, [(1, .ofNat 0, .ofNat 139), (2, .negSucc 2147483647, .ofNat 2147483647)], [(2940955, .inl (1, .ofNat 0))], [], [], [9, 12, 13, 14, 15, 16, 17, 18, 21, 22, 23, 24, 25]), [(371, 0, 1400), (359, 27, 28)], [((2, [(1, .ofNat 2, .ofNat 143)], [(2940955, .inl (1, .ofNat 0))], [], [], [9, 12, 13, 14, 15, 16, 17, 18, 21, 22, 23, 24, 25]), none)])
def jxm_c240_N : jc_Nt := []
set_option maxRecDepth 1000000 in
theorem jxm_c240_ok (hX : jc_Xo jxm X) : jc_Con jP jxm X jxm_c240 := jc_mth_ok (Z := (jxm, [], jT, [], jxm_S0, jxm_c240_N, .ofNat 100000)) (f := 100000) jxm_ok hX jT_ok jc_c0 (by decide +kernel)
-- printsNumber163
def jxm_c241 : jc_Cn := (294, 1, [.inr (some (some 359)), .inl (2, .ofNat 0)], (3, [(1, .ofNat 0, .ofNat 163), (2, .negSucc 2147483647, .ofNat 2147483647)], [(2940955, .inl (1, .ofNat 0))], [], [], [9, 12, 13, 14, 15, 16, 17, 18, 21, 22, 23, 24, 25]), [(371, 0, 1400), (359, 27, 28)], [((2, [(1, .ofNat 2, .ofNat 167)], [(2940955, .inl (1, .ofNat 0))], [], [], [9, 12, 13, 14, 15, 16, 17, 18, 21, 22, 23, 24, 25]), none)])
def jxm_c241_N : jc_Nt := []
set_option maxRecDepth 1000000 in
theorem jxm_c241_ok (hX : jc_Xo jxm X) : jc_Con jP jxm X jxm_c241 := jc_mth_ok (Z := (jxm, [], jT, [], jxm_S0, jxm_c241_N, .ofNat 100000)) (f := 100000) jxm_ok hX jT_ok jc_c0 (by decide +kernel)
-- printsNumber167
def jxm_c242 : jc_Cn := (294, 1, [.inr (some (some 359)), .inl (2, .ofNat 0)], (3, [(1, .ofNat 0, .ofNat 167), (2, .negSucc 2147483647, .ofNat 2147483647)], [(2940955, .inl (1, .ofNat 0))], [], [], [9, 12, 13, 14, 15, 16, 17, 18, 21, 22, 23, 24, 25]), [(371, 0, 1400), (359, 27, 28)], [((2, [(1, .ofNat 2, .ofNat 171)], [(2940955, .inl (1, .ofNat 0))], [], [], [9, 12, 13, 14, 15, 16, 17, 18, 21, 22, 23, 24, 25]), none)])
def jxm_c242_N : jc_Nt := []
set_option maxRecDepth 1000000 in
theorem jxm_c242_ok (hX : jc_Xo jxm X) : jc_Con jP jxm X jxm_c242 := jc_mth_ok (Z := (jxm, [], jT, [], jxm_S0, jxm_c242_N, .ofNat 100000)) (f := 100000) jxm_ok hX jT_ok jc_c0 (by decide +kernel)
-- printsNumber171
def jxm_c243 : jc_Cn := (294, 1, [.inr (some (some 359)), .inl (2, .ofNat 0)], (3, [(1, .ofNat 0, .ofNat 171), (2, .negSucc 2147483647, .ofNat 2147483647)], [(2940955, .inl (1, .ofNat 0))], [], [], [9, 12, 13, 14, 15, 16, 17, 18, 21, 22, 23, 24, 25]), [(371, 0, 1400), (359, 27, 28)], [((2, [(1, .ofNat 2, .ofNat 175)], [(2940955, .inl (1, .ofNat 0))], [], [], [9, 12, 13, 14, 15, 16, 17, 18, 21, 22, 23, 24, 25]), none)])
def jxm_c243_N : jc_Nt := []
set_option maxRecDepth 1000000 in
theorem jxm_c243_ok (hX : jc_Xo jxm X) : jc_Con jP jxm X jxm_c243 := jc_mth_ok (Z := (jxm, [], jT, [], jxm_S0, jxm_c243_N, .ofNat 100000)) (f := 100000) jxm_ok hX jT_ok jc_c0 (by decide +kernel)
-- printsNumber175
def jxm_c244 : jc_Cn := (294, 1, [.inr (some (some 359)), .inl (2, .ofNat 0)], (3, [(1, .ofNat 0, .ofNat 175), (2, .negSucc 2147483647, .ofNat 2147483647)], [(2940955, .inl (1, .ofNat 0))], [], [], [9, 12, 13, 14, 15, 16, 17, 18, 21, 22, 23, 24, 25]), [(371, 0, 1400), (359, 27, 28)], [((2, [(1, .ofNat 2, .ofNat 179)], [(2940955, .inl (1, .ofNat 0))], [], [], [9, 12, 13, 14, 15, 16, 17, 18, 21, 22, 23, 24, 25]), none)])
def jxm_c244_N : jc_Nt := []
set_option maxRecDepth 1000000 in
theorem jxm_c244_ok (hX : jc_Xo jxm X) : jc_Con jP jxm X jxm_c244 := jc_mth_ok (Z := (jxm, [], jT, [], jxm_S0, jxm_c244_N, .ofNat 100000)) (f := 100000) jxm_ok hX jT_ok jc_c0 (by decide +kernel)
-- printsNumber199
def jxm_c245 : jc_Cn := (294, 1, [.inr (some (some 359)), .inl (2, .ofNat 0)], (3, [(1, .ofNat 0, .ofNat 199), (2, .negSucc 2147483647, .ofNat 2147483647)], [(2940955, .inl (1, .ofNat 0))], [], [], [9, 12, 13, 14, 15, 16, 17, 18, 21, 22, 23, 24, 25]), [(371, 0, 1400), (359, 27, 28)], [((2, [(1, .ofNat 2, .ofNat 203)], [(2940955, .inl (1, .ofNat 0))], [], [], [9, 12, 13, 14, 15, 16, 17, 18, 21, 22, 23, 24, 25]), none)])
def jxm_c245_N : jc_Nt := []
set_option maxRecDepth 1000000 in
theorem jxm_c245_ok (hX : jc_Xo jxm X) : jc_Con jP jxm X jxm_c245 := jc_mth_ok (Z := (jxm, [], jT, [], jxm_S0, jxm_c245_N, .ofNat 100000)) (f := 100000) jxm_ok hX jT_ok jc_c0 (by decide +kernel)
-- printsNumber203
def jxm_c246 : jc_Cn := (294, 1, [.inr (some (some 359)), .inl (2, .ofNat 0)], (3, [(1, .ofNat 0, .ofNat 203), (2, .negSucc 2147483647, .ofNat 2147483647)], [(2940955, .inl (1, .ofNat 0))], [], [], [9, 12, 13, 14, 15, 16, 17, 18, 21, 22, 23, 24, 25]), [(371, 0, 1400), (359, 27, 28)], [((2, [(1, .ofNat 2, .ofNat 207)], [(2940955, .inl (1, .ofNat 0))], [], [], [9, 12, 13, 14, 15, 16, 17, 18, 21, 22, 23, 24, 25]), none)])
def jxm_c246_N : jc_Nt := []
set_option maxRecDepth 1000000 in
theorem jxm_c246_ok (hX : jc_Xo jxm X) : jc_Con jP jxm X jxm_c246 := jc_mth_ok (Z := (jxm, [], jT, [], jxm_S0, jxm_c246_N, .ofNat 100000)) (f := 100000) jxm_ok hX jT_ok jc_c0 (by decide +kernel)
-- printsNumber207
def jxm_c247 : jc_Cn := (294, 1, [.inr (some (some 359)), .inl (2, .ofNat 0)], (3, [(1, .ofNat 0, .ofNat 207), (2, .negSucc 2147483647, .ofNat 2147483647)], [(2940955, .inl (1, .ofNat 0))], [], [], [9, 12, 13, 14, 15, 16, 17, 18, 21, 22, 23, 24, 25]), [(371, 0, 1400), (359, 27, 28)], [((2, [(1, .ofNat 2, .ofNat 211)], [(2940955, .inl (1, .ofNat 0))], [], [], [9, 12, 13, 14, 15, 16, 17, 18, 21, 22, 23, 24, 25]), none)])
def jxm_c247_N : jc_Nt := []
set_option maxRecDepth 1000000 in
theorem jxm_c247_ok (hX : jc_Xo jxm X) : jc_Con jP jxm X jxm_c247 := jc_mth_ok (Z := (jxm, [], jT, [], jxm_S0, jxm_c247_N, .ofNat 100000)) (f := 100000) jxm_ok hX jT_ok jc_c0 (by decide +kernel)
-- printsNumber211
def jxm_c248 : jc_Cn := (294, 1, [.inr (some (some 359)), .inl (2, .ofNat 0)], (3, [(1, .ofNat 0, .ofNat 211), (2, .negSucc 2147483647, .ofNat 2147483647)], [(2940955, .inl (1, .ofNat 0))], [], [], [9, 12, 13, 14, 15, 16, 17, 18, 21, 22, 23, 24, 25]), [(371, 0, 1400), (359, 27, 28)], [((2, [(1, .ofNat 2, .ofNat 215)], [(2940955, .inl (1, .ofNat 0))], [], [], [9, 12, 13, 14, 15, 16, 17, 18, 21, 22, 23, 24, 25]), none)])
def jxm_c248_N : jc_Nt := []
set_option maxRecDepth 1000000 in
theorem jxm_c248_ok (hX : jc_Xo jxm X) : jc_Con jP jxm X jxm_c248 := jc_mth_ok (Z := (jxm, [], jT, [], jxm_S0, jxm_c248_N, .ofNat 100000)) (f := 100000) jxm_ok hX jT_ok jc_c0 (by decide +kernel)
-- printsNumber235
def jxm_c249 : jc_Cn := (294, 1, [.inr (some (some 359)), .inl (2, .ofNat 0)], (3, [(1, .ofNat 0, .ofNat 235), (2, .negSucc 2147483647, .ofNat 2147483647)], [(2940955, .inl (1, .ofNat 0))], [], [], [9, 12, 13, 14, 15, 16, 17, 18, 21, 22, 23, 24, 25]), [(371, 0, 1400), (359, 27, 28)], [((2, [(1, .ofNat 2, .ofNat 239)], [(2940955, .inl (1, .ofNat 0))], [], [], [9, 12, 13, 14, 15, 16, 17, 18, 21, 22, 23, 24, 25]), none)])
def jxm_c249_N : jc_Nt := []
set_option maxRecDepth 1000000 in
theorem jxm_c249_ok (hX : jc_Xo jxm X) : jc_Con jP jxm X jxm_c249 := jc_mth_ok (Z := (jxm, [], jT, [], jxm_S0, jxm_c249_N, .ofNat 100000)) (f := 100000) jxm_ok hX jT_ok jc_c0 (by decide +kernel)
-- printsNumber239
def jxm_c250 : jc_Cn := (294, 1, [.inr (some (some 359)), .inl (2, .ofNat 0)], (3, [(1, .ofNat 0, .ofNat 239), (2, .negSucc 2147483647, .ofNat 2147483647)], [(2940955, .inl (1, .ofNat 0))], [], [], [9, 12, 13, 14, 15, 16, 17, 18, 21, 22, 23, 24, 25]), [(371, 0, 1400), (359, 27, 28)], [((2, [(1, .ofNat 2, .ofNat 243)], [(2940955, .inl (1, .ofNat 0))], [], [], [9, 12, 13, 14, 15, 16, 17, 18, 21, 22, 23, 24, 25]), none)])
def jxm_c250_N : jc_Nt := []
set_option maxRecDepth 1000000 in
theorem jxm_c250_ok (hX : jc_Xo jxm X) : jc_Con jP jxm X jxm_c250 := jc_mth_ok (Z := (jxm, [], jT, [], jxm_S0, jxm_c250_N, .ofNat 100000)) (f := 100000) jxm_ok hX jT_ok jc_c0 (by decide +kernel)
-- printsNumber243
def jxm_c251 : jc_Cn := (294, 1, [.inr (some (some 359)), .inl (2, .ofNat 0)], (3, [(1, .ofNat 0, .ofNat 243), (2, .negSucc 2147483647, .ofNat 2147483647)], [(2940955, .inl (1, .ofNat 0))], [], [], [9, 12, 13, 14, 15, 16, 17, 18, 21, 22, 23, 24, 25]), [(371, 0, 1400), (359, 27, 28)], [((2, [(1, .ofNat 2, .ofNat 247)], [(2940955, .inl (1, .ofNat 0))], [], [], [9, 12, 13, 14, 15, 16, 17, 18, 21, 22, 23, 24, 25]), none)])
def jxm_c251_N : jc_Nt := []
set_option maxRecDepth 1000000 in
theorem jxm_c251_ok (hX : jc_Xo jxm X) : jc_Con jP jxm X jxm_c251 := jc_mth_ok (Z := (jxm, [], jT, [], jxm_S0, jxm_c251_N, .ofNat 100000)) (f := 100000) jxm_ok hX jT_ok jc_c0 (by decide +kernel)
-- printsNumber247
def jxm_c252 : jc_Cn := (294, 1, [.inr (some (some 359)), .inl (2, .ofNat 0)], (3, [(1, .ofNat 0, .ofNat 247), (2, .negSucc 2147483647, .ofNat 2147483647)], [(2940955, .inl (1, .ofNat 0))], [], [], [9, 12, 13, 14, 15, 16, 17, 18, 21, 22, 23, 24, 25]), [(371, 0, 1400), (359, 27, 28)], [((2, [(1, .ofNat 2, .ofNat 251)], [(2940955, .inl (1, .ofNat 0))], [], [], [9, 12, 13, 14, 15, 16, 17, 18, 21, 22, 23, 24, 25]), none)])
def jxm_c252_N : jc_Nt := []
set_option maxRecDepth 1000000 in
theorem jxm_c252_ok (hX : jc_Xo jxm X) : jc_Con jP jxm X jxm_c252 := jc_mth_ok (Z := (jxm, [], jT, [], jxm_S0, jxm_c252_N, .ofNat 100000)) (f := 100000) jxm_ok hX jT_ok jc_c0 (by decide +kernel)
-- printsNumber271
def jxm_c253 : jc_Cn := (294, 1, [.inr (some (some 359)), .inl (2, .ofNat 0)], (3, [(1, .ofNat 0, .ofNat 271), (2, .negSucc 2147483647, .ofNat 2147483647)], [(2940955, .inl (1, .ofNat 0))], [], [], [9, 12, 13, 14, 15, 16, 17, 18, 21, 22, 23, 24, 25]), [(371, 0, 1400), (359, 27, 28)], [((2, [(1, .ofNat 2, .ofNat 275)], [(2940955, .inl (1, .ofNat 0))], [], [], [9, 12, 13, 14, 15, 16, 17, 18, 21, 22, 23, 24, 25]), none)])
def jxm_c253_N : jc_Nt := []
set_option maxRecDepth 1000000 in
theorem jxm_c253_ok (hX : jc_Xo jxm X) : jc_Con jP jxm X jxm_c253 := jc_mth_ok (Z := (jxm, [], jT, [], jxm_S0, jxm_c253_N, .ofNat 100000)) (f := 100000) jxm_ok hX jT_ok jc_c0 (by decide +kernel)
-- printsNumber295
def jxm_c254 : jc_Cn := (294, 1, [.inr (some (some 359)), .inl (2, .ofNat 0)], (3, [(1, .ofNat 0, .ofNat 295), (2, .negSucc 2147483647, .ofNat 2147483647)], [(2940955, .inl (1, .ofNat 0))], [], [], [9, 12, 13, 14, 15, 16, 17, 18, 21, 22, 23, 24, 25]), [(371, 0, 1400), (359, 27, 28)], [((2, [(1, .ofNat 2, .ofNat 299)], [(2940955, .inl (1, .ofNat 0))], [], [], [9, 12, 13, 14, 15, 16, 17, 18, 21, 22, 23, 24, 25]), none)])
def jxm_c254_N : jc_Nt := []
set_option maxRecDepth 1000000 in
theorem jxm_c254_ok (hX : jc_Xo jxm X) : jc_Con jP jxm X jxm_c254 := jc_mth_ok (Z := (jxm, [], jT, [], jxm_S0, jxm_c254_N, .ofNat 100000)) (f := 100000) jxm_ok hX jT_ok jc_c0 (by decide +kernel)
-- printsNumber309
def jxm_c255 : jc_Cn := (294, 1, [.inr (some (some 359)), .inl (2, .ofNat 0)], (3, [(1, .ofNat 0, .ofNat 309), (2, .negSucc 2147483647, .ofNat 2147483647)], [(2940955, .inl (1, .ofNat 0))], [], [], [9, 12, 13, 14, 15, 16, 17, 18, 21, 22, 23, 24, 25]), [(371, 0, 1400), (359, 27, 28)], [((2, [(1, .ofNat 2, .ofNat 313)], [(2940955, .inl (1, .ofNat 0))], [], [], [9, 12, 13, 14, 15, 16, 17, 18, 21, 22, 23, 24, 25]), none)])
def jxm_c255_N : jc_Nt := []
set_option maxRecDepth 1000000 in
theorem jxm_c255_ok (hX : jc_Xo jxm X) : jc_Con jP jxm X jxm_c255 := jc_mth_ok (Z := (jxm, [], jT, [], jxm_S0, jxm_c255_N, .ofNat 100000)) (f := 100000) jxm_ok hX jT_ok jc_c0 (by decide +kernel)
-- printsNumber323
def jxm_c256 : jc_Cn := (294, 1, [.inr (some (some 359)), .inl (2, .ofNat 0)], (3, [(1, .ofNat 0, .ofNat 323), (2, .negSucc 2147483647, .ofNat 2147483647)], [(2940955, .inl (1, .ofNat 0))], [], [], [9, 12, 13, 14, 15, 16, 17, 18, 21, 22, 23, 24, 25]), [(371, 0, 1400), (359, 27, 28)], [((2, [(1, .ofNat 2, .ofNat 327)], [(2940955, .inl (1, .ofNat 0))], [], [], [9, 12, 13, 14, 15, 16, 17, 18, 21, 22, 23, 24, 25]), none)])
def jxm_c256_N : jc_Nt := []
set_option maxRecDepth 1000000 in
theorem jxm_c256_ok (hX : jc_Xo jxm X) : jc_Con jP jxm X jxm_c256 := jc_mth_ok (Z := (jxm, [], jT, [], jxm_S0, jxm_c256_N, .ofNat 100000)) (f := 100000) jxm_ok hX jT_ok jc_c0 (by decide +kernel)
-- printsNumber347
def jxm_c257 : jc_Cn := (294, 1, [.inr (some (some 359)), .inl (2, .ofNat 0)], (3, [(1, .ofNat 0, .ofNat 347), (2, .negSucc 2147483647, .ofNat 2147483647)], [(2940955, .inl (1, .ofNat 0))], [], [], [9, 12, 13, 14, 15, 16, 17, 18, 21, 22, 23, 24, 25]), [(371, 0, 1400), (359, 27, 28)], [((2, [(1, .ofNat 2, .ofNat 351)], [(2940955, .inl (1, .ofNat 0))], [], [], [9, 12, 13, 14, 15, 16, 17, 18, 21, 22, 23, 24, 25]), none)])
def jxm_c257_N : jc_Nt := []
set_option maxRecDepth 1000000 in
theorem jxm_c257_ok (hX : jc_Xo jxm X) : jc_Con jP jxm X jxm_c257 := jc_mth_ok (Z := (jxm, [], jT, [], jxm_S0, jxm_c257_N, .ofNat 100000)) (f := 100000) jxm_ok hX jT_ok jc_c0 (by decide +kernel)
-- printsNumber371
def jxm_c258 : jc_Cn := (294, 1, [.inr (some (some 359)), .inl (2, .ofNat 0)], (3, [(1, .ofNat 0, .ofNat 371), (2, .negSucc 2147483647, .ofNat 2147483647)], [(2940955, .inl (1, .ofNat 0))], [], [], [9, 12, 13, 14, 15, 16, 17, 18, 21, 22, 23, 24, 25]), [(371, 0, 1400), (359, 27, 28)], [((2, [(1, .ofNat 2, .ofNat 375)], [(2940955, .inl (1, .ofNat 0))], [], [], [9, 12, 13, 14, 15, 16, 17, 18, 21, 22, 23, 24, 25]), none)])
def jxm_c258_N : jc_Nt := []
set_option maxRecDepth 1000000 in
theorem jxm_c258_ok (hX : jc_Xo jxm X) : jc_Con jP jxm X jxm_c258 := jc_mth_ok (Z := (jxm, [], jT, [], jxm_S0, jxm_c258_N, .ofNat 100000)) (f := 100000) jxm_ok hX jT_ok jc_c0 (by decide +kernel)
-- printsNumber385
def jxm_c259 : jc_Cn := (294, 1, [.inr (some (some 359)), .inl (2, .ofNat 0)], (3, [(1, .ofNat 0, .ofNat 385), (2, .negSucc 2147483647, .ofNat 2147483647)], [(2940955, .inl (1, .ofNat 0))], [], [], [9, 12, 13, 14, 15, 16, 17, 18, 21, 22, 23, 24, 25]), [(371, 0, 1400), (359, 27, 28)], [((2, [(1, .ofNat 2, .ofNat 389)], [(2940955, .inl (1, .ofNat 0))], [], [], [9, 12, 13, 14, 15, 16, 17, 18, 21, 22, 23, 24, 25]), none)])
def jxm_c259_N : jc_Nt := []
set_option maxRecDepth 1000000 in
theorem jxm_c259_ok (hX : jc_Xo jxm X) : jc_Con jP jxm X jxm_c259 := jc_mth_ok (Z := (jxm, [], jT, [], jxm_S0, jxm_c259_N, .ofNat 100000)) (f := 100000) jxm_ok hX jT_ok jc_c0 (by decide +kernel)
-- printsNumber399
def jxm_c260 : jc_Cn := (294, 1, [.inr (some (some 359)), .inl (2, .ofNat 0)], (3, [(1, .ofNat 0, .ofNat 399), (2, .negSucc 2147483647, .ofNat 2147483647)], [(2940955, .inl (1, .ofNat 0))], [], [], [9, 12, 13, 14, 15, 16, 17, 18, 21, 22, 23, 24, 25]), [(371, 0, 1400), (359, 27, 28)], [((2, [(1, .ofNat 2, .ofNat 403)], [(2940955, .inl (1, .ofNat 0))], [], [], [9, 12, 13, 14, 15, 16, 17, 18, 21, 22, 23, 24, 25]), none)])
def jxm_c260_N : jc_Nt := []
set_option maxRecDepth 1000000 in
theorem jxm_c260_ok (hX : jc_Xo jxm X) : jc_Con jP jxm X jxm_c260 := jc_mth_ok (Z := (jxm, [], jT, [], jxm_S0, jxm_c260_N, .ofNat 100000)) (f := 100000) jxm_ok hX jT_ok jc_c0 (by decide +kernel)
-- printsNumber423
def jxm_c261 : jc_Cn := (294, 1, [.inr (some (some 359)), .inl (2, .ofNat 0)], (3, [(1, .ofNat 0, .ofNat 423), (2, .negSucc 2147483647, .ofNat 2147483647)], [(2940955, .inl (1, .ofNat 0))], [], [], [9, 12, 13, 14, 15, 16, 17, 18, 21, 22, 23, 24, 25]), [(371, 0, 1400), (359, 27, 28)], [((2, [(1, .ofNat 2, .ofNat 427)], [(2940955, .inl (1, .ofNat 0))], [], [], [9, 12, 13, 14, 15, 16, 17, 18, 21, 22, 23, 24, 25]), none)])
def jxm_c261_N : jc_Nt := []
set_option maxRecDepth 1000000 in
theorem jxm_c261_ok (hX : jc_Xo jxm X) : jc_Con jP jxm X jxm_c261 := jc_mth_ok (Z := (jxm, [], jT, [], jxm_S0, jxm_c261_N, .ofNat 100000)) (f := 100000) jxm_ok hX jT_ok jc_c0 (by decide +kernel)
-- printsNumber447
def jxm_c262 : jc_Cn := (294, 1, [.inr (some (some 359)), .inl (2, .ofNat 0)], (3, [(1, .ofNat 0, .ofNat 447), (2, .negSucc 2147483647, .ofNat 2147483647)], [(2940955, .inl (1, .ofNat 0))], [], [], [9, 12, 13, 14, 15, 16, 17, 18, 21, 22, 23, 24, 25]), [(371, 0, 1400), (359, 27, 28)], [((2, [(1, .ofNat 2, .ofNat 451)], [(2940955, .inl (1, .ofNat 0))], [], [], [9, 12, 13, 14, 15, 16, 17, 18, 21, 22, 23, 24, 25]), none)])
def jxm_c262_N : jc_Nt := []
set_option maxRecDepth 1000000 in
theorem jxm_c262_ok (hX : jc_Xo jxm X) : jc_Con jP jxm X jxm_c262 := jc_mth_ok (Z := (jxm, [], jT, [], jxm_S0, jxm_c262_N, .ofNat 100000)) (f := 100000) jxm_ok hX jT_ok jc_c0 (by decide +kernel)
-- printsNumber461
def jxm_c263 : jc_Cn := (294, 1, [.inr (some (some 359)), .inl (2, .ofNat 0)], (3, [(1, .ofNat 0, .ofNat 461), (2, .negSucc 2147483647, .ofNat 2147483647)], [(2940955, .inl (1, .ofNat 0))], [], [], [9, 12, 13, 14, 15, 16, 17, 18, 21, 22, 23, 24, 25]), [(371, 0, 1400), (359, 27, 28)], [((2, [(1, .ofNat 2, .ofNat 465)], [(2940955, .inl (1, .ofNat 0))], [], [], [9, 12, 13, 14, 15, 16, 17, 18, 21, 22, 23, 24, 25]), none)])
def jxm_c263_N : jc_Nt := []
set_option maxRecDepth 1000000 in
theorem jxm_c263_ok (hX : jc_Xo jxm X) : jc_Con jP jxm X jxm_c263 := jc_mth_ok (Z := (jxm, [], jT, [], jxm_S0, jxm_c263_N, .ofNat 100000)) (f := 100000) jxm_ok hX jT_ok jc_c0 (by decide +kernel)
-- printsNumber475
def jxm_c264 : jc_Cn := (294, 1, [.inr (some (some 359)), .inl (2, .ofNat 0)], (3, [(1, .ofNat 0, .ofNat 475), (2, .negSucc 2147483647, .ofNat 2147483647)], [(2940955, .inl (1, .ofNat 0))], [], [], [9, 12, 13, 14, 15, 16, 17, 18, 21, 22, 23, 24, 25]), [(371, 0, 1400), (359, 27, 28)], [((2, [(1, .ofNat 2, .ofNat 479)], [(2940955, .inl (1, .ofNat 0))], [], [], [9, 12, 13, 14, 15, 16, 17, 18, 21, 22, 23, 24, 25]), none)])
def jxm_c264_N : jc_Nt := []
set_option maxRecDepth 1000000 in
theorem jxm_c264_ok (hX : jc_Xo jxm X) : jc_Con jP jxm X jxm_c264 := jc_mth_ok (Z := (jxm, [], jT, [], jxm_S0, jxm_c264_N, .ofNat 100000)) (f := 100000) jxm_ok hX jT_ok jc_c0 (by decide +kernel)
-- printsNumber499
def jxm_c265 : jc_Cn := (294, 1, [.inr (some (some 359)), .inl (2, .ofNat 0)], (3, [(1, .ofNat 0, .ofNat 499), (2, .negSucc 2147483647, .ofNat 2147483647)], [(2940955, .inl (1, .ofNat 0))], [], [], [9, 12, 13, 14, 15, 16, 17, 18, 21, 22, 23, 24, 25]), [(371, 0, 1400), (359, 27, 28)], [((2, [(1, .ofNat 2, .ofNat 503)], [(2940955, .inl (1, .ofNat 0))], [], [], [9, 12, 13, 14, 15, 16, 17, 18, 21, 22, 23, 24, 25]), none)])
def jxm_c265_N : jc_Nt := []
set_option maxRecDepth 1000000 in
theorem jxm_c265_ok (hX : jc_Xo jxm X) : jc_Con jP jxm X jxm_c265 := jc_mth_ok (Z := (jxm, [], jT, [], jxm_S0, jxm_c265_N, .ofNat 100000)) (f := 100000) jxm_ok hX jT_ok jc_c0 (by decide +kernel)
-- printsNumber523
def jxm_c266 : jc_Cn := (294, 1, [.inr (some (some 359)), .inl (2, .ofNat 0)], (3, [(1, .ofNat 0, .ofNat 523), (2, .negSucc 2147483647, .ofNat 2147483647)], [(2940955, .inl (1, .ofNat 0))], [], [], [9, 12, 13, 14, 15, 16, 17, 18, 21, 22, 23, 24, 25]), [(371, 0, 1400), (359, 27, 28)], [((2, [(1, .ofNat 2, .ofNat 527)], [(2940955, .inl (1, .ofNat 0))], [], [], [9, 12, 13, 14, 15, 16, 17, 18, 21, 22, 23, 24, 25]), none)])
def jxm_c266_N : jc_Nt := []
set_option maxRecDepth 1000000 in
theorem jxm_c266_ok (hX : jc_Xo jxm X) : jc_Con jP jxm X jxm_c266 := jc_mth_ok (Z := (jxm, [], jT, [], jxm_S0, jxm_c266_N, .ofNat 100000)) (f := 100000) jxm_ok hX jT_ok jc_c0 (by decide +kernel)
-- printsNumber537
def jxm_c267 : jc_Cn := (294, 1, [.inr (some (some 359)), .inl (2, .ofNat 0)], (3, [(1, .ofNat 0, .ofNat 537), (2, .negSucc 2147483647, .ofNat 2147483647)], [(2940955, .inl (1, .ofNat 0))], [], [], [9, 12, 13, 14, 15, 16, 17, 18, 21, 22, 23, 24, 25]), [(371, 0, 1400), (359, 27, 28)], [((2, [(1, .ofNat 2, .ofNat 541)], [(2940955, .inl (1, .ofNat 0))], [], [], [9, 12, 13, 14, 15, 16, 17, 18, 21, 22, 23, 24, 25]), none)])
def jxm_c267_N : jc_Nt := []
set_option maxRecDepth 1000000 in
theorem jxm_c267_ok (hX : jc_Xo jxm X) : jc_Con jP jxm X jxm_c267 := jc_mth_ok (Z := (jxm, [], jT, [], jxm_S0, jxm_c267_N, .ofNat 100000)) (f := 100000) jxm_ok hX jT_ok jc_c0 (by decide +kernel)
-- printsNumber551
def jxm_c268 : jc_Cn := (294, 1, [.inr (some (some 359)), .inl (2, .ofNat 0)], (3, [(1, .ofNat 0, .ofNat 551), (2, .negSucc 2147483647, .ofNat 2147483647)], [(2940955, .inl (1, .ofNat 0))], [], [], [9, 12, 13, 14, 15, 16, 17, 18, 21, 22, 23, 24, 25]), [(371, 0, 1400), (359, 27, 28)], [((2, [(1, .ofNat 2, .ofNat 555)], [(2940955, .inl (1, .ofNat 0))], [], [], [9, 12, 13, 14, 15, 16, 17, 18, 21, 22, 23, 24, 25]), none)])
def jxm_c268_N : jc_Nt := []
set_option maxRecDepth 1000000 in
theorem jxm_c268_ok (hX : jc_Xo jxm X) : jc_Con jP jxm X jxm_c268 := jc_mth_ok (Z := (jxm, [], jT, [], jxm_S0, jxm_c268_N, .ofNat 100000)) (f := 100000) jxm_ok hX jT_ok jc_c0 (by decide +kernel)
-- printsNumber575
def jxm_c269 : jc_Cn := (294, 1, [.inr (some (some 359)), .inl (2, .ofNat 0)], (3, [(1, .ofNat 0, .ofNat 575), (2, .negSucc 2147483647, .ofNat 2147483647)], [(2940955, .inl (1, .ofNat 0))], [], [], [9, 12, 13, 14, 15, 16, 17, 18, 21, 22, 23, 24, 25]), [(371, 0, 1400), (359, 27, 28)], [((2, [(1, .ofNat 2, .ofNat 579)], [(2940955, .inl (1, .ofNat 0))], [], [], [9, 12, 13, 14, 15, 16, 17, 18, 21, 22, 23, 24, 25]), none)])
def jxm_c269_N : jc_Nt := []
set_option maxRecDepth 1000000 in
theorem jxm_c269_ok (hX : jc_Xo jxm X) : jc_Con jP jxm X jxm_c269 := jc_mth_ok (Z := (jxm, [], jT, [], jxm_S0, jxm_c269_N, .ofNat 100000)) (f := 100000) jxm_ok hX jT_ok jc_c0 (by decide +kernel)
-- printsNumber599
def jxm_c270 : jc_Cn := (294, 1, [.inr (some (some 359)), .inl (2, .ofNat 0)], (3, [(1, .ofNat 0, .ofNat 599), (2, .negSucc 2147483647, .ofNat 2147483647)], [(2940955, .inl (1, .ofNat 0))], [], [], [9, 12, 13, 14, 15, 16, 17, 18, 21, 22, 23, 24, 25]), [(371, 0, 1400), (359, 27, 28)], [((2, [(1, .ofNat 2, .ofNat 603)], [(2940955, .inl (1, .ofNat 0))], [], [], [9, 12, 13, 14, 15, 16, 17, 18, 21, 22, 23, 24, 25]), none)])
def jxm_c270_N : jc_Nt := []
set_option maxRecDepth 1000000 in
theorem jxm_c270_ok (hX : jc_Xo jxm X) : jc_Con jP jxm X jxm_c270 := jc_mth_ok (Z := (jxm, [], jT, [], jxm_S0, jxm_c270_N, .ofNat 100000)) (f := 100000) jxm_ok hX jT_ok jc_c0 (by decide +kernel)
-- printsNumber613
def jxm_c271 : jc_Cn := (294, 1, [.inr (some (some 359)), .inl (2, .ofNat 0)], (3, [(1, .ofNat 0, .ofNat 613), (2, .negSucc 2147483647, .ofNat 2147483647)], [(2940955, .inl (1, .ofNat 0))], [], [], [9, 12, 13, 14, 15, 16, 17, 18, 21, 22, 23, 24, 25]), [(371, 0, 1400), (359, 27, 28)], [((2, [(1, .ofNat 2, .ofNat 617)], [(2940955, .inl (1, .ofNat 0))], [], [], [9, 12, 13, 14, 15, 16, 17, 18, 21, 22, 23, 24, 25]), none)])
def jxm_c271_N : jc_Nt := []
set_option maxRecDepth 1000000 in
theorem jxm_c271_ok (hX : jc_Xo jxm X) : jc_Con jP jxm X jxm_c271 := jc_mth_ok (Z := (jxm, [], jT, [], jxm_S0, jxm_c271_N, .ofNat 100000)) (f := 100000) jxm_ok hX jT_ok jc_c0 (by decide +kernel)
-- printsNumber627
def jxm_c272 : jc_Cn := (294, 1, [.inr (some (some 359)), .inl (2, .ofNat 0)], (3, [(1, .ofNat 0, .ofNat 627), (2, .negSucc 2147483647, .ofNat 2147483647)], [(2940955, .inl (1, .ofNat 0))], [], [], [9, 12, 13, 14, 15, 16, 17, 18, 21, 22, 23, 24, 25]), [(371, 0, 1400), (359, 27, 28)], [((2, [(1, .ofNat 2, .ofNat 631)], [(2940955, .inl (1, .ofNat 0))], [], [], [9, 12, 13, 14, 15, 16, 17, 18, 21, 22, 23, 24, 25]), none)])
def jxm_c272_N : jc_Nt := []
set_option maxRecDepth 1000000 in
theorem jxm_c272_ok (hX : jc_Xo jxm X) : jc_Con jP jxm X jxm_c272 := jc_mth_ok (Z := (jxm, [], jT, [], jxm_S0, jxm_c272_N, .ofNat 100000)) (f := 100000) jxm_ok hX jT_ok jc_c0 (by decide +kernel)
-- print
def jxm_c273 : jc_Cn := (296, 4, [.inr (some (some 359))], (1, [], [], [], [], [9, 12, 13, 14, 15, 16, 17, 18, 21, 22, 23, 24, 25]), [(371, 0, 1400), (359, 27, 28), (359, 10, 11), (359, 0, 1)], [((2, [(1, .ofNat 0, .ofNat 699)], [], [], [], [9, 12, 13, 14, 15, 16, 17, 18, 21, 22, 23, 24, 25]), some (.inl (1, .ofNat 0)))])
def jxm_c273_N : jc_Nt := [some [none, none, none, none, none, none, none, some ([(42, none, (1, [], [(2940955, .inl (0, .ofNat 0))], [], [], [9, 12, 13, 14, 15, 16, 17, 18, 21, 22, 23, 24, 25]), [(0, .inr (some (some 359))), (1, .inl (0, .ofNat 0))]),
    (37, none, (3, [(1, .ofNat 0, .ofNat 3), (2, .ofNat 3, .ofNat 36)], [(2940955, .inl (2, .ofNat 0))], [], [], [9, 12, 13, 14, 15, 16, 17, 18, 21, 22, 23, 24, 25]), [(0, .inr (some (some 359))), (1, .inl (0, .ofNat 1)), (2, .inl (1, .ofNat 0))]),
    (32, none, (3, [(1, .ofNat 0, .ofNat 3), (2, .ofNat 3, .ofNat 72)], [(2940955, .inl (2, .ofNat 0))], [], [], [9, 12, 13, 14, 15, 16, 17, 18, 21, 22, 23, 24, 25]), [(0, .inr (some (some 359))), (1, .inl (0, .ofNat 2)), (2, .inl (1, .ofNat 0))]),
    (27, none, (3, [(1, .ofNat 0, .ofNat 3), (2, .ofNat 3, .ofNat 108)], [(2940955, .inl (2, .ofNat 0))], [], [], [9, 12, 13, 14, 15, 16, 17, 18, 21, 22, 23, 24, 25]), [(0, .inr (some (some 359))), (1, .inl (0, .ofNat 3)), (2, .inl (1, .ofNat 0))]),
    (22, none, (3, [(1, .ofNat 0, .ofNat 3), (2, .ofNat 3, .ofNat 144)], [(2940955, .inl (2, .ofNat 0))], [], [], [9, 12, 13, 14, 15, 16, 17, 18, 21, 22, 23, 24, 25]), [(0, .inr (some (some 359))), (1, .inl (0, .ofNat 4)), (2, .inl (1, .ofNat 0))]),
    (17, none, (3, [(1, .ofNat 0, .ofNat 3), (2, .ofNat 3, .ofNat 180)], [(2940955, .inl (2, .ofNat 0))], [], [], [9, 12, 13, 14, 15, 16, 17, 18, 21, 22, 23, 24, 25]), [(0, .inr (some (some 359))), (1, .inl (0, .ofNat 5)), (2, .inl (1, .ofNat 0))]),
    (12, none, (3, [(1, .ofNat 0, .ofNat 3), (2, .ofNat 3, .ofNat 216)], [(2940955, .inl (2, .ofNat 0))], [], [], [9, 12, 13, 14, 15, 16, 17, 18, 21, 22, 23, 24, 25]), [(0, .inr (some (some 359))), (1, .inl (0, .ofNat 6)), (2, .inl (1, .ofNat 0))]),
    (7, none, (3, [(1, .ofNat 0, .ofNat 3), (2, .ofNat 3, .ofNat 252)], [(2940955, .inl (2, .ofNat 0))], [], [], [9, 12, 13, 14, 15, 16, 17, 18, 21, 22, 23, 24, 25]), [(0, .inr (some (some 359))), (1, .inl (0, .ofNat 7)), (2, .inl (1, .ofNat 0))])]), none, none, none, none, none, none, none, none],
  none,
  some [none, none, none, none, none, none, none, none, none, none, none, none, some ([(41, none, (2, [(1, .ofNat 2, .ofNat 23)], [(2940955, .inl (1, .ofNat 0))], [], [], [9, 12, 13, 14, 15, 16, 17, 18, 21, 22, 23, 24, 25]), [(0, .inr (some (some 359))), (1, .inl (0, .ofNat 0)), (2, .inl (0, .ofNat 0))]),
    (40, none, (2, [(1, .ofNat 2, .ofNat 27)], [(2940955, .inl (1, .ofNat 0))], [], [], [9, 12, 13, 14, 15, 16, 17, 18, 21, 22, 23, 24, 25]), [(0, .inr (some (some 359))), (1, .inl (0, .ofNat 0)), (2, .inl (0, .ofNat 1))]),
    (39, none, (2, [(1, .ofNat 2, .ofNat 31)], [(2940955, .inl (1, .ofNat 0))], [], [], [9, 12, 13, 14, 15, 16, 17, 18, 21, 22, 23, 24, 25]), [(0, .inr (some (some 359))), (1, .inl (0, .ofNat 0)), (2, .inl (0, .ofNat 2))]),
    (36, none, (2, [(1, .ofNat 2, .ofNat 59)], [(2940955, .inl (1, .ofNat 0))], [], [], [9, 12, 13, 14, 15, 16, 17, 18, 21, 22, 23, 24, 25]), [(0, .inr (some (some 359))), (1, .inl (0, .ofNat 1)), (2, .inl (0, .ofNat 0))]),
    (38, none, (2, [(1, .ofNat 2, .ofNat 35)], [(2940955, .inl (1, .ofNat 0))], [], [], [9, 12, 13, 14, 15, 16, 17, 18, 21, 22, 23, 24, 25]), [(0, .inr (some (some 359))), (1, .inl (0, .ofNat 0)), (2, .inl (0, .ofNat 3))]),
    (35, none, (2, [(1, .ofNat 2, .ofNat 63)], [(2940955, .inl (1, .ofNat 0))], [], [], [9, 12, 13, 14, 15, 16, 17, 18, 21, 22, 23, 24, 25]), [(0, .inr (some (some 359))), (1, .inl (0, .ofNat 1)), (2, .inl (0, .ofNat 1))]),
    (34, none, (2, [(1, .ofNat 2, .ofNat 67)], [(2940955, .inl (1, .ofNat 0))], [], [], [9, 12, 13, 14, 15, 16, 17, 18, 21, 22, 23, 24, 25]), [(0, .inr (some (some 359))), (1, .inl (0, .ofNat 1)), (2, .inl (0, .ofNat 2))]),
    (31, none, (2, [(1, .ofNat 2, .ofNat 95)], [(2940955, .inl (1, .ofNat 0))], [], [], [9, 12, 13, 14, 15, 16, 17, 18, 21, 22, 23, 24, 25]), [(0, .inr (some (some 359))), (1, .inl (0, .ofNat 2)), (2, .inl (0, .ofNat 0))]),
    (33, none, (2, [(1, .ofNat 2, .ofNat 71)], [(2940955, .inl (1, .ofNat 0))], [], [], [9, 12, 13, 14, 15, 16, 17, 18, 21, 22, 23, 24, 25]), [(0, .inr (some (some 359))), (1, .inl (0, .ofNat 1)), (2, .inl (0, .ofNat 3))]),
    (30, none, (2, [(1, .ofNat 2, .ofNat 99)], [(2940955, .inl (1, .ofNat 0))], [], [], [9, 12, 13, 14, 15, 16, 17, 18, 21, 22, 23, 24, 25]), [(0, .inr (some (some 359))), (1, .inl (0, .ofNat 2)), (2, .inl (0, .ofNat 1))]),
    (29, none, (2, [(1, .ofNat 2, .ofNat 103)], [(2940955, .inl (1, .ofNat 0))], [], [], [9, 12, 13, 14, 15, 16, 17, 18, 21, 22, 23, 24, 25]), [(0, .inr (some (some 359))), (1, .inl (0, .ofNat 2)), (2, .inl (0, .ofNat 2))]),
    (26, none, (2, [(1, .ofNat 2, .ofNat 131)], [(2940955, .inl (1, .ofNat 0))], [], [], [9, 12, 13, 14, 15, 16, 17, 18, 21, 22, 23, 24, 25]), [(0, .inr (some (some 359))), (1, .inl (0, .ofNat 3)), (2, .inl (0, .ofNat 0))]),
    (28, none, (2, [(1, .ofNat 2, .ofNat 107)], [(2940955, .inl (1, .ofNat 0))], [], [], [9, 12, 13, 14, 15, 16, 17, 18, 21, 22, 23, 24, 25]), [(0, .inr (some (some 359))), (1, .inl (0, .ofNat 2)), (2, .inl (0, .ofNat 3))]),
    (25, none, (2, [(1, .ofNat 2, .ofNat 135)], [(2940955, .inl (1, .ofNat 0))], [], [], [9, 12, 13, 14, 15, 16, 17, 18, 21, 22, 23, 24, 25]), [(0, .inr (some (some 359))), (1, .inl (0, .ofNat 3)), (2, .inl (0, .ofNat 1))]),
    (24, none, (2, [(1, .ofNat 2, .ofNat 139)], [(2940955, .inl (1, .ofNat 0))], [], [], [9, 12, 13, 14, 15, 16, 17, 18, 21, 22, 23, 24, 25]), [(0, .inr (some (some 359))), (1, .inl (0, .ofNat 3)), (2, .inl (0, .ofNat 2))]),
    (21, none, (2, [(1, .ofNat 2, .ofNat 167)], [(2940955, .inl (1, .ofNat 0))], [], [], [9, 12, 13, 14, 15, 16, 17, 18, 21, 22, 23, 24, 25]), [(0, .inr (some (some 359))), (1, .inl (0, .ofNat 4)), (2, .inl (0, .ofNat 0))]),
    (23, none, (2, [(1, .ofNat 2, .ofNat 143)], [(2940955, .inl (1, .ofNat 0))], [], [], [9, 12, 13, 14, 15, 16, 17, 18, 21, 22, 23, 24, 25]), [(0, .inr (some (some 359))), (1, .inl (0, .ofNat 3)), (2, .inl (0, .ofNat 3))]),
    (20, none, (2, [(1, .ofNat 2, .ofNat 171)], [(2940955, .inl (1, .ofNat 0))], [], [], [9, 12, 13, 14, 15, 16, 17, 18, 21, 22, 23, 24, 25]), [(0, .inr (some (some 359))), (1, .inl (0, .ofNat 4)), (2, .inl (0, .ofNat 1))]),
    (19, none, (2, [(1, .ofNat 2, .ofNat 175)], [(2940955, .inl (1, .ofNat 0))], [], [], [9, 12, 13, 14, 15, 16, 17, 18, 21, 22, 23, 24, 25]), [(0, .inr (some (some 359))), (1, .inl (0, .ofNat 4)), (2, .inl (0, .ofNat 2))]),
    (16, none, (2, [(1, .ofNat 2, .ofNat 203)], [(2940955, .inl (1, .ofNat 0))], [], [], [9, 12, 13, 14, 15, 16, 17, 18, 21, 22, 23, 24, 25]), [(0, .inr (some (some 359))), (1, .inl (0, .ofNat 5)), (2, .inl (0, .ofNat 0))]),
    (18, none, (2, [(1, .ofNat 2, .ofNat 179)], [(2940955, .inl (1, .ofNat 0))], [], [], [9, 12, 13, 14, 15, 16, 17, 18, 21, 22, 23, 24, 25]), [(0, .inr (some (some 359))), (1, .inl (0, .ofNat 4)), (2, .inl (0, .ofNat 3))]),
    (15, none, (2, [(1, .ofNat 2, .ofNat 207)], [(2940955, .inl (1, .ofNat 0))], [], [], [9, 12, 13, 14, 15, 16, 17, 18, 21, 22, 23, 24, 25]), [(0, .inr (some (some 359))), (1, .inl (0, .ofNat 5)), (2, .inl (0, .ofNat 1))]),
    (14, none, (2, [(1, .ofNat 2, .ofNat 211)], [(2940955, .inl (1, .ofNat 0))], [], [], [9, 12, 13, 14, 15, 16, 17, 18, 21, 22, 23, 24, 25]), [(0, .inr (some (some 359))), (1, .inl (0, .ofNat 5)), (2, .inl (0, .ofNat 2))]),
    (11, none, (2, [(1, .ofNat 2, .ofNat 239)], [(2940955, .inl (1, .ofNat 0))], [], [], [9, 12, 13, 14, 15, 16, 17, 18, 21, 22, 23, 24, 25]), [(0, .inr (some (some 359))), (1, .inl (0, .ofNat 6)), (2, .inl (0, .ofNat 0))]),
    (13, none, (2, [(1, .ofNat 2, .ofNat 215)], [(2940955, .inl (1, .ofNat 0))], [], [], [9, 12, 13, 14, 15, 16, 17, 18, 21, 22, 23, 24, 25]), [(0, .inr (some (some 359))), (1, .inl (0, .ofNat 5)), (2, .inl (0, .ofNat 3))]),
    (10, none, (2, [(1, .ofNat 2, .ofNat 243)], [(2940955, .inl (1, .ofNat 0))], [], [], [9, 12, 13, 14, 15, 16, 17, 18, 21, 22, 23, 24, 25]), [(0, .inr (some (some 359))), (1, .inl (0, .ofNat 6)), (2, .inl (0, .ofNat 1))]),
    (9, none, (2, [(1, .ofNat 2, .ofNat 247)], [(2940955, .inl (1, .ofNat 0))], [], [], [9, 12, 13, 14, 15, 16, 17, 18, 21, 22, 23, 24, 25]), [(0, .inr (some (some 359))), (1, .inl (0, .ofNat 6)), (2, .inl (0, .ofNat 2))]),
    (8, none, (2, [(1, .ofNat 2, .ofNat 251)], [(2940955, .inl (1, .ofNat 0))], [], [], [9, 12, 13, 14, 15, 16, 17, 18, 21, 22, 23, 24, 25]), [(0, .inr (some (some 359))), (1, .inl (0, .ofNat 6)), (2, .inl (0, .ofNat 3))])]), none, none, none],
  none,
  none,
  some [none, none, none, none, none, none, some ([(6, none, (2, [(1, .ofNat 0, .ofNat 252)], [(2940955, .inl (1, .ofNat 0))], [], [], [9, 12, 13, 14, 15, 16, 17, 18, 21, 22, 23, 24, 25]), [(0, .inr (some (some 359))), (1, .inl (0, .ofNat 0))]),
    (5, none, (2, [(1, .ofNat 3, .ofNat 328)], [(2940955, .inl (1, .ofNat 0))], [], [], [9, 12, 13, 14, 15, 16, 17, 18, 21, 22, 23, 24, 25]), [(0, .inr (some (some 359))), (1, .inl (0, .ofNat 1))]),
    (4, none, (2, [(1, .ofNat 3, .ofNat 404)], [(2940955, .inl (1, .ofNat 0))], [], [], [9, 12, 13, 14, 15, 16, 17, 18, 21, 22, 23, 24, 25]), [(0, .inr (some (some 359))), (1, .inl (0, .ofNat 2))]),
    (3, none, (2, [(1, .ofNat 3, .ofNat 480)], [(2940955, .inl (1, .ofNat 0))], [], [], [9, 12, 13, 14, 15, 16, 17, 18, 21, 22, 23, 24, 25]), [(0, .inr (some (some 359))), (1, .inl (0, .ofNat 3))]),
    (2, none, (2, [(1, .ofNat 3, .ofNat 556)], [(2940955, .inl (1, .ofNat 0))], [], [], [9, 12, 13, 14, 15, 16, 17, 18, 21, 22, 23, 24, 25]), [(0, .inr (some (some 359))), (1, .inl (0, .ofNat 4))]),
    (1, none, (2, [(1, .ofNat 3, .ofNat 632)], [(2940955, .inl (1, .ofNat 0))], [], [], [9, 12, 13, 14, 15, 16, 17, 18, 21, 22, 23, 24, 25]), [(0, .inr (some (some 359))), (1, .inl (0, .ofNat 5))])]), none, none, none, none, none, none, none, none, none]]
set_option maxRecDepth 1000000 in
theorem jxm_c273_ok (hX : jc_Xo jxm X) : jc_Con jP jxm X jxm_c273 := jc_mth_ok (Z := (jxm, [], jT, [jxm_c181, jxm_c182, jxm_c183, jxm_c184, jxm_c185, jxm_c186, jxm_c187, jxm_c188, jxm_c189, jxm_c190, jxm_c191, jxm_c192, jxm_c193, jxm_c194, jxm_c195, jxm_c196, jxm_c197, jxm_c198, jxm_c199, jxm_c200, jxm_c201, jxm_c202, jxm_c203, jxm_c204, jxm_c205, jxm_c206, jxm_c207, jxm_c208, jxm_c209, jxm_c210, jxm_c211, jxm_c212, jxm_c213, jxm_c214, jxm_c215, jxm_c216, jxm_c217, jxm_c218, jxm_c219, jxm_c220, jxm_c221, jxm_c222, jxm_c223, jxm_c224, jxm_c225, jxm_c226, jxm_c227, jxm_c228, jxm_c229, jxm_c230, jxm_c231, jxm_c232, jxm_c233, jxm_c234, jxm_c235, jxm_c236, jxm_c237, jxm_c238, jxm_c239, jxm_c240, jxm_c241, jxm_c242, jxm_c243, jxm_c244, jxm_c245, jxm_c246, jxm_c247, jxm_c248, jxm_c249, jxm_c250, jxm_c251, jxm_c252, jxm_c253, jxm_c254, jxm_c255, jxm_c256, jxm_c257, jxm_c258, jxm_c259, jxm_c260, jxm_c261, jxm_c262, jxm_c263, jxm_c264, jxm_c265, jxm_c266, jxm_c267, jxm_c268, jxm_c269, jxm_c270, jxm_c271, jxm_c272], jxm_S0, jxm_c273_N, .ofNat 100000)) (f := 100000) jxm_ok hX jT_ok (jc_c1 (jxm_c181_ok hX) (jc_c1 (jxm_c182_ok hX) (jc_c1 (jxm_c183_ok hX) (jc_c1 (jxm_c184_ok hX) (jc_c1 (jxm_c185_ok hX) (jc_c1 (jxm_c186_ok hX) (jc_c1 (jxm_c187_ok hX) (jc_c1 (jxm_c188_ok hX) (jc_c1 (jxm_c189_ok hX) (jc_c1 (jxm_c190_ok hX) (jc_c1 (jxm_c191_ok hX) (jc_c1 (jxm_c192_ok hX) (jc_c1 (jxm_c193_ok hX) (jc_c1 (jxm_c194_ok hX) (jc_c1 (jxm_c195_ok hX) (jc_c1 (jxm_c196_ok hX) (jc_c1 (jxm_c197_ok hX) (jc_c1 (jxm_c198_ok hX) (jc_c1 (jxm_c199_ok hX) (jc_c1 (jxm_c200_ok hX) (jc_c1 (jxm_c201_ok hX) (jc_c1 (jxm_c202_ok hX) (jc_c1 (jxm_c203_ok hX) (jc_c1 (jxm_c204_ok hX) (jc_c1 (jxm_c205_ok hX) (jc_c1 (jxm_c206_ok hX) (jc_c1 (jxm_c207_ok hX) (jc_c1 (jxm_c208_ok hX) (jc_c1 (jxm_c209_ok hX) (jc_c1 (jxm_c210_ok hX) (jc_c1 (jxm_c211_ok hX) (jc_c1 (jxm_c212_ok hX) (jc_c1 (jxm_c213_ok hX) (jc_c1 (jxm_c214_ok hX) (jc_c1 (jxm_c215_ok hX) (jc_c1 (jxm_c216_ok hX) (jc_c1 (jxm_c217_ok hX) (jc_c1 (jxm_c218_ok hX) (jc_c1 (jxm_c219_ok hX) (jc_c1 (jxm_c220_ok hX) (jc_c1 (jxm_c221_ok hX) (jc_c1 (jxm_c222_ok hX) (jc_c1 (jxm_c223_ok hX) (jc_c1 (jxm_c224_ok hX) (jc_c1 (jxm_c225_ok hX) (jc_c1 (jxm_c226_ok hX) (jc_c1 (jxm_c227_ok hX) (jc_c1 (jxm_c228_ok hX) (jc_c1 (jxm_c229_ok hX) (jc_c1 (jxm_c230_ok hX) (jc_c1 (jxm_c231_ok hX) (jc_c1 (jxm_c232_ok hX) (jc_c1 (jxm_c233_ok hX) (jc_c1 (jxm_c234_ok hX) (jc_c1 (jxm_c235_ok hX) (jc_c1 (jxm_c236_ok hX) (jc_c1 (jxm_c237_ok hX) (jc_c1 (jxm_c238_ok hX) (jc_c1 (jxm_c239_ok hX) (jc_c1 (jxm_c240_ok hX) (jc_c1 (jxm_c241_ok hX) (jc_c1 (jxm_c242_ok hX) (jc_c1 (jxm_c243_ok hX) (jc_c1 (jxm_c244_ok hX) (jc_c1 (jxm_c245_ok hX) (jc_c1 (jxm_c246_ok hX) (jc_c1 (jxm_c247_ok hX) (jc_c1 (jxm_c248_ok hX) (jc_c1 (jxm_c249_ok hX) (jc_c1 (jxm_c250_ok hX) (jc_c1 (jxm_c251_ok hX) (jc_c1 (jxm_c252_ok hX) (jc_c1 (jxm_c253_ok hX) (jc_c1 (jxm_c254_ok hX) (jc_c1 (jxm_c255_ok hX) (jc_c1 (jxm_c256_ok hX) (jc_c1 (jxm_c257_ok hX) (jc_c1 (jxm_c258_ok hX) (jc_c1 (jxm_c259_ok hX) (jc_c1 (jxm_c260_ok hX) (jc_c1 (jxm_c261_ok hX) (jc_c1 (jxm_c262_ok hX) (jc_c1 (jxm_c263_ok hX) (jc_c1 (jxm_c264_ok hX) (jc_c1 (jxm_c265_ok hX) (jc_c1 (jxm_c266_ok hX) (jc_c1 (jxm_c267_ok hX) (jc_c1 (jxm_c268_ok hX) (jc_c1 (jxm_c269_ok hX) (jc_c1 (jxm_c270_ok hX) (jc_c1 (jxm_c271_ok hX) (jc_c1 (jxm_c272_ok hX) jc_c0)))))))))))))))))))))))))))))))))))))))))))))))))))))))))))))))))))))))))))))))))))))))))))) (by decide +kernel)
end Jjxm38

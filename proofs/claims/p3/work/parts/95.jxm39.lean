/-! contracts of the reference (39); written by wip/jc/e5.py -/
section Jjxm39
variable {X : J_H → Prop}
-- feed
def jxm_c274 : jc_Cn := (181, 1, [.inr (some (some 359)), .inl (1, .ofNat 0), .inl (2, .ofNat 0), .inl (3, .ofNat 0), .inl (4, .ofNat 0), .inl (5, .ofNat 0)], (6, [(1, .negSucc 2147483647, .ofNat 2147483647), (2, .negSucc 2147483647, .ofNat 2147483647), (3, .negSucc 2147483647, .ofNat 2147483647), (4, .negSucc 2147483647, .ofNat 2147483647), (5, .negSucc 2147483647, .ofNat 2147483647)], [], [], [], [9, 12, 13, 14, 15, 16, 17, 18, 21, 22, 23, 24, 25]), [(365, 0, 700), (359, 9, 10), (359, 10, 11), (359, 0, 1)], [((2, [(1, .negSucc 0, .ofNat 700)], [], [], [], [9, 12, 13, 14, 15, 16, 17, 18, 21, 22, 23, 24, 25]), some (.inl (1, .ofNat 0)))])
def jxm_c274_N : jc_Nt := []
set_option maxRecDepth 1000000 in
theorem jxm_c274_ok (hX : jc_Xo jxm X) : jc_Con jP jxm X jxm_c274 := jc_mth_ok (Z := (jxm, [], jT, [], jxm_S0, jxm_c274_N, .ofNat 100000)) (f := 100000) jxm_ok hX jT_ok jc_c0 (by decide +kernel)
-- orNone
def jxm_c275 : jc_Cn := (239, 1, [.inr (some (some 359)), .inl (1, .ofNat 0), .inl (2, .ofNat 0)], (3, [(1, .ofNat 0, .ofNat 1), (2, .negSucc 2147483647, .ofNat 2147483647)], [], [], [], [9, 12, 13, 14, 15, 16, 17, 18, 21, 22, 23, 24, 25]), [(359, 10, 11), (359, 0, 1)], [((2, [(1, .negSucc 2147483647, .ofNat 2147483647)], [], [], [], [9, 12, 13, 14, 15, 16, 17, 18, 21, 22, 23, 24, 25]), some (.inl (1, .ofNat 0)))])
def jxm_c275_N : jc_Nt := []
set_option maxRecDepth 1000000 in
theorem jxm_c275_ok (hX : jc_Xo jxm X) : jc_Con jP jxm X jxm_c275 := jc_mth_ok (Z := (jxm, [], jT, [], jxm_S0, jxm_c275_N, .ofNat 100000)) (f := 100000) jxm_ok hX jT_ok jc_c0 (by decide +kernel)
-- many
def jxm_c276 : jc_Cn := (234, 10, [.inr (some (some 359)), .inl (1, .ofNat 0)], (2, [(1, .negSucc 2147483647, .ofNat 2147483647)], [], [], [], [9, 12, 13, 14, 15, 16, 17, 18, 21, 22, 23, 24, 25]), [(359, 10, 11), (359, 0, 1), (368, 0, 5), (359, 23, 24)], [((2, [(1, .negSucc 2147483647, .ofNat 2147483647)], [], [], [], [9, 12, 13, 14, 15, 16, 17, 18, 21, 22, 23, 24, 25]), some (.inl (1, .ofNat 0)))])
def jxm_c276_N : jc_Nt := []
set_option maxRecDepth 1000000 in
theorem jxm_c276_ok (hX : jc_Xo jxm X) : jc_Con jP jxm X jxm_c276 := jc_mth_ok (Z := (jxm, [], jT, [jxm_c16, jxm_c22, jxm_c0, jxm_c28, jxm_c29], jxm_S0, jxm_c276_N, .ofNat 100000)) (f := 100000) jxm_ok hX jT_ok (jc_c1 (jxm_c16_ok hX) (jc_c1 (jxm_c22_ok hX) (jc_c1 (jxm_c0_ok hX) (jc_c1 (jxm_c28_ok hX) (jc_c1 (jxm_c29_ok hX) jc_c0))))) (by decide +kernel)
-- station
def jxm_c277 : jc_Cn := (236, 8, [.inr (some (some 359)), .inl (1, .ofNat 0), .inl (2, .ofNat 0)], (3, [(1, .negSucc 2147483647, .ofNat 2147483647), (2, .negSucc 2147483647, .ofNat 2147483647)], [], [], [], [9, 12, 13, 14, 15, 16, 17, 18, 21, 22, 23, 24, 25]), [(359, 10, 11), (359, 0, 1)], [((2, [(1, .negSucc 2147483647, .ofNat 2147483647)], [], [], [], [9, 12, 13, 14, 15, 16, 17, 18, 21, 22, 23, 24, 25]), some (.inl (1, .ofNat 0)))])
def jxm_c277_N : jc_Nt := [none,
  none,
  none,
  none,
  none,
  none,
  some [none, none, none, some ([(6, none, (2, [(1, .ofNat 0, .ofNat 6)], [], [], [], [9, 12, 13, 14, 15, 16, 17, 18, 21, 22, 23, 24, 25]), [(0, .inr (some (some 359))), (1, .inl (1, .ofNat 0)), (2, .inl (0, .ofNat 3)), (3, .inl (0, .ofNat 0)), (4, .inl (0, .ofNat 0))]),
    (5, none, (3, [(1, .ofNat 0, .ofNat 6), (2, .ofNat 0, .ofNat 1)], [], [], [], [9, 12, 13, 14, 15, 16, 17, 18, 21, 22, 23, 24, 25]), [(0, .inr (some (some 359))), (1, .inl (1, .ofNat 0)), (2, .inl (0, .ofNat 3)), (3, .inl (2, .ofNat 0)), (4, .inl (0, .ofNat 1))]),
    (4, none, (3, [(1, .ofNat 0, .ofNat 6), (2, .ofNat 0, .ofNat 2)], [], [], [], [9, 12, 13, 14, 15, 16, 17, 18, 21, 22, 23, 24, 25]), [(0, .inr (some (some 359))), (1, .inl (1, .ofNat 0)), (2, .inl (0, .ofNat 3)), (3, .inl (2, .ofNat 0)), (4, .inl (0, .ofNat 2))]),
    (3, none, (3, [(1, .ofNat 0, .ofNat 6), (2, .ofNat 0, .ofNat 3)], [], [], [], [9, 12, 13, 14, 15, 16, 17, 18, 21, 22, 23, 24, 25]), [(0, .inr (some (some 359))), (1, .inl (1, .ofNat 0)), (2, .inl (0, .ofNat 3)), (3, .inl (2, .ofNat 0)), (4, .inl (0, .ofNat 3))]),
    (2, none, (3, [(1, .ofNat 0, .ofNat 6), (2, .ofNat 0, .ofNat 4)], [], [], [], [9, 12, 13, 14, 15, 16, 17, 18, 21, 22, 23, 24, 25]), [(0, .inr (some (some 359))), (1, .inl (1, .ofNat 0)), (2, .inl (0, .ofNat 3)), (3, .inl (2, .ofNat 0)), (4, .inl (0, .ofNat 4))]),
    (1, none, (3, [(1, .ofNat 0, .ofNat 6), (2, .ofNat 0, .ofNat 5)], [], [], [], [9, 12, 13, 14, 15, 16, 17, 18, 21, 22, 23, 24, 25]), [(0, .inr (some (some 359))), (1, .inl (1, .ofNat 0)), (2, .inl (0, .ofNat 3)), (3, .inl (2, .ofNat 0)), (4, .inl (0, .ofNat 5))])]), none, none, none, none, none, none, none, none, none, none, none, none],
  none,
  none,
  some [none, none, none, none, none, none, none, none, none, none, none, none, none, none, none, some ([(4, none, (1, [], [], [], [], [9, 12, 13, 14, 15, 16, 17, 18, 21, 22, 23, 24, 25]), [(0, .inr (some (some 359))), (1, .inl (0, .ofNat 0)), (2, .inl (0, .ofNat 4)), (3, .inl (0, .ofNat 0)), (4, .inl (0, .ofNat 0))]),
    (4, none, (1, [], [], [], [], [9, 12, 13, 14, 15, 16, 17, 18, 21, 22, 23, 24, 25]), [(0, .inr (some (some 359))), (1, .inl (0, .ofNat 1)), (2, .inl (0, .ofNat 4)), (3, .inl (0, .ofNat 0)), (4, .inl (0, .ofNat 0))]),
    (4, none, (1, [], [], [], [], [9, 12, 13, 14, 15, 16, 17, 18, 21, 22, 23, 24, 25]), [(0, .inr (some (some 359))), (1, .inl (0, .ofNat 2)), (2, .inl (0, .ofNat 4)), (3, .inl (0, .ofNat 0)), (4, .inl (0, .ofNat 0))]),
    (4, none, (1, [], [], [], [], [9, 12, 13, 14, 15, 16, 17, 18, 21, 22, 23, 24, 25]), [(0, .inr (some (some 359))), (1, .inl (0, .ofNat 3)), (2, .inl (0, .ofNat 4)), (3, .inl (0, .ofNat 0)), (4, .inl (0, .ofNat 0))]),
    (4, none, (1, [], [], [], [], [9, 12, 13, 14, 15, 16, 17, 18, 21, 22, 23, 24, 25]), [(0, .inr (some (some 359))), (1, .inl (0, .ofNat 4)), (2, .inl (0, .ofNat 4)), (3, .inl (0, .ofNat 0)), (4, .inl (0, .ofNat 0))]),
    (4, none, (1, [], [], [], [], [9, 12, 13, 14, 15, 16, 17, 18, 21, 22, 23, 24, 25]), [(0, .inr (some (some 359))), (1, .inl (0, .ofNat 5)), (2, .inl (0, .ofNat 4)), (3, .inl (0, .ofNat 0)), (4, .inl (0, .ofNat 0))]),
    (4, none, (1, [], [], [], [], [9, 12, 13, 14, 15, 16, 17, 18, 21, 22, 23, 24, 25]), [(0, .inr (some (some 359))), (1, .inl (0, .ofNat 6)), (2, .inl (0, .ofNat 4)), (3, .inl (0, .ofNat 0)), (4, .inl (0, .ofNat 0))]),
    (3, none, (2, [(1, .ofNat 0, .ofNat 2147483647)], [], [], [], [9, 12, 13, 14, 15, 16, 17, 18, 21, 22, 23, 24, 25]), [(0, .inr (some (some 359))), (1, .inl (0, .ofNat 0)), (2, .inl (0, .ofNat 4)), (3, .inl (1, .ofNat 0)), (4, .inl (0, .ofNat 1))]),
    (3, none, (2, [(1, .ofNat 0, .ofNat 2147483647)], [], [], [], [9, 12, 13, 14, 15, 16, 17, 18, 21, 22, 23, 24, 25]), [(0, .inr (some (some 359))), (1, .inl (0, .ofNat 1)), (2, .inl (0, .ofNat 4)), (3, .inl (1, .ofNat 0)), (4, .inl (0, .ofNat 1))]),
    (3, none, (2, [(1, .ofNat 0, .ofNat 2147483647)], [], [], [], [9, 12, 13, 14, 15, 16, 17, 18, 21, 22, 23, 24, 25]), [(0, .inr (some (some 359))), (1, .inl (0, .ofNat 2)), (2, .inl (0, .ofNat 4)), (3, .inl (1, .ofNat 0)), (4, .inl (0, .ofNat 1))]),
    (3, none, (2, [(1, .ofNat 0, .ofNat 2147483647)], [], [], [], [9, 12, 13, 14, 15, 16, 17, 18, 21, 22, 23, 24, 25]), [(0, .inr (some (some 359))), (1, .inl (0, .ofNat 3)), (2, .inl (0, .ofNat 4)), (3, .inl (1, .ofNat 0)), (4, .inl (0, .ofNat 1))]),
    (3, none, (2, [(1, .ofNat 0, .ofNat 2147483647)], [], [], [], [9, 12, 13, 14, 15, 16, 17, 18, 21, 22, 23, 24, 25]), [(0, .inr (some (some 359))), (1, .inl (0, .ofNat 4)), (2, .inl (0, .ofNat 4)), (3, .inl (1, .ofNat 0)), (4, .inl (0, .ofNat 1))]),
    (3, none, (2, [(1, .ofNat 0, .ofNat 2147483647)], [], [], [], [9, 12, 13, 14, 15, 16, 17, 18, 21, 22, 23, 24, 25]), [(0, .inr (some (some 359))), (1, .inl (0, .ofNat 5)), (2, .inl (0, .ofNat 4)), (3, .inl (1, .ofNat 0)), (4, .inl (0, .ofNat 1))]),
    (3, none, (2, [(1, .ofNat 0, .ofNat 2147483647)], [], [], [], [9, 12, 13, 14, 15, 16, 17, 18, 21, 22, 23, 24, 25]), [(0, .inr (some (some 359))), (1, .inl (0, .ofNat 6)), (2, .inl (0, .ofNat 4)), (3, .inl (1, .ofNat 0)), (4, .inl (0, .ofNat 1))]),
    (2, none, (2, [(1, .ofNat 0, .ofNat 2147483647)], [], [], [], [9, 12, 13, 14, 15, 16, 17, 18, 21, 22, 23, 24, 25]), [(0, .inr (some (some 359))), (1, .inl (0, .ofNat 0)), (2, .inl (0, .ofNat 4)), (3, .inl (1, .ofNat 0)), (4, .inl (0, .ofNat 2))]),
    (2, none, (2, [(1, .ofNat 0, .ofNat 2147483647)], [], [], [], [9, 12, 13, 14, 15, 16, 17, 18, 21, 22, 23, 24, 25]), [(0, .inr (some (some 359))), (1, .inl (0, .ofNat 1)), (2, .inl (0, .ofNat 4)), (3, .inl (1, .ofNat 0)), (4, .inl (0, .ofNat 2))]),
    (2, none, (2, [(1, .ofNat 0, .ofNat 2147483647)], [], [], [], [9, 12, 13, 14, 15, 16, 17, 18, 21, 22, 23, 24, 25]), [(0, .inr (some (some 359))), (1, .inl (0, .ofNat 2)), (2, .inl (0, .ofNat 4)), (3, .inl (1, .ofNat 0)), (4, .inl (0, .ofNat 2))]),
    (2, none, (2, [(1, .ofNat 0, .ofNat 2147483647)], [], [], [], [9, 12, 13, 14, 15, 16, 17, 18, 21, 22, 23, 24, 25]), [(0, .inr (some (some 359))), (1, .inl (0, .ofNat 3)), (2, .inl (0, .ofNat 4)), (3, .inl (1, .ofNat 0)), (4, .inl (0, .ofNat 2))]),
    (2, none, (2, [(1, .ofNat 0, .ofNat 2147483647)], [], [], [], [9, 12, 13, 14, 15, 16, 17, 18, 21, 22, 23, 24, 25]), [(0, .inr (some (some 359))), (1, .inl (0, .ofNat 4)), (2, .inl (0, .ofNat 4)), (3, .inl (1, .ofNat 0)), (4, .inl (0, .ofNat 2))]),
    (2, none, (2, [(1, .ofNat 0, .ofNat 2147483647)], [], [], [], [9, 12, 13, 14, 15, 16, 17, 18, 21, 22, 23, 24, 25]), [(0, .inr (some (some 359))), (1, .inl (0, .ofNat 5)), (2, .inl (0, .ofNat 4)), (3, .inl (1, .ofNat 0)), (4, .inl (0, .ofNat 2))]),
    (2, none, (2, [(1, .ofNat 0, .ofNat 2147483647)], [], [], [], [9, 12, 13, 14, 15, 16, 17, 18, 21, 22, 23, 24, 25]), [(0, .inr (some (some 359))), (1, .inl (0, .ofNat 6)), (2, .inl (0, .ofNat 4)), (3, .inl (1, .ofNat 0)), (4, .inl (0, .ofNat 2))]),
    (1, none, (2, [(1, .ofNat 0, .ofNat 2147483647)], [], [], [], [9, 12, 13, 14, 15, 16, 17, 18, 21, 22, 23, 24, 25]), [(0, .inr (some (some 359))), (1, .inl (0, .ofNat 0)), (2, .inl (0, .ofNat 4)), (3, .inl (1, .ofNat 0)), (4, .inl (0, .ofNat 3))]),
    (1, none, (2, [(1, .ofNat 0, .ofNat 2147483647)], [], [], [], [9, 12, 13, 14, 15, 16, 17, 18, 21, 22, 23, 24, 25]), [(0, .inr (some (some 359))), (1, .inl (0, .ofNat 1)), (2, .inl (0, .ofNat 4)), (3, .inl (1, .ofNat 0)), (4, .inl (0, .ofNat 3))]),
    (1, none, (2, [(1, .ofNat 0, .ofNat 2147483647)], [], [], [], [9, 12, 13, 14, 15, 16, 17, 18, 21, 22, 23, 24, 25]), [(0, .inr (some (some 359))), (1, .inl (0, .ofNat 2)), (2, .inl (0, .ofNat 4)), (3, .inl (1, .ofNat 0)), (4, .inl (0, .ofNat 3))]),
    (1, none, (2, [(1, .ofNat 0, .ofNat 2147483647)], [], [], [], [9, 12, 13, 14, 15, 16, 17, 18, 21, 22, 23, 24, 25]), [(0, .inr (some (some 359))), (1, .inl (0, .ofNat 3)), (2, .inl (0, .ofNat 4)), (3, .inl (1, .ofNat 0)), (4, .inl (0, .ofNat 3))]),
    (1, none, (2, [(1, .ofNat 0, .ofNat 2147483647)], [], [], [], [9, 12, 13, 14, 15, 16, 17, 18, 21, 22, 23, 24, 25]), [(0, .inr (some (some 359))), (1, .inl (0, .ofNat 4)), (2, .inl (0, .ofNat 4)), (3, .inl (1, .ofNat 0)), (4, .inl (0, .ofNat 3))]),
    (1, none, (2, [(1, .ofNat 0, .ofNat 2147483647)], [], [], [], [9, 12, 13, 14, 15, 16, 17, 18, 21, 22, 23, 24, 25]), [(0, .inr (some (some 359))), (1, .inl (0, .ofNat 5)), (2, .inl (0, .ofNat 4)), (3, .inl (1, .ofNat 0)), (4, .inl (0, .ofNat 3))]),
    (1, none, (2, [(1, .ofNat 0, .ofNat 2147483647)], [], [], [], [9, 12, 13, 14, 15, 16, 17, 18, 21, 22, 23, 24, 25]), [(0, .inr (some (some 359))), (1, .inl (0, .ofNat 6)), (2, .inl (0, .ofNat 4)), (3, .inl (1, .ofNat 0)), (4, .inl (0, .ofNat 3))])])]]
set_option maxRecDepth 1000000 in
theorem jxm_c277_ok (hX : jc_Xo jxm X) : jc_Con jP jxm X jxm_c277 := jc_mth_ok (Z := (jxm, [], jT, [jxm_c96], jxm_S0, jxm_c277_N, .ofNat 100000)) (f := 100000) jxm_ok hX jT_ok (jc_c1 (jxm_c96_ok hX) jc_c0) (by decide +kernel)
-- track
def jxm_c278 : jc_Cn := (237, 6, [.inr (some (some 359)), .inl (1, .ofNat 0), .inl (2, .ofNat 0), .inl (3, .ofNat 0)], (4, [(1, .negSucc 2147483647, .ofNat 2147483647), (2, .negSucc 2147483647, .ofNat 2147483647), (3, .negSucc 2147483647, .ofNat 2147483647)], [], [], [], [9, 12, 13, 14, 15, 16, 17, 18, 21, 22, 23, 24, 25]), [(359, 10, 11), (359, 0, 1)], [((2, [(1, .negSucc 2147483647, .ofNat 2147483647)], [], [], [], [9, 12, 13, 14, 15, 16, 17, 18, 21, 22, 23, 24, 25]), some (.inl (1, .ofNat 0)))])
def jxm_c278_N : jc_Nt := []
set_option maxRecDepth 1000000 in
theorem jxm_c278_ok (hX : jc_Xo jxm X) : jc_Con jP jxm X jxm_c278 := jc_mth_ok (Z := (jxm, [], jT, [jxm_c6], jxm_S0, jxm_c278_N, .ofNat 100000)) (f := 100000) jxm_ok hX jT_ok (jc_c1 (jxm_c6_ok hX) jc_c0) (by decide +kernel)
-- fits
def jxm_c279 : jc_Cn := (242, 3, [.inr (some (some 359)), .inl (1, .ofNat 0)], (2, [(1, .negSucc 2147483647, .ofNat 2147483647)], [], [], [], [9, 12, 13, 14, 15, 16, 17, 18, 21, 22, 23, 24, 25]), [(359, 10, 11), (359, 0, 1)], [((2, [(1, .negSucc 0, .ofNat 199)], [], [], [], [9, 12, 13, 14, 15, 16, 17, 18, 21, 22, 23, 24, 25]), some (.inl (1, .ofNat 0)))])
def jxm_c279_N : jc_Nt := [none,
  some [none, none, some ([(8, none, (2, [(1, .ofNat 0, .ofNat 4)], [], [], [], [9, 12, 13, 14, 15, 16, 17, 18, 21, 22, 23, 24, 25]), [(0, .inr (some (some 359))), (1, .inl (1, .ofNat 0)), (2, .inl (0, .ofNat 0)), (3, .inl (0, .ofNat 0))]),
    (7, none, (3, [(1, .ofNat 0, .ofNat 4), (2, .ofNat 0, .ofNat 1)], [], [], [], [9, 12, 13, 14, 15, 16, 17, 18, 21, 22, 23, 24, 25]), [(0, .inr (some (some 359))), (1, .inl (1, .ofNat 0)), (2, .inl (2, .ofNat 0)), (3, .inl (0, .ofNat 1))]),
    (6, none, (3, [(1, .ofNat 0, .ofNat 4), (2, .ofNat 0, .ofNat 127)], [], [], [], [9, 12, 13, 14, 15, 16, 17, 18, 21, 22, 23, 24, 25]), [(0, .inr (some (some 359))), (1, .inl (1, .ofNat 0)), (2, .inl (2, .ofNat 0)), (3, .inl (0, .ofNat 2))]),
    (5, none, (3, [(1, .ofNat 0, .ofNat 4), (2, .ofNat 0, .ofNat 127)], [], [], [], [9, 12, 13, 14, 15, 16, 17, 18, 21, 22, 23, 24, 25]), [(0, .inr (some (some 359))), (1, .inl (1, .ofNat 0)), (2, .inl (2, .ofNat 0)), (3, .inl (0, .ofNat 3))]),
    (4, none, (3, [(1, .ofNat 0, .ofNat 4), (2, .ofNat 0, .ofNat 127)], [], [], [], [9, 12, 13, 14, 15, 16, 17, 18, 21, 22, 23, 24, 25]), [(0, .inr (some (some 359))), (1, .inl (1, .ofNat 0)), (2, .inl (2, .ofNat 0)), (3, .inl (0, .ofNat 4))]),
    (3, none, (3, [(1, .ofNat 0, .ofNat 4), (2, .ofNat 0, .ofNat 127)], [], [], [], [9, 12, 13, 14, 15, 16, 17, 18, 21, 22, 23, 24, 25]), [(0, .inr (some (some 359))), (1, .inl (1, .ofNat 0)), (2, .inl (2, .ofNat 0)), (3, .inl (0, .ofNat 5))]),
    (2, none, (3, [(1, .ofNat 0, .ofNat 4), (2, .ofNat 0, .ofNat 127)], [], [], [], [9, 12, 13, 14, 15, 16, 17, 18, 21, 22, 23, 24, 25]), [(0, .inr (some (some 359))), (1, .inl (1, .ofNat 0)), (2, .inl (2, .ofNat 0)), (3, .inl (0, .ofNat 6))]),
    (1, none, (3, [(1, .ofNat 0, .ofNat 4), (2, .ofNat 0, .ofNat 127)], [], [], [], [9, 12, 13, 14, 15, 16, 17, 18, 21, 22, 23, 24, 25]), [(0, .inr (some (some 359))), (1, .inl (1, .ofNat 0)), (2, .inl (2, .ofNat 0)), (3, .inl (0, .ofNat 7))])]), none, none, none, none, none, none, none, none, none, none, none, none, none]]
set_option maxRecDepth 1000000 in
theorem jxm_c279_ok (hX : jc_Xo jxm X) : jc_Con jP jxm X jxm_c279 := jc_mth_ok (Z := (jxm, [], jT, [jxm_c97], jxm_S0, jxm_c279_N, .ofNat 100000)) (f := 100000) jxm_ok hX jT_ok (jc_c1 (jxm_c97_ok hX) jc_c0) (by decide +kernel)
-- why
def jxm_c280 : jc_Cn := (243, 9, [.inr (some (some 359)), .inl (1, .ofNat 0)], (2, [(1, .negSucc 2147483647, .ofNat 2147483647)], [], [], [], [9, 12, 13, 14, 15, 16, 17, 18, 21, 22, 23, 24, 25]), [(360, 0, 602), (363, 0, 602), (362, 0, 602), (368, 0, 5), (359, 23, 24), (359, 10, 11), (359, 0, 1)], [((2, [(1, .negSucc 0, .ofNat 5)], [], [], [], [9, 12, 13, 14, 15, 16, 17, 18, 21, 22, 23, 24, 25]), some (.inl (1, .ofNat 0)))])
def jxm_c280_N : jc_Nt := []
set_option maxRecDepth 1000000 in
theorem jxm_c280_ok (hX : jc_Xo jxm X) (hg15 : jc_Con jP jxm X jxm_g15) (hg16 : jc_Con jP jxm X jxm_g16) (hg17 : jc_Con jP jxm X jxm_g17) (hg18 : jc_Con jP jxm X jxm_g18) (hg19 : jc_Con jP jxm X jxm_g19) (hg36 : jc_Con jP jxm X jxm_g36) (hg37 : jc_Con jP jxm X jxm_g37) (hg38 : jc_Con jP jxm X jxm_g38) (hg39 : jc_Con jP jxm X jxm_g39) (hg40 : jc_Con jP jxm X jxm_g40) : jc_Con jP jxm X jxm_c280 := jc_mth_ok (Z := (jxm, [], jT, [jxm_g15, jxm_g16, jxm_g17, jxm_g18, jxm_g19, jxm_g36, jxm_g37, jxm_g38, jxm_g39, jxm_g40, jxm_c17, jxm_c18, jxm_c19, jxm_c20, jxm_c21, jxm_c30, jxm_c31, jxm_c32, jxm_c33, jxm_c34, jxm_c16], jxm_S0, jxm_c280_N, .ofNat 100000)) (f := 100000) jxm_ok hX jT_ok (jc_c1 hg15 (jc_c1 hg16 (jc_c1 hg17 (jc_c1 hg18 (jc_c1 hg19 (jc_c1 hg36 (jc_c1 hg37 (jc_c1 hg38 (jc_c1 hg39 (jc_c1 hg40 (jc_c1 (jxm_c17_ok hX) (jc_c1 (jxm_c18_ok hX) (jc_c1 (jxm_c19_ok hX) (jc_c1 (jxm_c20_ok hX) (jc_c1 (jxm_c21_ok hX) (jc_c1 (jxm_c30_ok hX) (jc_c1 (jxm_c31_ok hX) (jc_c1 (jxm_c32_ok hX) (jc_c1 (jxm_c33_ok hX) (jc_c1 (jxm_c34_ok hX) (jc_c1 (jxm_c16_ok hX) jc_c0))))))))))))))))))))) (by decide +kernel)
-- train
def jxm_c281 : jc_Cn := (240, 5, [.inr (some (some 359)), .inl (1, .ofNat 0), .inl (2, .ofNat 0)], (3, [(1, .negSucc 2147483647, .ofNat 2147483647), (2, .negSucc 2147483647, .ofNat 2147483647)], [], [], [], [9, 12, 13, 14, 15, 16, 17, 18, 21, 22, 23, 24, 25]), [(359, 10, 11), (359, 0, 1)], [((2, [(1, .negSucc 2147483647, .ofNat 2147483647)], [], [], [], [9, 12, 13, 14, 15, 16, 17, 18, 21, 22, 23, 24, 25]), some (.inl (1, .ofNat 0)))])
def jxm_c281_N : jc_Nt := []
set_option maxRecDepth 1000000 in
theorem jxm_c281_ok (hX : jc_Xo jxm X) : jc_Con jP jxm X jxm_c281 := jc_mth_ok (Z := (jxm, [], jT, [jxm_c1, jxm_c2, jxm_c3, jxm_c4, jxm_c5, jxm_c23, jxm_c24, jxm_c25, jxm_c26, jxm_c27, jxm_c275], jxm_S0, jxm_c281_N, .ofNat 100000)) (f := 100000) jxm_ok hX jT_ok (jc_c1 (jxm_c1_ok hX) (jc_c1 (jxm_c2_ok hX) (jc_c1 (jxm_c3_ok hX) (jc_c1 (jxm_c4_ok hX) (jc_c1 (jxm_c5_ok hX) (jc_c1 (jxm_c23_ok hX) (jc_c1 (jxm_c24_ok hX) (jc_c1 (jxm_c25_ok hX) (jc_c1 (jxm_c26_ok hX) (jc_c1 (jxm_c27_ok hX) (jc_c1 (jxm_c275_ok hX) jc_c0))))))))))) (by decide +kernel)
end Jjxm39

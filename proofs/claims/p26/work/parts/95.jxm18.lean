/-! contracts of the reference (18); written by wip/jc/e5.py -/
section Jjxm18
variable {X : J_H → Prop}
-- readStation2
def jxm_c54 : jc_Cn := (195, 5, [.inr (some (some 359))], (1, [], [(2957514, .inl (0, .ofNat 2))], [], [], [8, 9, 10, 11, 12, 13, 14, 15, 16, 17, 18, 19, 21, 22, 23, 24, 25]), [(359, 15, 16), (359, 16, 17), (359, 17, 18), (359, 18, 19), (359, 19, 20), (359, 20, 21), (359, 21, 22), (367, 0, 12), (361, 0, 56), (361, 202, 203)], [((2, [(1, .ofNat 2, .ofNat 3)], [(2957514, .inl (1, .ofNat 0))], [], [], [8, 9, 10, 11, 12, 13, 14, 15, 16, 17, 18, 19, 21, 22, 23, 24, 25]), some (.inl (0, .ofNat 0))), ((1, [], [(2957514, .inl (0, .ofNat 3))], [], [], [8, 9, 10, 11, 12, 13, 14, 15, 16, 17, 18, 19, 21, 22, 23, 24, 25]), some (.inl (0, .ofNat 1)))])
def jxm_c54_N : jc_Nt := [none,
  none,
  none,
  some [none, none, none, none, none, none, none, none, none, none, none, none, none, some ([(4, none, (1, [], [(2957514, .inl (0, .ofNat 2))], [], [], [8, 9, 10, 11, 12, 13, 14, 15, 16, 17, 18, 19, 21, 22, 23, 24, 25]), [(0, .inr (some (some 359))), (1, .inl (0, .ofNat 2)), (2, .inl (0, .ofNat 0))]),
    (3, none, (1, [], [(2957514, .inl (0, .ofNat 2))], [], [], [8, 9, 10, 11, 12, 13, 14, 15, 16, 17, 18, 19, 21, 22, 23, 24, 25]), [(0, .inr (some (some 359))), (1, .inl (0, .ofNat 2)), (2, .inl (0, .ofNat 1))]),
    (2, none, (1, [], [(2957514, .inl (0, .ofNat 2))], [], [], [8, 9, 10, 11, 12, 13, 14, 15, 16, 17, 18, 19, 21, 22, 23, 24, 25]), [(0, .inr (some (some 359))), (1, .inl (0, .ofNat 2)), (2, .inl (0, .ofNat 2))]),
    (1, none, (1, [], [(2957514, .inl (0, .ofNat 2))], [], [], [8, 9, 10, 11, 12, 13, 14, 15, 16, 17, 18, 19, 21, 22, 23, 24, 25]), [(0, .inr (some (some 359))), (1, .inl (0, .ofNat 2)), (2, .inl (0, .ofNat 3))])]), none, none]]
set_option maxRecDepth 1000000 in
theorem jxm_c54_ok (hX : jc_Xo jxm X) : jc_Con jP jxm X jxm_c54 := jc_mth_ok (Z := (jxm, [], jT, [jxm_c48, jxm_c51], jxm_S0, jxm_c54_N, .ofNat 100000)) (f := 100000) jxm_ok hX jT_ok (jc_c1 (jxm_c48_ok hX) (jc_c1 (jxm_c51_ok hX) jc_c0)) (by decide +kernel)
-- readStation3
def jxm_c55 : jc_Cn := (195, 5, [.inr (some (some 359))], (1, [], [(2957514, .inl (0, .ofNat 3))], [], [], [8, 9, 10, 11, 12, 13, 14, 15, 16, 17, 18, 19, 21, 22, 23, 24, 25]), [(359, 15, 16), (359, 16, 17), (359, 17, 18), (359, 18, 19), (359, 19, 20), (359, 20, 21), (359, 21, 22), (367, 0, 12), (361, 0, 56), (361, 202, 203)], [((2, [(1, .ofNat 3, .ofNat 4)], [(2957514, .inl (1, .ofNat 0))], [], [], [8, 9, 10, 11, 12, 13, 14, 15, 16, 17, 18, 19, 21, 22, 23, 24, 25]), some (.inl (0, .ofNat 0))), ((1, [], [(2957514, .inl (0, .ofNat 4))], [], [], [8, 9, 10, 11, 12, 13, 14, 15, 16, 17, 18, 19, 21, 22, 23, 24, 25]), some (.inl (0, .ofNat 1)))])
def jxm_c55_N : jc_Nt := [none,
  none,
  none,
  some [none, none, none, none, none, none, none, none, none, none, none, none, none, some ([(4, none, (1, [], [(2957514, .inl (0, .ofNat 3))], [], [], [8, 9, 10, 11, 12, 13, 14, 15, 16, 17, 18, 19, 21, 22, 23, 24, 25]), [(0, .inr (some (some 359))), (1, .inl (0, .ofNat 3)), (2, .inl (0, .ofNat 0))]),
    (3, none, (1, [], [(2957514, .inl (0, .ofNat 3))], [], [], [8, 9, 10, 11, 12, 13, 14, 15, 16, 17, 18, 19, 21, 22, 23, 24, 25]), [(0, .inr (some (some 359))), (1, .inl (0, .ofNat 3)), (2, .inl (0, .ofNat 1))]),
    (2, none, (1, [], [(2957514, .inl (0, .ofNat 3))], [], [], [8, 9, 10, 11, 12, 13, 14, 15, 16, 17, 18, 19, 21, 22, 23, 24, 25]), [(0, .inr (some (some 359))), (1, .inl (0, .ofNat 3)), (2, .inl (0, .ofNat 2))]),
    (1, none, (1, [], [(2957514, .inl (0, .ofNat 3))], [], [], [8, 9, 10, 11, 12, 13, 14, 15, 16, 17, 18, 19, 21, 22, 23, 24, 25]), [(0, .inr (some (some 359))), (1, .inl (0, .ofNat 3)), (2, .inl (0, .ofNat 3))])]), none, none]]
set_option maxRecDepth 1000000 in
theorem jxm_c55_ok (hX : jc_Xo jxm X) : jc_Con jP jxm X jxm_c55 := jc_mth_ok (Z := (jxm, [], jT, [jxm_c48, jxm_c51], jxm_S0, jxm_c55_N, .ofNat 100000)) (f := 100000) jxm_ok hX jT_ok (jc_c1 (jxm_c48_ok hX) (jc_c1 (jxm_c51_ok hX) jc_c0)) (by decide +kernel)
-- readStation4
def jxm_c56 : jc_Cn := (195, 5, [.inr (some (some 359))], (1, [], [(2957514, .inl (0, .ofNat 4))], [], [], [8, 9, 10, 11, 12, 13, 14, 15, 16, 17, 18, 19, 21, 22, 23, 24, 25]), [(359, 15, 16), (359, 16, 17), (359, 17, 18), (359, 18, 19), (359, 19, 20), (359, 20, 21), (359, 21, 22), (367, 0, 12), (361, 0, 56), (361, 202, 203)], [((2, [(1, .ofNat 4, .ofNat 5)], [(2957514, .inl (1, .ofNat 0))], [], [], [8, 9, 10, 11, 12, 13, 14, 15, 16, 17, 18, 19, 21, 22, 23, 24, 25]), some (.inl (0, .ofNat 0))), ((1, [], [(2957514, .inl (0, .ofNat 5))], [], [], [8, 9, 10, 11, 12, 13, 14, 15, 16, 17, 18, 19, 21, 22, 23, 24, 25]), some (.inl (0, .ofNat 1)))])
def jxm_c56_N : jc_Nt := [none,
  none,
  none,
  some [none, none, none, none, none, none, none, none, none, none, none, none, none, some ([(4, none, (1, [], [(2957514, .inl (0, .ofNat 4))], [], [], [8, 9, 10, 11, 12, 13, 14, 15, 16, 17, 18, 19, 21, 22, 23, 24, 25]), [(0, .inr (some (some 359))), (1, .inl (0, .ofNat 4)), (2, .inl (0, .ofNat 0))]),
    (3, none, (1, [], [(2957514, .inl (0, .ofNat 4))], [], [], [8, 9, 10, 11, 12, 13, 14, 15, 16, 17, 18, 19, 21, 22, 23, 24, 25]), [(0, .inr (some (some 359))), (1, .inl (0, .ofNat 4)), (2, .inl (0, .ofNat 1))]),
    (2, none, (1, [], [(2957514, .inl (0, .ofNat 4))], [], [], [8, 9, 10, 11, 12, 13, 14, 15, 16, 17, 18, 19, 21, 22, 23, 24, 25]), [(0, .inr (some (some 359))), (1, .inl (0, .ofNat 4)), (2, .inl (0, .ofNat 2))]),
    (1, none, (1, [], [(2957514, .inl (0, .ofNat 4))], [], [], [8, 9, 10, 11, 12, 13, 14, 15, 16, 17, 18, 19, 21, 22, 23, 24, 25]), [(0, .inr (some (some 359))), (1, .inl (0, .ofNat 4)), (2, .inl (0, .ofNat 3))])]), none, none]]
set_option maxRecDepth 1000000 in
theorem jxm_c56_ok (hX : jc_Xo jxm X) : jc_Con jP jxm X jxm_c56 := jc_mth_ok (Z := (jxm, [], jT, [jxm_c48, jxm_c51], jxm_S0, jxm_c56_N, .ofNat 100000)) (f := 100000) jxm_ok hX jT_ok (jc_c1 (jxm_c48_ok hX) (jc_c1 (jxm_c51_ok hX) jc_c0)) (by decide +kernel)
-- readStation5
def jxm_c57 : jc_Cn := (195, 5, [.inr (some (some 359))], (1, [], [(2957514, .inl (0, .ofNat 5))], [], [], [8, 9, 10, 11, 12, 13, 14, 15, 16, 17, 18, 19, 21, 22, 23, 24, 25]), [(359, 15, 16), (359, 16, 17), (359, 17, 18), (359, 18, 19), (359, 19, 20), (359, 20, 21), (359, 21, 22), (367, 0, 12), (361, 0, 56), (361, 202, 203)], [((2, [(1, .ofNat 5, .ofNat 6)], [(2957514, .inl (1, .ofNat 0))], [], [], [8, 9, 10, 11, 12, 13, 14, 15, 16, 17, 18, 19, 21, 22, 23, 24, 25]), some (.inl (0, .ofNat 0))), ((1, [], [(2957514, .inl (0, .ofNat 6))], [], [], [8, 9, 10, 11, 12, 13, 14, 15, 16, 17, 18, 19, 21, 22, 23, 24, 25]), some (.inl (0, .ofNat 1)))])
def jxm_c57_N : jc_Nt := [none,
  none,
  none,
  some [none, none, none, none, none, none, none, none, none, none, none, none, none, some ([(4, none, (1, [], [(2957514, .inl (0, .ofNat 5))], [], [], [8, 9, 10, 11, 12, 13, 14, 15, 16, 17, 18, 19, 21, 22, 23, 24, 25]), [(0, .inr (some (some 359))), (1, .inl (0, .ofNat 5)), (2, .inl (0, .ofNat 0))]),
    (3, none, (1, [], [(2957514, .inl (0, .ofNat 5))], [], [], [8, 9, 10, 11, 12, 13, 14, 15, 16, 17, 18, 19, 21, 22, 23, 24, 25]), [(0, .inr (some (some 359))), (1, .inl (0, .ofNat 5)), (2, .inl (0, .ofNat 1))]),
    (2, none, (1, [], [(2957514, .inl (0, .ofNat 5))], [], [], [8, 9, 10, 11, 12, 13, 14, 15, 16, 17, 18, 19, 21, 22, 23, 24, 25]), [(0, .inr (some (some 359))), (1, .inl (0, .ofNat 5)), (2, .inl (0, .ofNat 2))]),
    (1, none, (1, [], [(2957514, .inl (0, .ofNat 5))], [], [], [8, 9, 10, 11, 12, 13, 14, 15, 16, 17, 18, 19, 21, 22, 23, 24, 25]), [(0, .inr (some (some 359))), (1, .inl (0, .ofNat 5)), (2, .inl (0, .ofNat 3))])]), none, none]]
set_option maxRecDepth 1000000 in
theorem jxm_c57_ok (hX : jc_Xo jxm X) : jc_Con jP jxm X jxm_c57 := jc_mth_ok (Z := (jxm, [], jT, [jxm_c48, jxm_c51], jxm_S0, jxm_c57_N, .ofNat 100000)) (f := 100000) jxm_ok hX jT_ok (jc_c1 (jxm_c48_ok hX) (jc_c1 (jxm_c51_ok hX) jc_c0)) (by decide +kernel)
-- readStation6
def jxm_c58 : jc_Cn := (195, 5, [.inr (some (some 359))], (1, [], [(2957514, .inl (0, .ofNat 6))], [], [], [8, 9, 10, 11, 12, 13, 14, 15, 16, 17, 18, 19, 21, 22, 23, 24, 25]), [(359, 15, 16), (359, 16, 17), (359, 17, 18), (359, 18, 19), (359, 19, 20), (359, 20, 21), (359, 21, 22), (367, 0, 12), (361, 0, 56), (361, 202, 203)], [((2, [(1, .ofNat 6, .ofNat 7)], [(2957514, .inl (1, .ofNat 0))], [], [], [8, 9, 10, 11, 12, 13, 14, 15, 16, 17, 18, 19, 21, 22, 23, 24, 25]), some (.inl (0, .ofNat 0))), ((1, [], [(2957514, .inl (0, .ofNat 7))], [], [], [8, 9, 10, 11, 12, 13, 14, 15, 16, 17, 18, 19, 21, 22, 23, 24, 25]), some (.inl (0, .ofNat 1)))])
def jxm_c58_N : jc_Nt := [none,
  none,
  none,
  some [none, none, none, none, none, none, none, none, none, none, none, none, none, some ([(4, none, (1, [], [(2957514, .inl (0, .ofNat 6))], [], [], [8, 9, 10, 11, 12, 13, 14, 15, 16, 17, 18, 19, 21, 22, 23, 24, 25]), [(0, .inr (some (some 359))), (1, .inl (0, .ofNat 6)), (2, .inl (0, .ofNat 0))]),
    (3, none, (1, [], [(2957514, .inl (0, .ofNat 6))], [], [], [8, 9, 10, 11, 12, 13, 14, 15, 16, 17, 18, 19, 21, 22, 23, 24, 25]), [(0, .inr (some (some 359))), (1, .inl (0, .ofNat 6)), (2, .inl (0, .ofNat 1))]),
    (2, none, (1, [], [(2957514, .inl (0, .ofNat 6))], [], [], [8, 9, 10, 11, 12, 13, 14, 15, 16, 17, 18, 19, 21, 22, 23, 24, 25]), [(0, .inr (some (some 359))), (1, .inl (0, .ofNat 6)), (2, .inl (0, .ofNat 2))]),
    (1, none, (1, [], [(2957514, .inl (0, .ofNat 6))], [], [], [8, 9, 10, 11, 12, 13, 14, 15, 16, 17, 18, 19, 21, 22, 23, 24, 25]), [(0, .inr (some (some 359))), (1, .inl (0, .ofNat 6)), (2, .inl (0, .ofNat 3))])]), none, none]]
set_option maxRecDepth 1000000 in
theorem jxm_c58_ok (hX : jc_Xo jxm X) : jc_Con jP jxm X jxm_c58 := jc_mth_ok (Z := (jxm, [], jT, [jxm_c48, jxm_c51], jxm_S0, jxm_c58_N, .ofNat 100000)) (f := 100000) jxm_ok hX jT_ok (jc_c1 (jxm_c48_ok hX) (jc_c1 (jxm_c51_ok hX) jc_c0)) (by decide +kernel)
-- readStation7
def jxm_c59 : jc_Cn := (195, 1, [.inr (some (some 359))], (1, [], [(2957514, .inl (0, .ofNat 7))], [], [], [8, 9, 10, 11, 12, 13, 14, 15, 16, 17, 18, 19, 21, 22, 23, 24, 25]), [(359, 15, 16), (359, 16, 17), (359, 17, 18), (359, 18, 19), (359, 19, 20), (359, 20, 21), (359, 21, 22), (367, 0, 12), (361, 0, 56), (361, 202, 203)], [((1, [], [(2957514, .inl (0, .ofNat 7))], [], [], [8, 9, 10, 11, 12, 13, 14, 15, 16, 17, 18, 19, 21, 22, 23, 24, 25]), some (.inl (0, .ofNat 0)))])
def jxm_c59_N : jc_Nt := []
set_option maxRecDepth 1000000 in
theorem jxm_c59_ok (hX : jc_Xo jxm X) : jc_Con jP jxm X jxm_c59 := jc_mth_ok (Z := (jxm, [], jT, [], jxm_S0, jxm_c59_N, .ofNat 100000)) (f := 100000) jxm_ok hX jT_ok jc_c0 (by decide +kernel)
-- readNumber0.0
def jxm_c60 : jc_Cn := (192, 2, [.inr (some (some 359)), .inl (0, .ofNat 56), .inl (1, .ofNat 0), .inl (2, .ofNat 0)], (3, [(1, .negSucc 2147483647, .ofNat 2147483647), (2, .negSucc 2147483647, .ofNat 2147483647)], [], [], [], [8, 9, 10, 11, 12, 13, 14, 15, 16, 17, 18, 19, 21, 22, 23, 24, 25]), [(359, 15, 16), (359, 16, 17), (359, 17, 18), (359, 18, 19), (359, 19, 20), (359, 20, 21), (359, 21, 22), (361, 56, 57)], [((1, [], [], [], [], [8, 9, 10, 11, 12, 13, 14, 15, 16, 17, 18, 19, 21, 22, 23, 24, 25]), some (.inl (0, .ofNat 0))), ((1, [], [], [], [], [8, 9, 10, 11, 12, 13, 14, 15, 16, 17, 18, 19, 21, 22, 23, 24, 25]), some (.inl (0, .ofNat 1)))])
def jxm_c60_N : jc_Nt := []
set_option maxRecDepth 1000000 in
theorem jxm_c60_ok (hX : jc_Xo jxm X) : jc_Con jP jxm X jxm_c60 := jc_mth_ok (Z := (jxm, [], jT, [jxm_c48], jxm_S0, jxm_c60_N, .ofNat 100000)) (f := 100000) jxm_ok hX jT_ok (jc_c1 (jxm_c48_ok hX) jc_c0) (by decide +kernel)
-- readNumber0.3
def jxm_c61 : jc_Cn := (192, 2, [.inr (some (some 359)), .inl (0, .ofNat 59), .inl (1, .ofNat 0), .inl (2, .ofNat 0)], (3, [(1, .negSucc 2147483647, .ofNat 2147483647), (2, .negSucc 2147483647, .ofNat 2147483647)], [], [], [], [8, 9, 10, 11, 12, 13, 14, 15, 16, 17, 18, 19, 21, 22, 23, 24, 25]), [(359, 15, 16), (359, 16, 17), (359, 17, 18), (359, 18, 19), (359, 19, 20), (359, 20, 21), (359, 21, 22), (361, 59, 60)], [((1, [], [], [], [], [8, 9, 10, 11, 12, 13, 14, 15, 16, 17, 18, 19, 21, 22, 23, 24, 25]), some (.inl (0, .ofNat 0))), ((1, [], [], [], [], [8, 9, 10, 11, 12, 13, 14, 15, 16, 17, 18, 19, 21, 22, 23, 24, 25]), some (.inl (0, .ofNat 1)))])
def jxm_c61_N : jc_Nt := []
set_option maxRecDepth 1000000 in
theorem jxm_c61_ok (hX : jc_Xo jxm X) : jc_Con jP jxm X jxm_c61 := jc_mth_ok (Z := (jxm, [], jT, [jxm_c48], jxm_S0, jxm_c61_N, .ofNat 100000)) (f := 100000) jxm_ok hX jT_ok (jc_c1 (jxm_c48_ok hX) jc_c0) (by decide +kernel)
-- readNumber0.4
def jxm_c62 : jc_Cn := (192, 2, [.inr (some (some 359)), .inl (0, .ofNat 60), .inl (1, .ofNat 0), .inl (2, .ofNat 0)], (3, [(1, .negSucc 2147483647, .ofNat 2147483647), (2, .negSucc 2147483647, .ofNat 2147483647)], [], [], [], [8, 9, 10, 11, 12, 13, 14, 15, 16, 17, 18, 19, 21, 22, 23, 24, 25]), [(359, 15, 16), (359, 16, 17), (359, 17, 18), (359, 18, 19), (359, 19, 20), (359, 20, 21), (359, 21, 22), (361, 60, 61)], [((1, [], [], [], [], [8, 9, 10, 11, 12, 13, 14, 15, 16, 17, 18, 19, 21, 22, 23, 24, 25]), some (.inl (0, .ofNat 0))), ((1, [], [], [], [], [8, 9, 10, 11, 12, 13, 14, 15, 16, 17, 18, 19, 21, 22, 23, 24, 25]), some (.inl (0, .ofNat 1)))])
def jxm_c62_N : jc_Nt := []
set_option maxRecDepth 1000000 in
theorem jxm_c62_ok (hX : jc_Xo jxm X) : jc_Con jP jxm X jxm_c62 := jc_mth_ok (Z := (jxm, [], jT, [jxm_c48], jxm_S0, jxm_c62_N, .ofNat 100000)) (f := 100000) jxm_ok hX jT_ok (jc_c1 (jxm_c48_ok hX) jc_c0) (by decide +kernel)
-- readNumber0.5
def jxm_c63 : jc_Cn := (192, 2, [.inr (some (some 359)), .inl (0, .ofNat 61), .inl (1, .ofNat 0), .inl (2, .ofNat 0)], (3, [(1, .negSucc 2147483647, .ofNat 2147483647), (2, .negSucc 2147483647, .ofNat 2147483647)], [], [], [], [8, 9, 10, 11, 12, 13, 14, 15, 16, 17, 18, 19, 21, 22, 23, 24, 25]), [(359, 15, 16), (359, 16, 17), (359, 17, 18), (359, 18, 19), (359, 19, 20), (359, 20, 21), (359, 21, 22), (361, 61, 62)], [((1, [], [], [], [], [8, 9, 10, 11, 12, 13, 14, 15, 16, 17, 18, 19, 21, 22, 23, 24, 25]), some (.inl (0, .ofNat 0))), ((1, [], [], [], [], [8, 9, 10, 11, 12, 13, 14, 15, 16, 17, 18, 19, 21, 22, 23, 24, 25]), some (.inl (0, .ofNat 1)))])
def jxm_c63_N : jc_Nt := []
set_option maxRecDepth 1000000 in
theorem jxm_c63_ok (hX : jc_Xo jxm X) : jc_Con jP jxm X jxm_c63 := jc_mth_ok (Z := (jxm, [], jT, [jxm_c48], jxm_S0, jxm_c63_N, .ofNat 100000)) (f := 100000) jxm_ok hX jT_ok (jc_c1 (jxm_c48_ok hX) jc_c0) (by decide +kernel)
-- readNumber1.0
def jxm_c64 : jc_Cn := (192, 2, [.inr (some (some 359)), .inl (0, .ofNat 84), .inl (1, .ofNat 0), .inl (2, .ofNat 0)], (3, [(1, .negSucc 2147483647, .ofNat 2147483647), (2, .negSucc 2147483647, .ofNat 2147483647)], [], [], [], [8, 9, 10, 11, 12, 13, 14, 15, 16, 17, 18, 19, 21, 22, 23, 24, 25]), [(359, 15, 16), (359, 16, 17), (359, 17, 18), (359, 18, 19), (359, 19, 20), (359, 20, 21), (359, 21, 22), (361, 84, 85)], [((1, [], [], [], [], [8, 9, 10, 11, 12, 13, 14, 15, 16, 17, 18, 19, 21, 22, 23, 24, 25]), some (.inl (0, .ofNat 0))), ((1, [], [], [], [], [8, 9, 10, 11, 12, 13, 14, 15, 16, 17, 18, 19, 21, 22, 23, 24, 25]), some (.inl (0, .ofNat 1)))])
def jxm_c64_N : jc_Nt := []
set_option maxRecDepth 1000000 in
theorem jxm_c64_ok (hX : jc_Xo jxm X) : jc_Con jP jxm X jxm_c64 := jc_mth_ok (Z := (jxm, [], jT, [jxm_c48], jxm_S0, jxm_c64_N, .ofNat 100000)) (f := 100000) jxm_ok hX jT_ok (jc_c1 (jxm_c48_ok hX) jc_c0) (by decide +kernel)
-- readNumber1.3
def jxm_c65 : jc_Cn := (192, 2, [.inr (some (some 359)), .inl (0, .ofNat 87), .inl (1, .ofNat 0), .inl (2, .ofNat 0)], (3, [(1, .negSucc 2147483647, .ofNat 2147483647), (2, .negSucc 2147483647, .ofNat 2147483647)], [], [], [], [8, 9, 10, 11, 12, 13, 14, 15, 16, 17, 18, 19, 21, 22, 23, 24, 25]), [(359, 15, 16), (359, 16, 17), (359, 17, 18), (359, 18, 19), (359, 19, 20), (359, 20, 21), (359, 21, 22), (361, 87, 88)], [((1, [], [], [], [], [8, 9, 10, 11, 12, 13, 14, 15, 16, 17, 18, 19, 21, 22, 23, 24, 25]), some (.inl (0, .ofNat 0))), ((1, [], [], [], [], [8, 9, 10, 11, 12, 13, 14, 15, 16, 17, 18, 19, 21, 22, 23, 24, 25]), some (.inl (0, .ofNat 1)))])
def jxm_c65_N : jc_Nt := []
set_option maxRecDepth 1000000 in
theorem jxm_c65_ok (hX : jc_Xo jxm X) : jc_Con jP jxm X jxm_c65 := jc_mth_ok (Z := (jxm, [], jT, [jxm_c48], jxm_S0, jxm_c65_N, .ofNat 100000)) (f := 100000) jxm_ok hX jT_ok (jc_c1 (jxm_c48_ok hX) jc_c0) (by decide +kernel)
-- readNumber1.4
def jxm_c66 : jc_Cn := (192, 2, [.inr (some (some 359)), .inl (0, .ofNat 88), .inl (1, .ofNat 0), .inl (2, .ofNat 0)], (3, [(1, .negSucc 2147483647, .ofNat 2147483647), (2, .negSucc 2147483647, .ofNat 2147483647)], [], [], [], [8, 9, 10, 11, 12, 13, 14, 15, 16, 17, 18, 19, 21, 22, 23, 24, 25]), [(359, 15, 16), (359, 16, 17), (359, 17, 18), (359, 18, 19), (359, 19, 20), (359, 20, 21), (359, 21, 22), (361, 88, 89)], [((1, [], [], [], [], [8, 9, 10, 11, 12, 13, 14, 15, 16, 17, 18, 19, 21, 22, 23, 24, 25]), some (.inl (0, .ofNat 0))), ((1, [], [], [], [], [8, 9, 10, 11, 12, 13, 14, 15, 16, 17, 18, 19, 21, 22, 23, 24, 25]), some (.inl (0, .ofNat 1)))])
def jxm_c66_N : jc_Nt := []
set_option maxRecDepth 1000000 in
theorem jxm_c66_ok (hX : jc_Xo jxm X) : jc_Con jP jxm X jxm_c66 := jc_mth_ok (Z := (jxm, [], jT, [jxm_c48], jxm_S0, jxm_c66_N, .ofNat 100000)) (f := 100000) jxm_ok hX jT_ok (jc_c1 (jxm_c48_ok hX) jc_c0) (by decide +kernel)
-- readNumber1.5
def jxm_c67 : jc_Cn := (192, 2, [.inr (some (some 359)), .inl (0, .ofNat 89), .inl (1, .ofNat 0), .inl (2, .ofNat 0)], (3, [(1, .negSucc 2147483647, .ofNat 2147483647), (2, .negSucc 2147483647, .ofNat 2147483647)], [], [], [], [8, 9, 10, 11, 12, 13, 14, 15, 16, 17, 18, 19, 21, 22, 23, 24, 25]), [(359, 15, 16), (359, 16, 17), (359, 17, 18), (359, 18, 19), (359, 19, 20), (359, 20, 21), (359, 21, 22), (361, 89, 90)], [((1, [], [], [], [], [8, 9, 10, 11, 12, 13, 14, 15, 16, 17, 18, 19, 21, 22, 23, 24, 25]), some (.inl (0, .ofNat 0))), ((1, [], [], [], [], [8, 9, 10, 11, 12, 13, 14, 15, 16, 17, 18, 19, 21, 22, 23, 24, 25]), some (.inl (0, .ofNat 1)))])
def jxm_c67_N : jc_Nt := []
set_option maxRecDepth 1000000 in
theorem jxm_c67_ok (hX : jc_Xo jxm X) : jc_Con jP jxm X jxm_c67 := jc_mth_ok (Z := (jxm, [], jT, [jxm_c48], jxm_S0, jxm_c67_N, .ofNat 100000)) (f := 100000) jxm_ok hX jT_ok (jc_c1 (jxm_c48_ok hX) jc_c0) (by decide +kernel)
-- readNumber2.0
def jxm_c68 : jc_Cn := (192, 2, [.inr (some (some 359)), .inl (0, .ofNat 112), .inl (1, .ofNat 0), .inl (2, .ofNat 0)], (3, [(1, .negSucc 2147483647, .ofNat 2147483647), (2, .negSucc 2147483647, .ofNat 2147483647)], [], [], [], [8, 9, 10, 11, 12, 13, 14, 15, 16, 17, 18, 19, 21, 22, 23, 24, 25]), [(359, 15, 16), (359, 16, 17), (359, 17, 18), (359, 18, 19), (359, 19, 20), (359, 20, 21), (359, 21, 22), (361, 112, 113)], [((1, [], [], [], [], [8, 9, 10, 11, 12, 13, 14, 15, 16, 17, 18, 19, 21, 22, 23, 24, 25]), some (.inl (0, .ofNat 0))), ((1, [], [], [], [], [8, 9, 10, 11, 12, 13, 14, 15, 16, 17, 18, 19, 21, 22, 23, 24, 25]), some (.inl (0, .ofNat 1)))])
def jxm_c68_N : jc_Nt := []
set_option maxRecDepth 1000000 in
theorem jxm_c68_ok (hX : jc_Xo jxm X) : jc_Con jP jxm X jxm_c68 := jc_mth_ok (Z := (jxm, [], jT, [jxm_c48], jxm_S0, jxm_c68_N, .ofNat 100000)) (f := 100000) jxm_ok hX jT_ok (jc_c1 (jxm_c48_ok hX) jc_c0) (by decide +kernel)
-- readNumber2.3
def jxm_c69 : jc_Cn := (192, 2, [.inr (some (some 359)), .inl (0, .ofNat 115), .inl (1, .ofNat 0), .inl (2, .ofNat 0)], (3, [(1, .negSucc 2147483647, .ofNat 2147483647), (2, .negSucc 2147483647, .ofNat 2147483647)], [], [], [], [8, 9, 10, 11, 12, 13, 14, 15, 16, 17, 18, 19, 21, 22, 23, 24, 25]), [(359, 15, 16), (359, 16, 17), (359, 17, 18), (359, 18, 19), (359, 19, 20), (359, 20, 21), (359, 21, 22), (361, 115, 116)], [((1, [], [], [], [], [8, 9, 10, 11, 12, 13, 14, 15, 16, 17, 18, 19, 21, 22, 23, 24, 25]), some (.inl (0, .ofNat 0))), ((1, [], [], [], [], [8, 9, 10, 11, 12, 13, 14, 15, 16, 17, 18, 19, 21, 22, 23, 24, 25]), some (.inl (0, .ofNat 1)))])
def jxm_c69_N : jc_Nt := []
set_option maxRecDepth 1000000 in
theorem jxm_c69_ok (hX : jc_Xo jxm X) : jc_Con jP jxm X jxm_c69 := jc_mth_ok (Z := (jxm, [], jT, [jxm_c48], jxm_S0, jxm_c69_N, .ofNat 100000)) (f := 100000) jxm_ok hX jT_ok (jc_c1 (jxm_c48_ok hX) jc_c0) (by decide +kernel)
-- readNumber2.4
def jxm_c70 : jc_Cn := (192, 2, [.inr (some (some 359)), .inl (0, .ofNat 116), .inl (1, .ofNat 0), .inl (2, .ofNat 0)], (3, [(1, .negSucc 2147483647, .ofNat 2147483647), (2, .negSucc 2147483647, .ofNat 2147483647)], [], [], [], [8, 9, 10, 11, 12, 13, 14, 15, 16, 17, 18, 19, 21, 22, 23, 24, 25]), [(359, 15, 16), (359, 16, 17), (359, 17, 18), (359, 18, 19), (359, 19, 20), (359, 20, 21), (359, 21, 22), (361, 116, 117)], [((1, [], [], [], [], [8, 9, 10, 11, 12, 13, 14, 15, 16, 17, 18, 19, 21, 22, 23, 24, 25]), some (.inl (0, .ofNat 0))), ((1, [], [], [], [], [8, 9, 10, 11, 12, 13, 14, 15, 16, 17, 18, 19, 21, 22, 23, 24, 25]), some (.inl (0, .ofNat 1)))])
def jxm_c70_N : jc_Nt := []
set_option maxRecDepth 1000000 in
theorem jxm_c70_ok (hX : jc_Xo jxm X) : jc_Con jP jxm X jxm_c70 := jc_mth_ok (Z := (jxm, [], jT, [jxm_c48], jxm_S0, jxm_c70_N, .ofNat 100000)) (f := 100000) jxm_ok hX jT_ok (jc_c1 (jxm_c48_ok hX) jc_c0) (by decide +kernel)
-- readNumber2.5
def jxm_c71 : jc_Cn := (192, 2, [.inr (some (some 359)), .inl (0, .ofNat 117), .inl (1, .ofNat 0), .inl (2, .ofNat 0)], (3, [(1, .negSucc 2147483647, .ofNat 2147483647), (2, .negSucc 2147483647, .ofNat 2147483647)], [], [], [], [8, 9, 10, 11, 12, 13, 14, 15, 16, 17, 18, 19, 21, 22, 23, 24, 25]), [(359, 15, 16), (359, 16, 17), (359, 17, 18), (359, 18, 19), (359, 19, 20), (359, 20, 21), (359, 21, 22), (361, 117, 118)], [((1, [], [], [], [], [8, 9, 10, 11, 12, 13, 14, 15, 16, 17, 18, 19, 21, 22, 23, 24, 25]), some (.inl (0, .ofNat 0))), ((1, [], [], [], [], [8, 9, 10, 11, 12, 13, 14, 15, 16, 17, 18, 19, 21, 22, 23, 24, 25]), some (.inl (0, .ofNat 1)))])
def jxm_c71_N : jc_Nt := []
set_option maxRecDepth 1000000 in
theorem jxm_c71_ok (hX : jc_Xo jxm X) : jc_Con jP jxm X jxm_c71 := jc_mth_ok (Z := (jxm, [], jT, [jxm_c48], jxm_S0, jxm_c71_N, .ofNat 100000)) (f := 100000) jxm_ok hX jT_ok (jc_c1 (jxm_c48_ok hX) jc_c0) (by decide +kernel)
-- readNumber3.0
def jxm_c72 : jc_Cn := (192, 2, [.inr (some (some 359)), .inl (0, .ofNat 140), .inl (1, .ofNat 0), .inl (2, .ofNat 0)], (3, [(1, .negSucc 2147483647, .ofNat 2147483647), (2, .negSucc 2147483647, .ofNat 2147483647)], [], [], [], [8, 9, 10, 11, 12, 13, 14, 15, 16, 17, 18, 19, 21, 22, 23, 24, 25]), [(359, 15, 16), (359, 16, 17), (359, 17, 18), (359, 18, 19), (359, 19, 20), (359, 20, 21), (359, 21, 22), (361, 140, 141)], [((1, [], [], [], [], [8, 9, 10, 11, 12, 13, 14, 15, 16, 17, 18, 19, 21, 22, 23, 24, 25]), some (.inl (0, .ofNat 0))), ((1, [], [], [], [], [8, 9, 10, 11, 12, 13, 14, 15, 16, 17, 18, 19, 21, 22, 23, 24, 25]), some (.inl (0, .ofNat 1)))])
def jxm_c72_N : jc_Nt := []
set_option maxRecDepth 1000000 in
theorem jxm_c72_ok (hX : jc_Xo jxm X) : jc_Con jP jxm X jxm_c72 := jc_mth_ok (Z := (jxm, [], jT, [jxm_c48], jxm_S0, jxm_c72_N, .ofNat 100000)) (f := 100000) jxm_ok hX jT_ok (jc_c1 (jxm_c48_ok hX) jc_c0) (by decide +kernel)
-- readNumber3.3
def jxm_c73 : jc_Cn := (192, 2, [.inr (some (some 359)), .inl (0, .ofNat 143), .inl (1, .ofNat 0), .inl (2, .ofNat 0)], (3, [(1, .negSucc 2147483647, .ofNat 2147483647), (2, .negSucc 2147483647, .ofNat 2147483647)], [], [], [], [8, 9, 10, 11, 12, 13, 14, 15, 16, 17, 18, 19, 21, 22, 23, 24, 25]), [(359, 15, 16), (359, 16, 17), (359, 17, 18), (359, 18, 19), (359, 19, 20), (359, 20, 21), (359, 21, 22), (361, 143, 144)], [((1, [], [], [], [], [8, 9, 10, 11, 12, 13, 14, 15, 16, 17, 18, 19, 21, 22, 23, 24, 25]), some (.inl (0, .ofNat 0))), ((1, [], [], [], [], [8, 9, 10, 11, 12, 13, 14, 15, 16, 17, 18, 19, 21, 22, 23, 24, 25]), some (.inl (0, .ofNat 1)))])
def jxm_c73_N : jc_Nt := []
set_option maxRecDepth 1000000 in
theorem jxm_c73_ok (hX : jc_Xo jxm X) : jc_Con jP jxm X jxm_c73 := jc_mth_ok (Z := (jxm, [], jT, [jxm_c48], jxm_S0, jxm_c73_N, .ofNat 100000)) (f := 100000) jxm_ok hX jT_ok (jc_c1 (jxm_c48_ok hX) jc_c0) (by decide +kernel)
-- readNumber3.4
def jxm_c74 : jc_Cn := (192, 2, [.inr (some (some 359)), .inl (0, .ofNat 144), .inl (1, .ofNat 0), .inl (2, .ofNat 0)], (3, [(1, .negSucc 2147483647, .ofNat 2147483647), (2, .negSucc 2147483647, .ofNat 2147483647)], [], [], [], [8, 9, 10, 11, 12, 13, 14, 15, 16, 17, 18, 19, 21, 22, 23, 24, 25]), [(359, 15, 16), (359, 16, 17), (359, 17, 18), (359, 18, 19), (359, 19, 20), (359, 20, 21), (359, 21, 22), (361, 144, 145)], [((1, [], [], [], [], [8, 9, 10, 11, 12, 13, 14, 15, 16, 17, 18, 19, 21, 22, 23, 24, 25]), some (.inl (0, .ofNat 0))), ((1, [], [], [], [], [8, 9, 10, 11, 12, 13, 14, 15, 16, 17, 18, 19, 21, 22, 23, 24, 25]), some (.inl (0, .ofNat 1)))])
def jxm_c74_N : jc_Nt := []
set_option maxRecDepth 1000000 in
theorem jxm_c74_ok (hX : jc_Xo jxm X) : jc_Con jP jxm X jxm_c74 := jc_mth_ok (Z := (jxm, [], jT, [jxm_c48], jxm_S0, jxm_c74_N, .ofNat 100000)) (f := 100000) jxm_ok hX jT_ok (jc_c1 (jxm_c48_ok hX) jc_c0) (by decide +kernel)
-- readNumber3.5
def jxm_c75 : jc_Cn := (192, 2, [.inr (some (some 359)), .inl (0, .ofNat 145), .inl (1, .ofNat 0), .inl (2, .ofNat 0)], (3, [(1, .negSucc 2147483647, .ofNat 2147483647), (2, .negSucc 2147483647, .ofNat 2147483647)], [], [], [], [8, 9, 10, 11, 12, 13, 14, 15, 16, 17, 18, 19, 21, 22, 23, 24, 25]), [(359, 15, 16), (359, 16, 17), (359, 17, 18), (359, 18, 19), (359, 19, 20), (359, 20, 21), (359, 21, 22), (361, 145, 146)], [((1, [], [], [], [], [8, 9, 10, 11, 12, 13, 14, 15, 16, 17, 18, 19, 21, 22, 23, 24, 25]), some (.inl (0, .ofNat 0))), ((1, [], [], [], [], [8, 9, 10, 11, 12, 13, 14, 15, 16, 17, 18, 19, 21, 22, 23, 24, 25]), some (.inl (0, .ofNat 1)))])
def jxm_c75_N : jc_Nt := []
set_option maxRecDepth 1000000 in
theorem jxm_c75_ok (hX : jc_Xo jxm X) : jc_Con jP jxm X jxm_c75 := jc_mth_ok (Z := (jxm, [], jT, [jxm_c48], jxm_S0, jxm_c75_N, .ofNat 100000)) (f := 100000) jxm_ok hX jT_ok (jc_c1 (jxm_c48_ok hX) jc_c0) (by decide +kernel)
-- readNumber4.0
def jxm_c76 : jc_Cn := (192, 2, [.inr (some (some 359)), .inl (0, .ofNat 168), .inl (1, .ofNat 0), .inl (2, .ofNat 0)], (3, [(1, .negSucc 2147483647, .ofNat 2147483647), (2, .negSucc 2147483647, .ofNat 2147483647)], [], [], [], [8, 9, 10, 11, 12, 13, 14, 15, 16, 17, 18, 19, 21, 22, 23, 24, 25]), [(359, 15, 16), (359, 16, 17), (359, 17, 18), (359, 18, 19), (359, 19, 20), (359, 20, 21), (359, 21, 22), (361, 168, 169)], [((1, [], [], [], [], [8, 9, 10, 11, 12, 13, 14, 15, 16, 17, 18, 19, 21, 22, 23, 24, 25]), some (.inl (0, .ofNat 0))), ((1, [], [], [], [], [8, 9, 10, 11, 12, 13, 14, 15, 16, 17, 18, 19, 21, 22, 23, 24, 25]), some (.inl (0, .ofNat 1)))])
def jxm_c76_N : jc_Nt := []
set_option maxRecDepth 1000000 in
theorem jxm_c76_ok (hX : jc_Xo jxm X) : jc_Con jP jxm X jxm_c76 := jc_mth_ok (Z := (jxm, [], jT, [jxm_c48], jxm_S0, jxm_c76_N, .ofNat 100000)) (f := 100000) jxm_ok hX jT_ok (jc_c1 (jxm_c48_ok hX) jc_c0) (by decide +kernel)
-- readNumber4.3
def jxm_c77 : jc_Cn := (192, 2, [.inr (some (some 359)), .inl (0, .ofNat 171), .inl (1, .ofNat 0), .inl (2, .ofNat 0)], (3, [(1, .negSucc 2147483647, .ofNat 2147483647), (2, .negSucc 2147483647, .ofNat 2147483647)], [], [], [], [8, 9, 10, 11, 12, 13, 14, 15, 16, 17, 18, 19, 21, 22, 23, 24, 25]), [(359, 15, 16), (359, 16, 17), (359, 17, 18), (359, 18, 19), (359, 19, 20), (359, 20, 21), (359, 21, 22), (361, 171, 172)], [((1, [], [], [], [], [8, 9, 10, 11, 12, 13, 14, 15, 16, 17, 18, 19, 21, 22, 23, 24, 25]), some (.inl (0, .ofNat 0))), ((1, [], [], [], [], [8, 9, 10, 11, 12, 13, 14, 15, 16, 17, 18, 19, 21, 22, 23, 24, 25]), some (.inl (0, .ofNat 1)))])
def jxm_c77_N : jc_Nt := []
set_option maxRecDepth 1000000 in
theorem jxm_c77_ok (hX : jc_Xo jxm X) : jc_Con jP jxm X jxm_c77 := jc_mth_ok (Z := (jxm, [], jT, [jxm_c48], jxm_S0, jxm_c77_N, .ofNat 100000)) (f := 100000) jxm_ok hX jT_ok (jc_c1 (jxm_c48_ok hX) jc_c0) (by decide +kernel)
-- readNumber4.4
def jxm_c78 : jc_Cn := (192, 2, [.inr (some (some 359)), .inl (0, .ofNat 172), .inl (1, .ofNat 0), .inl (2, .ofNat 0)], (3, [(1, .negSucc 2147483647, .ofNat 2147483647), (2, .negSucc 2147483647, .ofNat 2147483647)], [], [], [], [8, 9, 10, 11, 12, 13, 14, 15, 16, 17, 18, 19, 21, 22, 23, 24, 25]), [(359, 15, 16), (359, 16, 17), (359, 17, 18), (359, 18, 19), (359, 19, 20), (359, 20, 21), (359, 21, 22), (361, 172, 173)], [((1, [], [], [], [], [8, 9, 10, 11, 12, 13, 14, 15, 16, 17, 18, 19, 21, 22, 23, 24, 25]), some (.inl (0, .ofNat 0))), ((1, [], [], [], [], [8, 9, 10, 11, 12, 13, 14, 15, 16, 17, 18, 19, 21, 22, 23, 24, 25]), some (.inl (0, .ofNat 1)))])
def jxm_c78_N : jc_Nt := []
set_option maxRecDepth 1000000 in
theorem jxm_c78_ok (hX : jc_Xo jxm X) : jc_Con jP jxm X jxm_c78 := jc_mth_ok (Z := (jxm, [], jT, [jxm_c48], jxm_S0, jxm_c78_N, .ofNat 100000)) (f := 100000) jxm_ok hX jT_ok (jc_c1 (jxm_c48_ok hX) jc_c0) (by decide +kernel)
-- readNumber4.5
def jxm_c79 : jc_Cn := (192, 2, [.inr (some (some 359)), .inl (0, .ofNat 173), .inl (1, .ofNat 0), .inl (2, .ofNat 0)], (3, [(1, .negSucc 2147483647, .ofNat 2147483647), (2, .negSucc 2147483647, .ofNat 2147483647)], [], [], [], [8, 9, 10, 11, 12, 13, 14, 15, 16, 17, 18, 19, 21, 22, 23, 24, 25]), [(359, 15, 16), (359, 16, 17), (359, 17, 18), (359, 18, 19), (359, 19, 20), (359, 20, 21), (359, 21, 22), (361, 173, 174)], [((1, [], [], [], [], [8, 9, 10, 11, 12, 13, 14, 15, 16, 17, 18, 19, 21, 22, 23, 24, 25]), some (.inl (0, .ofNat 0))), ((1, [], [], [], [], [8, 9, 10, 11, 12, 13, 14, 15, 16, 17, 18, 19, 21, 22, 23, 24, 25]), some (.inl (0, .ofNat 1)))])
def jxm_c79_N : jc_Nt := []
set_option maxRecDepth 1000000 in
theorem jxm_c79_ok (hX : jc_Xo jxm X) : jc_Con jP jxm X jxm_c79 := jc_mth_ok (Z := (jxm, [], jT, [jxm_c48], jxm_S0, jxm_c79_N, .ofNat 100000)) (f := 100000) jxm_ok hX jT_ok (jc_c1 (jxm_c48_ok hX) jc_c0) (by decide +kernel)
-- readTrain0
def jxm_c80 : jc_Cn := (197, 5, [.inr (some (some 359))], (1, [], [(2957515, .inl (0, .ofNat 0))], [], [], [8, 10, 11, 12, 13, 14, 15, 16, 17, 18, 19, 21, 22, 23, 24, 25]), [(359, 15, 16), (359, 16, 17), (359, 17, 18), (359, 18, 19), (359, 19, 20), (359, 20, 21), (359, 21, 22), (367, 0, 12), (361, 56, 196), (361, 203, 204)], [((2, [(1, .ofNat 0, .ofNat 1)], [(2957515, .inl (1, .ofNat 0))], [], [], [8, 10, 11, 12, 13, 14, 15, 16, 17, 18, 19, 21, 22, 23, 24, 25]), some (.inl (0, .ofNat 0))), ((1, [], [(2957515, .inl (0, .ofNat 1))], [], [], [8, 10, 11, 12, 13, 14, 15, 16, 17, 18, 19, 21, 22, 23, 24, 25]), some (.inl (0, .ofNat 1)))])
def jxm_c80_n184_0 : List jc_Nd := [(8, none, (1, [], [(2957515, .inl (0, .ofNat 0))], [], [], [8, 10, 11, 12, 13, 15, 16, 17, 18, 19, 21, 22, 23, 24, 25]), [(0, .inr (some (some 359))), (1, .inl (0, .ofNat 0)), (2, .inl (0, .ofNat 0))]),
    (7, none, (1, [], [(2957515, .inl (0, .ofNat 0))], [], [], [8, 10, 11, 12, 13, 15, 16, 17, 18, 19, 21, 22, 23, 24, 25]), [(0, .inr (some (some 359))), (1, .inl (0, .ofNat 0)), (2, .inl (0, .ofNat 1))]),
    (6, none, (1, [], [(2957515, .inl (0, .ofNat 0))], [], [], [8, 10, 11, 12, 13, 15, 16, 17, 18, 19, 21, 22, 23, 24, 25]), [(0, .inr (some (some 359))), (1, .inl (0, .ofNat 0)), (2, .inl (0, .ofNat 2))]),
    (5, none, (1, [], [(2957515, .inl (0, .ofNat 0))], [], [], [8, 10, 11, 12, 13, 15, 16, 17, 18, 19, 21, 22, 23, 24, 25]), [(0, .inr (some (some 359))), (1, .inl (0, .ofNat 0)), (2, .inl (0, .ofNat 3))]),
    (4, none, (1, [], [(2957515, .inl (0, .ofNat 0))], [], [], [8, 10, 11, 12, 13, 15, 16, 17, 18, 19, 21, 22, 23, 24, 25]), [(0, .inr (some (some 359))), (1, .inl (0, .ofNat 0)), (2, .inl (0, .ofNat 4))]),
    (3, none, (1, [], [(2957515, .inl (0, .ofNat 0))], [], [], [8, 10, 11, 12, 13, 15, 16, 17, 18, 19, 21, 22, 23, 24, 25]), [(0, .inr (some (some 359))), (1, .inl (0, .ofNat 0)), (2, .inl (0, .ofNat 5))]),
    (2, none, (1, [], [(2957515, .inl (0, .ofNat 0))], [], [], [8, 10, 11, 12, 13, 15, 16, 17, 18, 19, 21, 22, 23, 24, 25]), [(0, .inr (some (some 359))), (1, .inl (0, .ofNat 0)), (2, .inl (0, .ofNat 6))]),
    (1, none, (1, [], [(2957515, .inl (0, .ofNat 0))], [], [], [8, 10, 11, 12, 13, 15, 16, 17, 18, 19, 21, 22, 23, 24, 25]), [(0, .inr (some (some 359))), (1, .inl (0, .ofNat 0)), (2, .inl (0, .ofNat 7))])]
def jxm_c80_N : jc_Nt := [none,
  none,
  none,
  none,
  none,
  none,
  none,
  none,
  none,
  none,
  none,
  some [none, none, none, none, none, none, none, none, some (jxm_c80_n184_0), none, none, none, none, none, none, none]]
noncomputable def jxm_c80_Z : jc_Ce := (jxm, [], jT, [jxm_c48, jxm_c50, jxm_c60, jxm_c61, jxm_c62, jxm_c63, jxm_c49, jxm_c51], jxm_S11, jxm_c80_N, .ofNat 100000)
set_option maxRecDepth 1000000 in
theorem jxm_c80_k184_0 : jc_ndc jxm_c80_Z 100000 jxm_c80 184 jxm_c80_n184_0 = true := by decide +kernel
end Jjxm18

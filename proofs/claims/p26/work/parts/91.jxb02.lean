/-! contracts of the class, told in B (2); written by wip/jc/e4.py -/
section Jjxb2
variable {X : J_H → Prop}
-- now.B.nextDue
def jxb_c10 : jc_Cn := (94, 0, [.inr (some (some 4)), .inl (1, .ofNat 0)], (2, [(1, .negSucc 2147483647, .ofNat 2147483647)], [(32768, .inr (some (some 343)))], [], [], [1, 2, 3, 4, 5, 6, 7]), [], [((2, [(1, .negSucc 2147483647, .ofNat 2147483647)], [(32768, .inr (some (some 343)))], [], [], [1, 2, 3, 4, 5, 6, 7]), some (.inl (1, .ofNat 0)))])
def jxb_c10_N : jc_Nt := [some [none, none, none, none, some ([(6, none, (3, [(1, .negSucc 2147483647, .ofNat 2147483647), (2, .negSucc 2147483647, .ofNat 2147483647)], [(32768, .inr (some (some 343)))], [], [], [1, 2, 3, 4, 5, 6, 7]), [(0, .inr (some (some 4))), (1, .inl (1, .ofNat 0)), (2, .inl (2, .ofNat 0)), (3, .inl (0, .ofNat 0))]),
    (5, none, (3, [(1, .negSucc 2147483647, .ofNat 2147483647), (2, .negSucc 2147483647, .ofNat 2147483647)], [(32768, .inr (some (some 343)))], [], [], [1, 2, 3, 4, 5, 6, 7]), [(0, .inr (some (some 4))), (1, .inl (1, .ofNat 0)), (2, .inl (2, .ofNat 0)), (3, .inl (0, .ofNat 1))]),
    (4, none, (3, [(1, .negSucc 2147483647, .ofNat 2147483647), (2, .negSucc 2147483647, .ofNat 2147483647)], [(32768, .inr (some (some 343)))], [], [], [1, 2, 3, 4, 5, 6, 7]), [(0, .inr (some (some 4))), (1, .inl (1, .ofNat 0)), (2, .inl (2, .ofNat 0)), (3, .inl (0, .ofNat 2))]),
    (3, none, (3, [(1, .negSucc 2147483647, .ofNat 2147483647), (2, .negSucc 2147483647, .ofNat 2147483647)], [(32768, .inr (some (some 343)))], [], [], [1, 2, 3, 4, 5, 6, 7]), [(0, .inr (some (some 4))), (1, .inl (1, .ofNat 0)), (2, .inl (2, .ofNat 0)), (3, .inl (0, .ofNat 3))]),
    (2, none, (3, [(1, .negSucc 2147483647, .ofNat 2147483647), (2, .negSucc 2147483647, .ofNat 2147483647)], [(32768, .inr (some (some 343)))], [], [], [1, 2, 3, 4, 5, 6, 7]), [(0, .inr (some (some 4))), (1, .inl (1, .ofNat 0)), (2, .inl (2, .ofNat 0)), (3, .inl (0, .ofNat 4))]),
    (1, none, (3, [(1, .negSucc 2147483647, .ofNat 2147483647), (2, .negSucc 2147483647, .ofNat 2147483647)], [(32768, .inr (some (some 343)))], [], [], [1, 2, 3, 4, 5, 6, 7]), [(0, .inr (some (some 4))), (1, .inl (1, .ofNat 0)), (2, .inl (2, .ofNat 0)), (3, .inl (0, .ofNat 5))])]), none, none, none, none, none, none, none, none, none, none, none]]
set_option maxRecDepth 1000000 in
theorem jxb_c10_ok (hX : jc_Xo jxb X) : jc_Con jP jxb X jxb_c10 := jc_mth_ok (Z := (jxb, [], jT, [], jxb_SP, jxb_c10_N, .ofNat 100000)) (f := 100000) jxb_ok hX jT_ok jc_c0 (by decide +kernel)
-- now.B.isKept
def jxb_c11 : jc_Cn := (89, 1, [.inr (some (some 4)), .inl (1, .ofNat 0)], (2, [(1, .ofNat 0, .ofNat 4)], [(32768, .inr (some (some 343)))], [], [], [1, 2, 3, 4, 5, 6, 7]), [], [((2, [(1, .ofNat 0, .ofNat 1)], [(32768, .inr (some (some 343)))], [], [], [1, 2, 3, 4, 5, 6, 7]), some (.inl (1, .ofNat 0)))])
def jxb_c11_N : jc_Nt := [some [none, none, some ([(5, none, (2, [(1, .ofNat 0, .ofNat 4)], [(32768, .inr (some (some 343)))], [], [], [1, 2, 3, 4, 5, 6, 7]), [(0, .inr (some (some 4))), (1, .inl (1, .ofNat 0)), (2, .inl (0, .ofNat 0))]),
    (4, none, (2, [(1, .ofNat 0, .ofNat 4)], [(32768, .inr (some (some 343)))], [], [], [1, 2, 3, 4, 5, 6, 7]), [(0, .inr (some (some 4))), (1, .inl (1, .ofNat 0)), (2, .inl (0, .ofNat 1))]),
    (3, none, (2, [(1, .ofNat 0, .ofNat 4)], [(32768, .inr (some (some 343)))], [], [], [1, 2, 3, 4, 5, 6, 7]), [(0, .inr (some (some 4))), (1, .inl (1, .ofNat 0)), (2, .inl (0, .ofNat 2))]),
    (2, none, (2, [(1, .ofNat 0, .ofNat 4)], [(32768, .inr (some (some 343)))], [], [], [1, 2, 3, 4, 5, 6, 7]), [(0, .inr (some (some 4))), (1, .inl (1, .ofNat 0)), (2, .inl (0, .ofNat 3))]),
    (1, none, (2, [(1, .ofNat 0, .ofNat 4)], [(32768, .inr (some (some 343)))], [], [], [1, 2, 3, 4, 5, 6, 7]), [(0, .inr (some (some 4))), (1, .inl (1, .ofNat 0)), (2, .inl (0, .ofNat 4))])]), none, none, none, none, none, none, none, none, none, none, none, none, none]]
set_option maxRecDepth 1000000 in
theorem jxb_c11_ok (hX : jc_Xo jxb X) : jc_Con jP jxb X jxb_c11 := jc_mth_ok (Z := (jxb, [], jT, [], jxb_SP, jxb_c11_N, .ofNat 100000)) (f := 100000) jxb_ok hX jT_ok jc_c0 (by decide +kernel)
-- now.B.targetO0
def jxb_c12 : jc_Cn := (85, 1, [.inr (some (some 4)), .inl (0, .ofNat 0)], (2, [(1, .ofNat 1, .ofNat 5)], [(32768, .inr (some (some 343))), (57344, .inl (0, .ofNat 0)), (2809861, .inl (1, .ofNat 0))], [], [], [1, 3, 4, 5, 6, 7]), [], [((3, [(1, .negSucc 0, .ofNat 20), (2, .ofNat 1, .ofNat 5)], [(32768, .inr (some (some 343))), (57344, .inl (0, .ofNat 0)), (2809861, .inl (2, .ofNat 0))], [], [], [1, 3, 4, 5, 6, 7]), some (.inl (1, .ofNat 0)))])
def jxb_c12_N : jc_Nt := []
set_option maxRecDepth 1000000 in
theorem jxb_c12_ok (hX : jc_Xo jxb X) : jc_Con jP jxb X jxb_c12 := jc_mth_ok (Z := (jxb, [], jT, [jxb_c8], jxb_SP, jxb_c12_N, .ofNat 100000)) (f := 100000) jxb_ok hX jT_ok (jc_c1 (jxb_c8_ok hX) jc_c0) (by decide +kernel)
-- now.B.targetI0
def jxb_c13 : jc_Cn := (85, 1, [.inr (some (some 4)), .inl (0, .ofNat 0)], (2, [(1, .ofNat 1, .ofNat 5)], [(32768, .inr (some (some 343))), (57344, .inl (0, .ofNat 1)), (2809861, .inl (1, .ofNat 0))], [], [], [1, 3, 4, 5, 6, 7]), [], [((3, [(1, .negSucc 1, .ofNat 21), (2, .ofNat 1, .ofNat 5)], [(32768, .inr (some (some 343))), (57344, .inl (0, .ofNat 1)), (2809861, .inl (2, .ofNat 0))], [], [], [1, 3, 4, 5, 6, 7]), some (.inl (1, .ofNat 0)))])
def jxb_c13_N : jc_Nt := []
set_option maxRecDepth 1000000 in
theorem jxb_c13_ok (hX : jc_Xo jxb X) : jc_Con jP jxb X jxb_c13 := jc_mth_ok (Z := (jxb, [], jT, [jxb_c8], jxb_SP, jxb_c13_N, .ofNat 100000)) (f := 100000) jxb_ok hX jT_ok (jc_c1 (jxb_c8_ok hX) jc_c0) (by decide +kernel)
-- now.B.targetB0
def jxb_c14 : jc_Cn := (85, 1, [.inr (some (some 4)), .inl (0, .ofNat 0)], (3, [(1, .ofNat 1, .ofNat 5), (2, .ofNat 0, .ofNat 1)], [(32768, .inr (some (some 343))), (57344, .inl (2, .ofNat 0)), (2809861, .inl (1, .ofNat 0))], [], [], [1, 3, 4, 5, 6, 7]), [], [((4, [(1, .negSucc 1, .ofNat 21), (2, .ofNat 0, .ofNat 1), (3, .ofNat 1, .ofNat 5)], [(32768, .inr (some (some 343))), (57344, .inl (2, .ofNat 0)), (2809861, .inl (3, .ofNat 0))], [], [], [1, 3, 4, 5, 6, 7]), some (.inl (1, .ofNat 0)))])
def jxb_c14_N : jc_Nt := []
set_option maxRecDepth 1000000 in
theorem jxb_c14_ok (hX : jc_Xo jxb X) : jc_Con jP jxb X jxb_c14 := jc_mth_ok (Z := (jxb, [], jT, [jxb_c8], jxb_SP, jxb_c14_N, .ofNat 100000)) (f := 100000) jxb_ok hX jT_ok (jc_c1 (jxb_c8_ok hX) jc_c0) (by decide +kernel)
-- now.B.targetO1
def jxb_c15 : jc_Cn := (85, 1, [.inr (some (some 4)), .inl (0, .ofNat 1)], (2, [(1, .ofNat 2, .ofNat 5)], [(32768, .inr (some (some 343))), (57345, .inl (0, .ofNat 0)), (2809861, .inl (1, .ofNat 0))], [], [], [1, 3, 4, 5, 6, 7]), [], [((3, [(1, .negSucc 0, .ofNat 20), (2, .ofNat 2, .ofNat 5)], [(32768, .inr (some (some 343))), (57345, .inl (0, .ofNat 0)), (2809861, .inl (2, .ofNat 0))], [], [], [1, 3, 4, 5, 6, 7]), some (.inl (1, .ofNat 0)))])
def jxb_c15_N : jc_Nt := []
set_option maxRecDepth 1000000 in
theorem jxb_c15_ok (hX : jc_Xo jxb X) : jc_Con jP jxb X jxb_c15 := jc_mth_ok (Z := (jxb, [], jT, [jxb_c8], jxb_SP, jxb_c15_N, .ofNat 100000)) (f := 100000) jxb_ok hX jT_ok (jc_c1 (jxb_c8_ok hX) jc_c0) (by decide +kernel)
-- now.B.targetI1
def jxb_c16 : jc_Cn := (85, 1, [.inr (some (some 4)), .inl (0, .ofNat 1)], (2, [(1, .ofNat 2, .ofNat 5)], [(32768, .inr (some (some 343))), (57345, .inl (0, .ofNat 1)), (2809861, .inl (1, .ofNat 0))], [], [], [1, 3, 4, 5, 6, 7]), [], [((3, [(1, .negSucc 1, .ofNat 21), (2, .ofNat 2, .ofNat 5)], [(32768, .inr (some (some 343))), (57345, .inl (0, .ofNat 1)), (2809861, .inl (2, .ofNat 0))], [], [], [1, 3, 4, 5, 6, 7]), some (.inl (1, .ofNat 0)))])
def jxb_c16_N : jc_Nt := []
set_option maxRecDepth 1000000 in
theorem jxb_c16_ok (hX : jc_Xo jxb X) : jc_Con jP jxb X jxb_c16 := jc_mth_ok (Z := (jxb, [], jT, [jxb_c8], jxb_SP, jxb_c16_N, .ofNat 100000)) (f := 100000) jxb_ok hX jT_ok (jc_c1 (jxb_c8_ok hX) jc_c0) (by decide +kernel)
-- now.B.targetB1
def jxb_c17 : jc_Cn := (85, 1, [.inr (some (some 4)), .inl (0, .ofNat 1)], (3, [(1, .ofNat 2, .ofNat 5), (2, .ofNat 0, .ofNat 1)], [(32768, .inr (some (some 343))), (57345, .inl (2, .ofNat 0)), (2809861, .inl (1, .ofNat 0))], [], [], [1, 3, 4, 5, 6, 7]), [], [((4, [(1, .negSucc 1, .ofNat 21), (2, .ofNat 0, .ofNat 1), (3, .ofNat 2, .ofNat 5)], [(32768, .inr (some (some 343))), (57345, .inl (2, .ofNat 0)), (2809861, .inl (3, .ofNat 0))], [], [], [1, 3, 4, 5, 6, 7]), some (.inl (1, .ofNat 0)))])
def jxb_c17_N : jc_Nt := []
set_option maxRecDepth 1000000 in
theorem jxb_c17_ok (hX : jc_Xo jxb X) : jc_Con jP jxb X jxb_c17 := jc_mth_ok (Z := (jxb, [], jT, [jxb_c8], jxb_SP, jxb_c17_N, .ofNat 100000)) (f := 100000) jxb_ok hX jT_ok (jc_c1 (jxb_c8_ok hX) jc_c0) (by decide +kernel)
-- now.B.targetO2
def jxb_c18 : jc_Cn := (85, 1, [.inr (some (some 4)), .inl (0, .ofNat 2)], (2, [(1, .ofNat 3, .ofNat 5)], [(32768, .inr (some (some 343))), (57346, .inl (0, .ofNat 0)), (2809861, .inl (1, .ofNat 0))], [], [], [1, 3, 4, 5, 6, 7]), [], [((3, [(1, .negSucc 0, .ofNat 20), (2, .ofNat 3, .ofNat 5)], [(32768, .inr (some (some 343))), (57346, .inl (0, .ofNat 0)), (2809861, .inl (2, .ofNat 0))], [], [], [1, 3, 4, 5, 6, 7]), some (.inl (1, .ofNat 0)))])
def jxb_c18_N : jc_Nt := []
set_option maxRecDepth 1000000 in
theorem jxb_c18_ok (hX : jc_Xo jxb X) : jc_Con jP jxb X jxb_c18 := jc_mth_ok (Z := (jxb, [], jT, [jxb_c8], jxb_SP, jxb_c18_N, .ofNat 100000)) (f := 100000) jxb_ok hX jT_ok (jc_c1 (jxb_c8_ok hX) jc_c0) (by decide +kernel)
-- now.B.targetI2
def jxb_c19 : jc_Cn := (85, 1, [.inr (some (some 4)), .inl (0, .ofNat 2)], (2, [(1, .ofNat 3, .ofNat 5)], [(32768, .inr (some (some 343))), (57346, .inl (0, .ofNat 1)), (2809861, .inl (1, .ofNat 0))], [], [], [1, 3, 4, 5, 6, 7]), [], [((3, [(1, .negSucc 1, .ofNat 21), (2, .ofNat 3, .ofNat 5)], [(32768, .inr (some (some 343))), (57346, .inl (0, .ofNat 1)), (2809861, .inl (2, .ofNat 0))], [], [], [1, 3, 4, 5, 6, 7]), some (.inl (1, .ofNat 0)))])
def jxb_c19_N : jc_Nt := []
set_option maxRecDepth 1000000 in
theorem jxb_c19_ok (hX : jc_Xo jxb X) : jc_Con jP jxb X jxb_c19 := jc_mth_ok (Z := (jxb, [], jT, [jxb_c8], jxb_SP, jxb_c19_N, .ofNat 100000)) (f := 100000) jxb_ok hX jT_ok (jc_c1 (jxb_c8_ok hX) jc_c0) (by decide +kernel)
-- now.B.targetB2
def jxb_c20 : jc_Cn := (85, 1, [.inr (some (some 4)), .inl (0, .ofNat 2)], (3, [(1, .ofNat 3, .ofNat 5), (2, .ofNat 0, .ofNat 1)], [(32768, .inr (some (some 343))), (57346, .inl (2, .ofNat 0)), (2809861, .inl (1, .ofNat 0))], [], [], [1, 3, 4, 5, 6, 7]), [], [((4, [(1, .negSucc 1, .ofNat 21), (2, .ofNat 0, .ofNat 1), (3, .ofNat 3, .ofNat 5)], [(32768, .inr (some (some 343))), (57346, .inl (2, .ofNat 0)), (2809861, .inl (3, .ofNat 0))], [], [], [1, 3, 4, 5, 6, 7]), some (.inl (1, .ofNat 0)))])
def jxb_c20_N : jc_Nt := []
set_option maxRecDepth 1000000 in
theorem jxb_c20_ok (hX : jc_Xo jxb X) : jc_Con jP jxb X jxb_c20 := jc_mth_ok (Z := (jxb, [], jT, [jxb_c8], jxb_SP, jxb_c20_N, .ofNat 100000)) (f := 100000) jxb_ok hX jT_ok (jc_c1 (jxb_c8_ok hX) jc_c0) (by decide +kernel)
-- now.B.targetO3
def jxb_c21 : jc_Cn := (85, 1, [.inr (some (some 4)), .inl (0, .ofNat 3)], (2, [(1, .ofNat 4, .ofNat 5)], [(32768, .inr (some (some 343))), (57347, .inl (0, .ofNat 0)), (2809861, .inl (1, .ofNat 0))], [], [], [1, 3, 4, 5, 6, 7]), [], [((3, [(1, .negSucc 0, .ofNat 20), (2, .ofNat 4, .ofNat 5)], [(32768, .inr (some (some 343))), (57347, .inl (0, .ofNat 0)), (2809861, .inl (2, .ofNat 0))], [], [], [1, 3, 4, 5, 6, 7]), some (.inl (1, .ofNat 0)))])
def jxb_c21_N : jc_Nt := []
set_option maxRecDepth 1000000 in
theorem jxb_c21_ok (hX : jc_Xo jxb X) : jc_Con jP jxb X jxb_c21 := jc_mth_ok (Z := (jxb, [], jT, [jxb_c8], jxb_SP, jxb_c21_N, .ofNat 100000)) (f := 100000) jxb_ok hX jT_ok (jc_c1 (jxb_c8_ok hX) jc_c0) (by decide +kernel)
-- now.B.targetI3
def jxb_c22 : jc_Cn := (85, 1, [.inr (some (some 4)), .inl (0, .ofNat 3)], (2, [(1, .ofNat 4, .ofNat 5)], [(32768, .inr (some (some 343))), (57347, .inl (0, .ofNat 1)), (2809861, .inl (1, .ofNat 0))], [], [], [1, 3, 4, 5, 6, 7]), [], [((3, [(1, .negSucc 1, .ofNat 21), (2, .ofNat 4, .ofNat 5)], [(32768, .inr (some (some 343))), (57347, .inl (0, .ofNat 1)), (2809861, .inl (2, .ofNat 0))], [], [], [1, 3, 4, 5, 6, 7]), some (.inl (1, .ofNat 0)))])
def jxb_c22_N : jc_Nt := []
set_option maxRecDepth 1000000 in
theorem jxb_c22_ok (hX : jc_Xo jxb X) : jc_Con jP jxb X jxb_c22 := jc_mth_ok (Z := (jxb, [], jT, [jxb_c8], jxb_SP, jxb_c22_N, .ofNat 100000)) (f := 100000) jxb_ok hX jT_ok (jc_c1 (jxb_c8_ok hX) jc_c0) (by decide +kernel)
-- now.B.targetB3
def jxb_c23 : jc_Cn := (85, 1, [.inr (some (some 4)), .inl (0, .ofNat 3)], (3, [(1, .ofNat 4, .ofNat 5), (2, .ofNat 0, .ofNat 1)], [(32768, .inr (some (some 343))), (57347, .inl (2, .ofNat 0)), (2809861, .inl (1, .ofNat 0))], [], [], [1, 3, 4, 5, 6, 7]), [], [((4, [(1, .negSucc 1, .ofNat 21), (2, .ofNat 0, .ofNat 1), (3, .ofNat 4, .ofNat 5)], [(32768, .inr (some (some 343))), (57347, .inl (2, .ofNat 0)), (2809861, .inl (3, .ofNat 0))], [], [], [1, 3, 4, 5, 6, 7]), some (.inl (1, .ofNat 0)))])
def jxb_c23_N : jc_Nt := []
set_option maxRecDepth 1000000 in
theorem jxb_c23_ok (hX : jc_Xo jxb X) : jc_Con jP jxb X jxb_c23 := jc_mth_ok (Z := (jxb, [], jT, [jxb_c8], jxb_SP, jxb_c23_N, .ofNat 100000)) (f := 100000) jxb_ok hX jT_ok (jc_c1 (jxb_c8_ok hX) jc_c0) (by decide +kernel)
-- now.B.targetO4
def jxb_c24 : jc_Cn := (85, 1, [.inr (some (some 4)), .inl (0, .ofNat 4)], (2, [(1, .ofNat 5, .ofNat 5)], [(32768, .inr (some (some 343))), (57348, .inl (0, .ofNat 0)), (2809861, .inl (1, .ofNat 0))], [], [], [1, 3, 4, 5, 6, 7]), [], [((2, [(1, .negSucc 0, .ofNat 20)], [(32768, .inr (some (some 343))), (57348, .inl (0, .ofNat 0)), (2809861, .inl (0, .ofNat 5))], [], [], [1, 3, 4, 5, 6, 7]), some (.inl (1, .ofNat 0)))])
def jxb_c24_N : jc_Nt := []
set_option maxRecDepth 1000000 in
theorem jxb_c24_ok (hX : jc_Xo jxb X) : jc_Con jP jxb X jxb_c24 := jc_mth_ok (Z := (jxb, [], jT, [jxb_c8], jxb_SP, jxb_c24_N, .ofNat 100000)) (f := 100000) jxb_ok hX jT_ok (jc_c1 (jxb_c8_ok hX) jc_c0) (by decide +kernel)
-- now.B.targetI4
def jxb_c25 : jc_Cn := (85, 1, [.inr (some (some 4)), .inl (0, .ofNat 4)], (2, [(1, .ofNat 5, .ofNat 5)], [(32768, .inr (some (some 343))), (57348, .inl (0, .ofNat 1)), (2809861, .inl (1, .ofNat 0))], [], [], [1, 3, 4, 5, 6, 7]), [], [((2, [(1, .negSucc 1, .ofNat 21)], [(32768, .inr (some (some 343))), (57348, .inl (0, .ofNat 1)), (2809861, .inl (0, .ofNat 5))], [], [], [1, 3, 4, 5, 6, 7]), some (.inl (1, .ofNat 0)))])
def jxb_c25_N : jc_Nt := []
set_option maxRecDepth 1000000 in
theorem jxb_c25_ok (hX : jc_Xo jxb X) : jc_Con jP jxb X jxb_c25 := jc_mth_ok (Z := (jxb, [], jT, [jxb_c8], jxb_SP, jxb_c25_N, .ofNat 100000)) (f := 100000) jxb_ok hX jT_ok (jc_c1 (jxb_c8_ok hX) jc_c0) (by decide +kernel)
-- now.B.targetB4
def jxb_c26 : jc_Cn := (85, 1, [.inr (some (some 4)), .inl (0, .ofNat 4)], (3, [(1, .ofNat 5, .ofNat 5), (2, .ofNat 0, .ofNat 1)], [(32768, .inr (some (some 343))), (57348, .inl (2, .ofNat 0)), (2809861, .inl (1, .ofNat 0))], [], [], [1, 3, 4, 5, 6, 7]), [], [((3, [(1, .negSucc 1, .ofNat 21), (2, .ofNat 0, .ofNat 1)], [(32768, .inr (some (some 343))), (57348, .inl (2, .ofNat 0)), (2809861, .inl (0, .ofNat 5))], [], [], [1, 3, 4, 5, 6, 7]), some (.inl (1, .ofNat 0)))])
def jxb_c26_N : jc_Nt := []
set_option maxRecDepth 1000000 in
theorem jxb_c26_ok (hX : jc_Xo jxb X) : jc_Con jP jxb X jxb_c26 := jc_mth_ok (Z := (jxb, [], jT, [jxb_c8], jxb_SP, jxb_c26_N, .ofNat 100000)) (f := 100000) jxb_ok hX jT_ok (jc_c1 (jxb_c8_ok hX) jc_c0) (by decide +kernel)
-- now.B.waitsFor0
def jxb_c27 : jc_Cn := (81, 3, [.inr (some (some 4)), .inl (0, .ofNat 0)], (2, [(1, .ofNat 1, .ofNat 5)], [(32768, .inr (some (some 343))), (2809861, .inl (1, .ofNat 0))], [], [], [1, 3, 4, 5, 6, 7]), [], [((3, [(1, .negSucc 2147483647, .ofNat 2147483647), (2, .ofNat 1, .ofNat 5)], [(32768, .inr (some (some 343))), (2809861, .inl (2, .ofNat 0))], [], [], [1, 3, 4, 5, 6, 7]), some (.inl (1, .ofNat 0)))])
def jxb_c27_N : jc_Nt := [none,
  none,
  none,
  none,
  some [none, none, none, none, none, some ([(6, none, (3, [(1, .negSucc 2147483647, .ofNat 2147483647), (2, .ofNat 1, .ofNat 5)], [(32768, .inr (some (some 343))), (2809861, .inl (2, .ofNat 0))], [], [], [1, 3, 4, 5, 6, 7]), [(0, .inr (some (some 4))), (1, .inl (0, .ofNat 0)), (2, .inl (0, .negSucc 0)), (3, .inl (1, .ofNat 0)), (4, .inl (0, .ofNat 0)), (5, .inl (0, .ofNat 0))]),
    (5, none, (4, [(1, .negSucc 2147483647, .ofNat 2147483647), (2, .ofNat 0, .ofNat 1), (3, .ofNat 1, .ofNat 5)], [(32768, .inr (some (some 343))), (2809861, .inl (3, .ofNat 0))], [], [], [1, 3, 4, 5, 6, 7]), [(0, .inr (some (some 4))), (1, .inl (0, .ofNat 0)), (2, .inl (0, .negSucc 0)), (3, .inl (1, .ofNat 0)), (4, .inl (2, .ofNat 0)), (5, .inl (0, .ofNat 1))]),
    (4, none, (4, [(1, .negSucc 2147483647, .ofNat 2147483647), (2, .ofNat 0, .ofNat 127), (3, .ofNat 2, .ofNat 5)], [(32768, .inr (some (some 343))), (2809861, .inl (3, .ofNat 0))], [], [], [1, 3, 4, 5, 6, 7]), [(0, .inr (some (some 4))), (1, .inl (0, .ofNat 0)), (2, .inl (0, .negSucc 0)), (3, .inl (1, .ofNat 0)), (4, .inl (2, .ofNat 0)), (5, .inl (0, .ofNat 2))]),
    (3, none, (4, [(1, .negSucc 2147483647, .ofNat 2147483647), (2, .ofNat 0, .ofNat 127), (3, .ofNat 3, .ofNat 5)], [(32768, .inr (some (some 343))), (2809861, .inl (3, .ofNat 0))], [], [], [1, 3, 4, 5, 6, 7]), [(0, .inr (some (some 4))), (1, .inl (0, .ofNat 0)), (2, .inl (0, .negSucc 0)), (3, .inl (1, .ofNat 0)), (4, .inl (2, .ofNat 0)), (5, .inl (0, .ofNat 3))]),
    (2, none, (4, [(1, .negSucc 2147483647, .ofNat 2147483647), (2, .ofNat 0, .ofNat 127), (3, .ofNat 4, .ofNat 5)], [(32768, .inr (some (some 343))), (2809861, .inl (3, .ofNat 0))], [], [], [1, 3, 4, 5, 6, 7]), [(0, .inr (some (some 4))), (1, .inl (0, .ofNat 0)), (2, .inl (0, .negSucc 0)), (3, .inl (1, .ofNat 0)), (4, .inl (2, .ofNat 0)), (5, .inl (0, .ofNat 4))]),
    (1, none, (3, [(1, .negSucc 2147483647, .ofNat 2147483647), (2, .ofNat 0, .ofNat 127)], [(32768, .inr (some (some 343))), (2809861, .inl (0, .ofNat 5))], [], [], [1, 3, 4, 5, 6, 7]), [(0, .inr (some (some 4))), (1, .inl (0, .ofNat 0)), (2, .inl (0, .negSucc 0)), (3, .inl (1, .ofNat 0)), (4, .inl (2, .ofNat 0)), (5, .inl (0, .ofNat 5))])]), none, none, none, none, none, none, none, none, none, none]]
set_option maxRecDepth 1000000 in
theorem jxb_c27_ok (hX : jc_Xo jxb X) : jc_Con jP jxb X jxb_c27 := jc_mth_ok (Z := (jxb, [], jT, [jxb_c13], jxb_SP, jxb_c27_N, .ofNat 100000)) (f := 100000) jxb_ok hX jT_ok (jc_c1 (jxb_c13_ok hX) jc_c0) (by decide +kernel)
-- now.B.waitsFor1
def jxb_c28 : jc_Cn := (81, 3, [.inr (some (some 4)), .inl (0, .ofNat 1)], (2, [(1, .ofNat 2, .ofNat 5)], [(32768, .inr (some (some 343))), (2809861, .inl (1, .ofNat 0))], [], [], [1, 3, 4, 5, 6, 7]), [], [((3, [(1, .negSucc 2147483647, .ofNat 2147483647), (2, .ofNat 2, .ofNat 5)], [(32768, .inr (some (some 343))), (2809861, .inl (2, .ofNat 0))], [], [], [1, 3, 4, 5, 6, 7]), some (.inl (1, .ofNat 0)))])
def jxb_c28_N : jc_Nt := [none,
  none,
  none,
  none,
  some [none, none, none, none, none, some ([(6, none, (3, [(1, .negSucc 2147483647, .ofNat 2147483647), (2, .ofNat 2, .ofNat 5)], [(32768, .inr (some (some 343))), (2809861, .inl (2, .ofNat 0))], [], [], [1, 3, 4, 5, 6, 7]), [(0, .inr (some (some 4))), (1, .inl (0, .ofNat 1)), (2, .inl (0, .negSucc 0)), (3, .inl (1, .ofNat 0)), (4, .inl (0, .ofNat 0)), (5, .inl (0, .ofNat 0))]),
    (5, none, (4, [(1, .negSucc 2147483647, .ofNat 2147483647), (2, .ofNat 0, .ofNat 1), (3, .ofNat 2, .ofNat 5)], [(32768, .inr (some (some 343))), (2809861, .inl (3, .ofNat 0))], [], [], [1, 3, 4, 5, 6, 7]), [(0, .inr (some (some 4))), (1, .inl (0, .ofNat 1)), (2, .inl (0, .negSucc 0)), (3, .inl (1, .ofNat 0)), (4, .inl (2, .ofNat 0)), (5, .inl (0, .ofNat 1))]),
    (4, none, (4, [(1, .negSucc 2147483647, .ofNat 2147483647), (2, .ofNat 0, .ofNat 127), (3, .ofNat 2, .ofNat 5)], [(32768, .inr (some (some 343))), (2809861, .inl (3, .ofNat 0))], [], [], [1, 3, 4, 5, 6, 7]), [(0, .inr (some (some 4))), (1, .inl (0, .ofNat 1)), (2, .inl (0, .negSucc 0)), (3, .inl (1, .ofNat 0)), (4, .inl (2, .ofNat 0)), (5, .inl (0, .ofNat 2))]),
    (3, none, (4, [(1, .negSucc 2147483647, .ofNat 2147483647), (2, .ofNat 0, .ofNat 127), (3, .ofNat 3, .ofNat 5)], [(32768, .inr (some (some 343))), (2809861, .inl (3, .ofNat 0))], [], [], [1, 3, 4, 5, 6, 7]), [(0, .inr (some (some 4))), (1, .inl (0, .ofNat 1)), (2, .inl (0, .negSucc 0)), (3, .inl (1, .ofNat 0)), (4, .inl (2, .ofNat 0)), (5, .inl (0, .ofNat 3))]),
    (2, none, (4, [(1, .negSucc 2147483647, .ofNat 2147483647), (2, .ofNat 0, .ofNat 127), (3, .ofNat 4, .ofNat 5)], [(32768, .inr (some (some 343))), (2809861, .inl (3, .ofNat 0))], [], [], [1, 3, 4, 5, 6, 7]), [(0, .inr (some (some 4))), (1, .inl (0, .ofNat 1)), (2, .inl (0, .negSucc 0)), (3, .inl (1, .ofNat 0)), (4, .inl (2, .ofNat 0)), (5, .inl (0, .ofNat 4))]),
    (1, none, (3, [(1, .negSucc 2147483647, .ofNat 2147483647), (2, .ofNat 0, .ofNat 127)], [(32768, .inr (some (some 343))), (2809861, .inl (0, .ofNat 5))], [], [], [1, 3, 4, 5, 6, 7]), [(0, .inr (some (some 4))), (1, .inl (0, .ofNat 1)), (2, .inl (0, .negSucc 0)), (3, .inl (1, .ofNat 0)), (4, .inl (2, .ofNat 0)), (5, .inl (0, .ofNat 5))])]), none, none, none, none, none, none, none, none, none, none]]
set_option maxRecDepth 1000000 in
theorem jxb_c28_ok (hX : jc_Xo jxb X) : jc_Con jP jxb X jxb_c28 := jc_mth_ok (Z := (jxb, [], jT, [jxb_c16], jxb_SP, jxb_c28_N, .ofNat 100000)) (f := 100000) jxb_ok hX jT_ok (jc_c1 (jxb_c16_ok hX) jc_c0) (by decide +kernel)
-- now.B.waitsFor2
def jxb_c29 : jc_Cn := (81, 3, [.inr (some (some 4)), .inl (0, .ofNat 2)], (2, [(1, .ofNat 3, .ofNat 5)], [(32768, .inr (some (some 343))), (2809861, .inl (1, .ofNat 0))], [], [], [1, 3, 4, 5, 6, 7]), [], [((3, [(1, .negSucc 2147483647, .ofNat 2147483647), (2, .ofNat 3, .ofNat 5)], [(32768, .inr (some (some 343))), (2809861, .inl (2, .ofNat 0))], [], [], [1, 3, 4, 5, 6, 7]), some (.inl (1, .ofNat 0)))])
def jxb_c29_N : jc_Nt := [none,
  none,
  none,
  none,
  some [none, none, none, none, none, some ([(6, none, (3, [(1, .negSucc 2147483647, .ofNat 2147483647), (2, .ofNat 3, .ofNat 5)], [(32768, .inr (some (some 343))), (2809861, .inl (2, .ofNat 0))], [], [], [1, 3, 4, 5, 6, 7]), [(0, .inr (some (some 4))), (1, .inl (0, .ofNat 2)), (2, .inl (0, .negSucc 0)), (3, .inl (1, .ofNat 0)), (4, .inl (0, .ofNat 0)), (5, .inl (0, .ofNat 0))]),
    (5, none, (4, [(1, .negSucc 2147483647, .ofNat 2147483647), (2, .ofNat 0, .ofNat 1), (3, .ofNat 3, .ofNat 5)], [(32768, .inr (some (some 343))), (2809861, .inl (3, .ofNat 0))], [], [], [1, 3, 4, 5, 6, 7]), [(0, .inr (some (some 4))), (1, .inl (0, .ofNat 2)), (2, .inl (0, .negSucc 0)), (3, .inl (1, .ofNat 0)), (4, .inl (2, .ofNat 0)), (5, .inl (0, .ofNat 1))]),
    (4, none, (4, [(1, .negSucc 2147483647, .ofNat 2147483647), (2, .ofNat 0, .ofNat 127), (3, .ofNat 3, .ofNat 5)], [(32768, .inr (some (some 343))), (2809861, .inl (3, .ofNat 0))], [], [], [1, 3, 4, 5, 6, 7]), [(0, .inr (some (some 4))), (1, .inl (0, .ofNat 2)), (2, .inl (0, .negSucc 0)), (3, .inl (1, .ofNat 0)), (4, .inl (2, .ofNat 0)), (5, .inl (0, .ofNat 2))]),
    (3, none, (4, [(1, .negSucc 2147483647, .ofNat 2147483647), (2, .ofNat 0, .ofNat 127), (3, .ofNat 3, .ofNat 5)], [(32768, .inr (some (some 343))), (2809861, .inl (3, .ofNat 0))], [], [], [1, 3, 4, 5, 6, 7]), [(0, .inr (some (some 4))), (1, .inl (0, .ofNat 2)), (2, .inl (0, .negSucc 0)), (3, .inl (1, .ofNat 0)), (4, .inl (2, .ofNat 0)), (5, .inl (0, .ofNat 3))]),
    (2, none, (4, [(1, .negSucc 2147483647, .ofNat 2147483647), (2, .ofNat 0, .ofNat 127), (3, .ofNat 4, .ofNat 5)], [(32768, .inr (some (some 343))), (2809861, .inl (3, .ofNat 0))], [], [], [1, 3, 4, 5, 6, 7]), [(0, .inr (some (some 4))), (1, .inl (0, .ofNat 2)), (2, .inl (0, .negSucc 0)), (3, .inl (1, .ofNat 0)), (4, .inl (2, .ofNat 0)), (5, .inl (0, .ofNat 4))]),
    (1, none, (3, [(1, .negSucc 2147483647, .ofNat 2147483647), (2, .ofNat 0, .ofNat 127)], [(32768, .inr (some (some 343))), (2809861, .inl (0, .ofNat 5))], [], [], [1, 3, 4, 5, 6, 7]), [(0, .inr (some (some 4))), (1, .inl (0, .ofNat 2)), (2, .inl (0, .negSucc 0)), (3, .inl (1, .ofNat 0)), (4, .inl (2, .ofNat 0)), (5, .inl (0, .ofNat 5))])]), none, none, none, none, none, none, none, none, none, none]]
set_option maxRecDepth 1000000 in
theorem jxb_c29_ok (hX : jc_Xo jxb X) : jc_Con jP jxb X jxb_c29 := jc_mth_ok (Z := (jxb, [], jT, [jxb_c19], jxb_SP, jxb_c29_N, .ofNat 100000)) (f := 100000) jxb_ok hX jT_ok (jc_c1 (jxb_c19_ok hX) jc_c0) (by decide +kernel)
-- now.B.waitsFor3
def jxb_c30 : jc_Cn := (81, 3, [.inr (some (some 4)), .inl (0, .ofNat 3)], (2, [(1, .ofNat 4, .ofNat 5)], [(32768, .inr (some (some 343))), (2809861, .inl (1, .ofNat 0))], [], [], [1, 3, 4, 5, 6, 7]), [], [((3, [(1, .negSucc 2147483647, .ofNat 2147483647), (2, .ofNat 4, .ofNat 5)], [(32768, .inr (some (some 343))), (2809861, .inl (2, .ofNat 0))], [], [], [1, 3, 4, 5, 6, 7]), some (.inl (1, .ofNat 0)))])
def jxb_c30_N : jc_Nt := [none,
  none,
  none,
  none,
  some [none, none, none, none, none, some ([(6, none, (3, [(1, .negSucc 2147483647, .ofNat 2147483647), (2, .ofNat 4, .ofNat 5)], [(32768, .inr (some (some 343))), (2809861, .inl (2, .ofNat 0))], [], [], [1, 3, 4, 5, 6, 7]), [(0, .inr (some (some 4))), (1, .inl (0, .ofNat 3)), (2, .inl (0, .negSucc 0)), (3, .inl (1, .ofNat 0)), (4, .inl (0, .ofNat 0)), (5, .inl (0, .ofNat 0))]),
    (5, none, (4, [(1, .negSucc 2147483647, .ofNat 2147483647), (2, .ofNat 0, .ofNat 1), (3, .ofNat 4, .ofNat 5)], [(32768, .inr (some (some 343))), (2809861, .inl (3, .ofNat 0))], [], [], [1, 3, 4, 5, 6, 7]), [(0, .inr (some (some 4))), (1, .inl (0, .ofNat 3)), (2, .inl (0, .negSucc 0)), (3, .inl (1, .ofNat 0)), (4, .inl (2, .ofNat 0)), (5, .inl (0, .ofNat 1))]),
    (4, none, (4, [(1, .negSucc 2147483647, .ofNat 2147483647), (2, .ofNat 0, .ofNat 127), (3, .ofNat 4, .ofNat 5)], [(32768, .inr (some (some 343))), (2809861, .inl (3, .ofNat 0))], [], [], [1, 3, 4, 5, 6, 7]), [(0, .inr (some (some 4))), (1, .inl (0, .ofNat 3)), (2, .inl (0, .negSucc 0)), (3, .inl (1, .ofNat 0)), (4, .inl (2, .ofNat 0)), (5, .inl (0, .ofNat 2))]),
    (3, none, (4, [(1, .negSucc 2147483647, .ofNat 2147483647), (2, .ofNat 0, .ofNat 127), (3, .ofNat 4, .ofNat 5)], [(32768, .inr (some (some 343))), (2809861, .inl (3, .ofNat 0))], [], [], [1, 3, 4, 5, 6, 7]), [(0, .inr (some (some 4))), (1, .inl (0, .ofNat 3)), (2, .inl (0, .negSucc 0)), (3, .inl (1, .ofNat 0)), (4, .inl (2, .ofNat 0)), (5, .inl (0, .ofNat 3))]),
    (2, none, (4, [(1, .negSucc 2147483647, .ofNat 2147483647), (2, .ofNat 0, .ofNat 127), (3, .ofNat 4, .ofNat 5)], [(32768, .inr (some (some 343))), (2809861, .inl (3, .ofNat 0))], [], [], [1, 3, 4, 5, 6, 7]), [(0, .inr (some (some 4))), (1, .inl (0, .ofNat 3)), (2, .inl (0, .negSucc 0)), (3, .inl (1, .ofNat 0)), (4, .inl (2, .ofNat 0)), (5, .inl (0, .ofNat 4))]),
    (1, none, (3, [(1, .negSucc 2147483647, .ofNat 2147483647), (2, .ofNat 0, .ofNat 127)], [(32768, .inr (some (some 343))), (2809861, .inl (0, .ofNat 5))], [], [], [1, 3, 4, 5, 6, 7]), [(0, .inr (some (some 4))), (1, .inl (0, .ofNat 3)), (2, .inl (0, .negSucc 0)), (3, .inl (1, .ofNat 0)), (4, .inl (2, .ofNat 0)), (5, .inl (0, .ofNat 5))])]), none, none, none, none, none, none, none, none, none, none]]
set_option maxRecDepth 1000000 in
theorem jxb_c30_ok (hX : jc_Xo jxb X) : jc_Con jP jxb X jxb_c30 := jc_mth_ok (Z := (jxb, [], jT, [jxb_c22], jxb_SP, jxb_c30_N, .ofNat 100000)) (f := 100000) jxb_ok hX jT_ok (jc_c1 (jxb_c22_ok hX) jc_c0) (by decide +kernel)
-- now.B.waitsFor4
def jxb_c31 : jc_Cn := (81, 3, [.inr (some (some 4)), .inl (0, .ofNat 4)], (2, [(1, .ofNat 5, .ofNat 5)], [(32768, .inr (some (some 343))), (2809861, .inl (1, .ofNat 0))], [], [], [1, 3, 4, 5, 6, 7]), [], [((2, [(1, .negSucc 2147483647, .ofNat 2147483647)], [(32768, .inr (some (some 343))), (2809861, .inl (0, .ofNat 5))], [], [], [1, 3, 4, 5, 6, 7]), some (.inl (1, .ofNat 0)))])
def jxb_c31_N : jc_Nt := [none,
  none,
  none,
  none,
  some [none, none, none, none, none, some ([(6, none, (2, [(1, .negSucc 2147483647, .ofNat 2147483647)], [(32768, .inr (some (some 343))), (2809861, .inl (0, .ofNat 5))], [], [], [1, 3, 4, 5, 6, 7]), [(0, .inr (some (some 4))), (1, .inl (0, .ofNat 4)), (2, .inl (0, .negSucc 0)), (3, .inl (1, .ofNat 0)), (4, .inl (0, .ofNat 0)), (5, .inl (0, .ofNat 0))]),
    (5, none, (3, [(1, .negSucc 2147483647, .ofNat 2147483647), (2, .ofNat 0, .ofNat 1)], [(32768, .inr (some (some 343))), (2809861, .inl (0, .ofNat 5))], [], [], [1, 3, 4, 5, 6, 7]), [(0, .inr (some (some 4))), (1, .inl (0, .ofNat 4)), (2, .inl (0, .negSucc 0)), (3, .inl (1, .ofNat 0)), (4, .inl (2, .ofNat 0)), (5, .inl (0, .ofNat 1))]),
    (4, none, (3, [(1, .negSucc 2147483647, .ofNat 2147483647), (2, .ofNat 0, .ofNat 127)], [(32768, .inr (some (some 343))), (2809861, .inl (0, .ofNat 5))], [], [], [1, 3, 4, 5, 6, 7]), [(0, .inr (some (some 4))), (1, .inl (0, .ofNat 4)), (2, .inl (0, .negSucc 0)), (3, .inl (1, .ofNat 0)), (4, .inl (2, .ofNat 0)), (5, .inl (0, .ofNat 2))]),
    (3, none, (3, [(1, .negSucc 2147483647, .ofNat 2147483647), (2, .ofNat 0, .ofNat 127)], [(32768, .inr (some (some 343))), (2809861, .inl (0, .ofNat 5))], [], [], [1, 3, 4, 5, 6, 7]), [(0, .inr (some (some 4))), (1, .inl (0, .ofNat 4)), (2, .inl (0, .negSucc 0)), (3, .inl (1, .ofNat 0)), (4, .inl (2, .ofNat 0)), (5, .inl (0, .ofNat 3))]),
    (2, none, (3, [(1, .negSucc 2147483647, .ofNat 2147483647), (2, .ofNat 0, .ofNat 127)], [(32768, .inr (some (some 343))), (2809861, .inl (0, .ofNat 5))], [], [], [1, 3, 4, 5, 6, 7]), [(0, .inr (some (some 4))), (1, .inl (0, .ofNat 4)), (2, .inl (0, .negSucc 0)), (3, .inl (1, .ofNat 0)), (4, .inl (2, .ofNat 0)), (5, .inl (0, .ofNat 4))]),
    (1, none, (3, [(1, .negSucc 2147483647, .ofNat 2147483647), (2, .ofNat 0, .ofNat 127)], [(32768, .inr (some (some 343))), (2809861, .inl (0, .ofNat 5))], [], [], [1, 3, 4, 5, 6, 7]), [(0, .inr (some (some 4))), (1, .inl (0, .ofNat 4)), (2, .inl (0, .negSucc 0)), (3, .inl (1, .ofNat 0)), (4, .inl (2, .ofNat 0)), (5, .inl (0, .ofNat 5))])]), none, none, none, none, none, none, none, none, none, none]]
set_option maxRecDepth 1000000 in
theorem jxb_c31_ok (hX : jc_Xo jxb X) : jc_Con jP jxb X jxb_c31 := jc_mth_ok (Z := (jxb, [], jT, [jxb_c25], jxb_SP, jxb_c31_N, .ofNat 100000)) (f := 100000) jxb_ok hX jT_ok (jc_c1 (jxb_c25_ok hX) jc_c0) (by decide +kernel)
end Jjxb2

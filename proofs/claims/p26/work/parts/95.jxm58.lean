/-! contracts of the reference (58); written by wip/jc/e5.py -/
section Jjxm58
variable {X : J_H → Prop}
-- printsWord618
def jxm_c255 : jc_Cn := (292, 1, [.inr (some (some 359)), .inr none], (2, [(1, .ofNat 0, .ofNat 618)], [(2940955, .inl (1, .ofNat 0))], [], [], [9, 12, 13, 14, 15, 16, 17, 18, 21, 22, 23, 24, 25]), [(371, 0, 1400), (359, 27, 28)], [((2, [(1, .ofNat 0, .ofNat 627)], [(2940955, .inl (1, .ofNat 0))], [], [], [9, 12, 13, 14, 15, 16, 17, 18, 21, 22, 23, 24, 25]), none)])
def jxm_c255_N : jc_Nt := [some [none, none, none, some ([(10, none, (2, [(1, .ofNat 0, .ofNat 618)], [(2940955, .inl (1, .ofNat 0))], [], [], [9, 12, 13, 14, 15, 16, 17, 18, 21, 22, 23, 24, 25]), [(0, .inr (some (some 359))), (1, .inr none), (3, .inl (0, .ofNat 40))]),
    (9, none, (2, [(1, .ofNat 0, .ofNat 619)], [(2940955, .inl (1, .ofNat 0))], [], [], [9, 12, 13, 14, 15, 16, 17, 18, 21, 22, 23, 24, 25]), [(0, .inr (some (some 359))), (1, .inr none), (3, .inl (0, .ofNat 35))]),
    (8, none, (2, [(1, .ofNat 0, .ofNat 620)], [(2940955, .inl (1, .ofNat 0))], [], [], [9, 12, 13, 14, 15, 16, 17, 18, 21, 22, 23, 24, 25]), [(0, .inr (some (some 359))), (1, .inr none), (3, .inl (0, .ofNat 30))]),
    (7, none, (2, [(1, .ofNat 0, .ofNat 621)], [(2940955, .inl (1, .ofNat 0))], [], [], [9, 12, 13, 14, 15, 16, 17, 18, 21, 22, 23, 24, 25]), [(0, .inr (some (some 359))), (1, .inr none), (3, .inl (0, .ofNat 25))]),
    (6, none, (2, [(1, .ofNat 0, .ofNat 622)], [(2940955, .inl (1, .ofNat 0))], [], [], [9, 12, 13, 14, 15, 16, 17, 18, 21, 22, 23, 24, 25]), [(0, .inr (some (some 359))), (1, .inr none), (3, .inl (0, .ofNat 20))]),
    (5, none, (2, [(1, .ofNat 0, .ofNat 623)], [(2940955, .inl (1, .ofNat 0))], [], [], [9, 12, 13, 14, 15, 16, 17, 18, 21, 22, 23, 24, 25]), [(0, .inr (some (some 359))), (1, .inr none), (3, .inl (0, .ofNat 15))]),
    (4, none, (2, [(1, .ofNat 0, .ofNat 624)], [(2940955, .inl (1, .ofNat 0))], [], [], [9, 12, 13, 14, 15, 16, 17, 18, 21, 22, 23, 24, 25]), [(0, .inr (some (some 359))), (1, .inr none), (3, .inl (0, .ofNat 10))]),
    (3, none, (2, [(1, .ofNat 0, .ofNat 625)], [(2940955, .inl (1, .ofNat 0))], [], [], [9, 12, 13, 14, 15, 16, 17, 18, 21, 22, 23, 24, 25]), [(0, .inr (some (some 359))), (1, .inr none), (3, .inl (0, .ofNat 5))]),
    (2, none, (2, [(1, .ofNat 0, .ofNat 626)], [(2940955, .inl (1, .ofNat 0))], [], [], [9, 12, 13, 14, 15, 16, 17, 18, 21, 22, 23, 24, 25]), [(0, .inr (some (some 359))), (1, .inr none), (3, .inl (0, .ofNat 0))]),
    (1, none, (2, [(1, .ofNat 0, .ofNat 627)], [(2940955, .inl (1, .ofNat 0))], [], [], [9, 12, 13, 14, 15, 16, 17, 18, 21, 22, 23, 24, 25]), [(0, .inr (some (some 359))), (1, .inr none), (3, .inl (0, .negSucc 4))])]), none, none, none, none, none, none, none, none, none, none, none, none]]
set_option maxRecDepth 1000000 in
theorem jxm_c255_ok (hX : jc_Xo jxm X) : jc_Con jP jxm X jxm_c255 := jc_mth_ok (Z := (jxm, [], jT, [], jxm_S0, jxm_c255_N, .ofNat 100000)) (f := 100000) jxm_ok hX jT_ok jc_c0 (by decide +kernel)
-- printsNumber19
def jxm_c256 : jc_Cn := (294, 1, [.inr (some (some 359)), .inl (2, .ofNat 0)], (3, [(1, .ofNat 0, .ofNat 19), (2, .negSucc 2147483647, .ofNat 2147483647)], [(2940955, .inl (1, .ofNat 0))], [], [], [9, 12, 13, 14, 15, 16, 17, 18, 21, 22, 23, 24, 25]), [(371, 0, 1400), (359, 27, 28)], [((2, [(1, .ofNat 2, .ofNat 23)], [(2940955, .inl (1, .ofNat 0))], [], [], [9, 12, 13, 14, 15, 16, 17, 18, 21, 22, 23, 24, 25]), none)])
def jxm_c256_N : jc_Nt := []
set_option maxRecDepth 1000000 in
theorem jxm_c256_ok (hX : jc_Xo jxm X) : jc_Con jP jxm X jxm_c256 := jc_mth_ok (Z := (jxm, [], jT, [], jxm_S0, jxm_c256_N, .ofNat 100000)) (f := 100000) jxm_ok hX jT_ok jc_c0 (by decide +kernel)
-- printsNumber23
def jxm_c257 : jc_Cn := (294, 1, [.inr (some (some 359)), .inl (2, .ofNat 0)], (3, [(1, .ofNat 0, .ofNat 23), (2, .negSucc 2147483647, .ofNat 2147483647)], [(2940955, .inl (1, .ofNat 0))], [], [], [9, 12, 13, 14, 15, 16, 17, 18, 21, 22, 23, 24, 25]), [(371, 0, 1400), (359, 27, 28)], [((2, [(1, .ofNat 2, .ofNat 27)], [(2940955, .inl (1, .ofNat 0))], [], [], [9, 12, 13, 14, 15, 16, 17, 18, 21, 22, 23, 24, 25]), none)])
def jxm_c257_N : jc_Nt := []
set_option maxRecDepth 1000000 in
theorem jxm_c257_ok (hX : jc_Xo jxm X) : jc_Con jP jxm X jxm_c257 := jc_mth_ok (Z := (jxm, [], jT, [], jxm_S0, jxm_c257_N, .ofNat 100000)) (f := 100000) jxm_ok hX jT_ok jc_c0 (by decide +kernel)
-- printsNumber27
def jxm_c258 : jc_Cn := (294, 1, [.inr (some (some 359)), .inl (2, .ofNat 0)], (3, [(1, .ofNat 0, .ofNat 27), (2, .negSucc 2147483647, .ofNat 2147483647)], [(2940955, .inl (1, .ofNat 0))], [], [], [9, 12, 13, 14, 15, 16, 17, 18, 21, 22, 23, 24, 25]), [(371, 0, 1400), (359, 27, 28)], [((2, [(1, .ofNat 2, .ofNat 31)], [(2940955, .inl (1, .ofNat 0))], [], [], [9, 12, 13, 14, 15, 16, 17, 18, 21, 22, 23, 24, 25]), none)])
def jxm_c258_N : jc_Nt := []
set_option maxRecDepth 1000000 in
theorem jxm_c258_ok (hX : jc_Xo jxm X) : jc_Con jP jxm X jxm_c258 := jc_mth_ok (Z := (jxm, [], jT, [], jxm_S0, jxm_c258_N, .ofNat 100000)) (f := 100000) jxm_ok hX jT_ok jc_c0 (by decide +kernel)
-- printsNumber31
def jxm_c259 : jc_Cn := (294, 1, [.inr (some (some 359)), .inl (2, .ofNat 0)], (3, [(1, .ofNat 0, .ofNat 31), (2, .negSucc 2147483647, .ofNat 2147483647)], [(2940955, .inl (1, .ofNat 0))], [], [], [9, 12, 13, 14, 15, 16, 17, 18, 21, 22, 23, 24, 25]), [(371, 0, 1400), (359, 27, 28)], [((2, [(1, .ofNat 2, .ofNat 35)], [(2940955, .inl (1, .ofNat 0))], [], [], [9, 12, 13, 14, 15, 16, 17, 18, 21, 22, 23, 24, 25]), none)])
def jxm_c259_N : jc_Nt := []
set_option maxRecDepth 1000000 in
theorem jxm_c259_ok (hX : jc_Xo jxm X) : jc_Con jP jxm X jxm_c259 := jc_mth_ok (Z := (jxm, [], jT, [], jxm_S0, jxm_c259_N, .ofNat 100000)) (f := 100000) jxm_ok hX jT_ok jc_c0 (by decide +kernel)
-- printsNumber55
def jxm_c260 : jc_Cn := (294, 1, [.inr (some (some 359)), .inl (2, .ofNat 0)], (3, [(1, .ofNat 0, .ofNat 55), (2, .negSucc 2147483647, .ofNat 2147483647)], [(2940955, .inl (1, .ofNat 0))], [], [], [9, 12, 13, 14, 15, 16, 17, 18, 21, 22, 23, 24, 25]), [(371, 0, 1400), (359, 27, 28)], [((2, [(1, .ofNat 2, .ofNat 59)], [(2940955, .inl (1, .ofNat 0))], [], [], [9, 12, 13, 14, 15, 16, 17, 18, 21, 22, 23, 24, 25]), none)])
def jxm_c260_N : jc_Nt := []
set_option maxRecDepth 1000000 in
theorem jxm_c260_ok (hX : jc_Xo jxm X) : jc_Con jP jxm X jxm_c260 := jc_mth_ok (Z := (jxm, [], jT, [], jxm_S0, jxm_c260_N, .ofNat 100000)) (f := 100000) jxm_ok hX jT_ok jc_c0 (by decide +kernel)
-- printsNumber59
def jxm_c261 : jc_Cn := (294, 1, [.inr (some (some 359)), .inl (2, .ofNat 0)], (3, [(1, .ofNat 0, .ofNat 59), (2, .negSucc 2147483647, .ofNat 2147483647)], [(2940955, .inl (1, .ofNat 0))], [], [], [9, 12, 13, 14, 15, 16, 17, 18, 21, 22, 23, 24, 25]), [(371, 0, 1400), (359, 27, 28)], [((2, [(1, .ofNat 2, .ofNat 63)], [(2940955, .inl (1, .ofNat 0))], [], [], [9, 12, 13, 14, 15, 16, 17, 18, 21, 22, 23, 24, 25]), none)])
def jxm_c261_N : jc_Nt := []
set_option maxRecDepth 1000000 in
theorem jxm_c261_ok (hX : jc_Xo jxm X) : jc_Con jP jxm X jxm_c261 := jc_mth_ok (Z := (jxm, [], jT, [], jxm_S0, jxm_c261_N, .ofNat 100000)) (f := 100000) jxm_ok hX jT_ok jc_c0 (by decide +kernel)
-- printsNumber63
def jxm_c262 : jc_Cn := (294, 1, [.inr (some (some 359)), .inl (2, .ofNat 0)], (3, [(1, .ofNat 0, .ofNat 63), (2, .negSucc 2147483647, .ofNat 2147483647)], [(2940955, .inl (1, .ofNat 0))], [], [], [9, 12, 13, 14, 15, 16, 17, 18, 21, 22, 23, 24, 25]), [(371, 0, 1400), (359, 27, 28)], [((2, [(1, .ofNat 2, .ofNat 67)], [(2940955, .inl (1, .ofNat 0))], [], [], [9, 12, 13, 14, 15, 16, 17, 18, 21, 22, 23, 24, 25]), none)])
def jxm_c262_N : jc_Nt := []
set_option maxRecDepth 1000000 in
theorem jxm_c262_ok (hX : jc_Xo jxm X) : jc_Con jP jxm X jxm_c262 := jc_mth_ok (Z := (jxm, [], jT, [], jxm_S0, jxm_c262_N, .ofNat 100000)) (f := 100000) jxm_ok hX jT_ok jc_c0 (by decide +kernel)
-- printsNumber67
def jxm_c263 : jc_Cn := (294, 1, [.inr (some (some 359)), .inl (2, .ofNat 0)], (3, [(1, .ofNat 0, .ofNat 67), (2, .negSucc 2147483647, .ofNat 2147483647)], [(2940955, .inl (1, .ofNat 0))], [], [], [9, 12, 13, 14, 15, 16, 17, 18, 21, 22, 23, 24, 25]), [(371, 0, 1400), (359, 27, 28)], [((2, [(1, .ofNat 2, .ofNat 71)], [(2940955, .inl (1, .ofNat 0))], [], [], [9, 12, 13, 14, 15, 16, 17, 18, 21, 22, 23, 24, 25]), none)])
def jxm_c263_N : jc_Nt := []
set_option maxRecDepth 1000000 in
theorem jxm_c263_ok (hX : jc_Xo jxm X) : jc_Con jP jxm X jxm_c263 := jc_mth_ok (Z := (jxm, [], jT, [], jxm_S0, jxm_c263_N, .ofNat 100000)) (f := 100000) jxm_ok hX jT_ok jc_c0 (by decide +kernel)
-- printsNumber91
def jxm_c264 : jc_Cn := (294, 1, [.inr (some (some 359)), .inl (2, .ofNat 0)], (3, [(1, .ofNat 0, .ofNat 91), (2, .negSucc 2147483647, .ofNat 2147483647)], [(2940955, .inl (1, .ofNat 0))], [], [], [9, 12, 13, 14, 15, 16, 17, 18, 21, 22, 23, 24, 25]), [(371, 0, 1400), (359, 27, 28)], [((2, [(1, .ofNat 2, .ofNat 95)], [(2940955, .inl (1, .ofNat 0))], [], [], [9, 12, 13, 14, 15, 16, 17, 18, 21, 22, 23, 24, 25]), none)])
def jxm_c264_N : jc_Nt := []
set_option maxRecDepth 1000000 in
theorem jxm_c264_ok (hX : jc_Xo jxm X) : jc_Con jP jxm X jxm_c264 := jc_mth_ok (Z := (jxm, [], jT, [], jxm_S0, jxm_c264_N, .ofNat 100000)) (f := 100000) jxm_ok hX jT_ok jc_c0 (by decide +kernel)
-- printsNumber95
def jxm_c265 : jc_Cn := (294, 1, [.inr (some (some 359)), .inl (2, .ofNat 0)], (3, [(1, .ofNat 0, .ofNat 95), (2, .negSucc 2147483647, .ofNat 2147483647)], [(2940955, .inl (1, .ofNat 0))], [], [], [9, 12, 13, 14, 15, 16, 17, 18, 21, 22, 23, 24, 25]), [(371, 0, 1400), (359, 27, 28)], [((2, [(1, .ofNat 2, .ofNat 99)], [(2940955, .inl (1, .ofNat 0))], [], [], [9, 12, 13, 14, 15, 16, 17, 18, 21, 22, 23, 24, 25]), none)])
def jxm_c265_N : jc_Nt := []
set_option maxRecDepth 1000000 in
theorem jxm_c265_ok (hX : jc_Xo jxm X) : jc_Con jP jxm X jxm_c265 := jc_mth_ok (Z := (jxm, [], jT, [], jxm_S0, jxm_c265_N, .ofNat 100000)) (f := 100000) jxm_ok hX jT_ok jc_c0 (by decide +kernel)
-- printsNumber99
def jxm_c266 : jc_Cn := (294, 1, [.inr (some (some 359)), .inl (2, .ofNat 0)], (3, [(1, .ofNat 0, .ofNat 99), (2, .negSucc 2147483647, .ofNat 2147483647)], [(2940955, .inl (1, .ofNat 0))], [], [], [9, 12, 13, 14, 15, 16, 17, 18, 21, 22, 23, 24, 25]), [(371, 0, 1400), (359, 27, 28)], [((2, [(1, .ofNat 2, .ofNat 103)], [(2940955, .inl (1, .ofNat 0))], [], [], [9, 12, 13, 14, 15, 16, 17, 18, 21, 22, 23, 24, 25]), none)])
def jxm_c266_N : jc_Nt := []
set_option maxRecDepth 1000000 in
theorem jxm_c266_ok (hX : jc_Xo jxm X) : jc_Con jP jxm X jxm_c266 := jc_mth_ok (Z := (jxm, [], jT, [], jxm_S0, jxm_c266_N, .ofNat 100000)) (f := 100000) jxm_ok hX jT_ok jc_c0 (by decide +kernel)
-- printsNumber103
def jxm_c267 : jc_Cn := (294, 1, [.inr (some (some 359)), .inl (2, .ofNat 0)], (3, [(1, .ofNat 0, .ofNat 103), (2, .negSucc 2147483647, .ofNat 2147483647)], [(2940955, .inl (1, .ofNat 0))], [], [], [9, 12, 13, 14, 15, 16, 17, 18, 21, 22, 23, 24, 25]), [(371, 0, 1400), (359, 27, 28)], [((2, [(1, .ofNat 2, .ofNat 107)], [(2940955, .inl (1, .ofNat 0))], [], [], [9, 12, 13, 14, 15, 16, 17, 18, 21, 22, 23, 24, 25]), none)])
def jxm_c267_N : jc_Nt := []
set_option maxRecDepth 1000000 in
theorem jxm_c267_ok (hX : jc_Xo jxm X) : jc_Con jP jxm X jxm_c267 := jc_mth_ok (Z := (jxm, [], jT, [], jxm_S0, jxm_c267_N, .ofNat 100000)) (f := 100000) jxm_ok hX jT_ok jc_c0 (by decide +kernel)
-- printsNumber127
def jxm_c268 : jc_Cn := (294, 1, [.inr (some (some 359)), .inl (2, .ofNat 0)], (3, [(1, .ofNat 0, .ofNat 127), (2, .negSucc 2147483647, .ofNat 2147483647)], [(2940955, .inl (1, .ofNat 0))], [], [], [9, 12, 13, 14, 15, 16, 17, 18, 21, 22, 23, 24, 25]), [(371, 0, 1400), (359, 27, 28)], [((2, [(1, .ofNat 2, .ofNat 131)], [(2940955, .inl (1, .ofNat 0))], [], [], [9, 12, 13, 14, 15, 16, 17, 18, 21, 22, 23, 24, 25]), none)])
def jxm_c268_N : jc_Nt := []
set_option maxRecDepth 1000000 in
theorem jxm_c268_ok (hX : jc_Xo jxm X) : jc_Con jP jxm X jxm_c268 := jc_mth_ok (Z := (jxm, [], jT, [], jxm_S0, jxm_c268_N, .ofNat 100000)) (f := 100000) jxm_ok hX jT_ok jc_c0 (by decide +kernel)
-- printsNumber131
def jxm_c269 : jc_Cn := (294, 1, [.inr (some (some 359)), .inl (2, .ofNat 0)], (3, [(1, .ofNat 0, .ofNat 131), (2, .negSucc 2147483647, .ofNat 2147483647)], [(2940955, .inl (1, .ofNat 0))], [], [], [9, 12, 13, 14, 15, 16, 17, 18, 21, 22, 23, 24, 25]), [(371, 0, 1400), (359, 27, 28)], [((2, [(1, .ofNat 2, .ofNat 135)], [(2940955, .inl (1, .ofNat 0))], [], [], [9, 12, 13, 14, 15, 16, 17, 18, 21, 22, 23, 24, 25]), none)])
def jxm_c269_N : jc_Nt := []
set_option maxRecDepth 1000000 in
theorem jxm_c269_ok (hX : jc_Xo jxm X) : jc_Con jP jxm X jxm_c269 := jc_mth_ok (Z := (jxm, [], jT, [], jxm_S0, jxm_c269_N, .ofNat 100000)) (f := 100000) jxm_ok hX jT_ok jc_c0 (by decide +kernel)
-- printsNumber135
def jxm_c270 : jc_Cn := (294, 1, [.inr (some (some 359)), .inl (2, .ofNat 0)], (3, [(1, .ofNat 0, .ofNat 135), (2, .negSucc 2147483647, .ofNat 2147483647)], [(2940955, .inl (1, .ofNat 0))], [], [], [9, 12, 13, 14, 15, 16, 17, 18, 21, 22, 23, 24, 25]), [(371, 0, 1400), (359, 27, 28)], [((2, [(1, .ofNat 2, .ofNat 139)], [(2940955, .inl (1, .ofNat 0))], [], [], [9, 12, 13, 14, 15, 16, 17, 18, 21, 22, 23, 24, 25]), none)])
def jxm_c270_N : jc_Nt := []
set_option maxRecDepth 1000000 in
theorem jxm_c270_ok (hX : jc_Xo jxm X) : jc_Con jP jxm X jxm_c270 := jc_mth_ok (Z := (jxm, [], jT, [], jxm_S0, jxm_c270_N, .ofNat 100000)) (f := 100000) jxm_ok hX jT_ok jc_c0 (by decide +kernel)
-- printsNumber139
def jxm_c271 : jc_Cn := (294, 1, [.inr (some (some 359)), .inl (2, .ofNat 0)], (3, [(1, .ofNat 0, .ofNat 139), (2, .negSucc 2147483647, .ofNat 2147483647)], [(2940955, .inl (1, .ofNat 0))], [], [], [9, 12, 13, 14, 15, 16, 17, 18, 21, 22, 23, 24, 25]), [(371, 0, 1400), (359, 27, 28)], [((2, [(1, .ofNat 2, .ofNat 143)], [(2940955, .inl (1, .ofNat 0))], [], [], [9, 12, 13, 14, 15, 16, 17, 18, 21, 22, 23, 24, 25]), none)])
def jxm_c271_N : jc_Nt := []
set_option maxRecDepth 1000000 in
theorem jxm_c271_ok (hX : jc_Xo jxm X) : jc_Con jP jxm X jxm_c271 := jc_mth_ok (Z := (jxm, [], jT, [], jxm_S0, jxm_c271_N, .ofNat 100000)) (f := 100000) jxm_ok hX jT_ok jc_c0 (by decide +kernel)
-- printsNumber163
def jxm_c272 : jc_Cn := (294, 1, [.inr (some (some 359)), .inl (2, .ofNat 0)], (3, [(1, .ofNat 0, .ofNat 163), (2, .negSucc 2147483647, .ofNat 2147483647)], [(2940955, .inl (1, .ofNat 0))], [], [], [9, 12, 13, 14, 15, 16, 17, 18, 21, 22, 23, 24, 25]), [(371, 0, 1400), (359, 27, 28)], [((2, [(1, .ofNat 2, .ofNat 167)], [(2940955, .inl (1, .ofNat 0))], [], [], [9, 12, 13, 14, 15, 16, 17, 18, 21, 22, 23, 24, 25]), none)])
def jxm_c272_N : jc_Nt := []
set_option maxRecDepth 1000000 in
theorem jxm_c272_ok (hX : jc_Xo jxm X) : jc_Con jP jxm X jxm_c272 := jc_mth_ok (Z := (jxm, [], jT, [], jxm_S0, jxm_c272_N, .ofNat 100000)) (f := 100000) jxm_ok hX jT_ok jc_c0 (by decide +kernel)
-- printsNumber167
def jxm_c273 : jc_Cn := (294, 1, [.inr (some (some 359)), .inl (2, .ofNat 0)], (3, [(1, .ofNat 0, .ofNat 167), (2, .negSucc 2147483647, .ofNat 2147483647)], [(2940955, .inl (1, .ofNat 0))], [], [], [9, 12, 13, 14, 15, 16, 17, 18, 21, 22, 23, 24, 25]), [(371, 0, 1400), (359, 27, 28)], [((2, [(1, .ofNat 2, .ofNat 171)], [(2940955, .inl (1, .ofNat 0))], [], [], [9, 12, 13, 14, 15, 16, 17, 18, 21, 22, 23, 24, 25]), none)])
def jxm_c273_N : jc_Nt := []
set_option maxRecDepth 1000000 in
theorem jxm_c273_ok (hX : jc_Xo jxm X) : jc_Con jP jxm X jxm_c273 := jc_mth_ok (Z := (jxm, [], jT, [], jxm_S0, jxm_c273_N, .ofNat 100000)) (f := 100000) jxm_ok hX jT_ok jc_c0 (by decide +kernel)
-- printsNumber171
def jxm_c274 : jc_Cn := (294, 1, [.inr (some (some 359)), .inl (2, .ofNat 0)], (3, [(1, .ofNat 0, .ofNat 171), (2, .negSucc 2147483647, .ofNat 2147483647)], [(2940955, .inl (1, .ofNat 0))], [], [], [9, 12, 13, 14, 15, 16, 17, 18, 21, 22, 23, 24, 25]), [(371, 0, 1400), (359, 27, 28)], [((2, [(1, .ofNat 2, .ofNat 175)], [(2940955, .inl (1, .ofNat 0))], [], [], [9, 12, 13, 14, 15, 16, 17, 18, 21, 22, 23, 24, 25]), none)])
def jxm_c274_N : jc_Nt := []
set_option maxRecDepth 1000000 in
theorem jxm_c274_ok (hX : jc_Xo jxm X) : jc_Con jP jxm X jxm_c274 := jc_mth_ok (Z := (jxm, [], jT, [], jxm_S0, jxm_c274_N, .ofNat 100000)) (f := 100000) jxm_ok hX jT_ok jc_c0 (by decide +kernel)
-- printsNumber175
def jxm_c275 : jc_Cn := (294, 1, [.inr (some (some 359)), .inl (2, .ofNat 0)], (3, [(1, .ofNat 0, .ofNat 175), (2, .negSucc 2147483647, .ofNat 2147483647)], [(2940955, .inl (1, .ofNat 0))], [], [], [9, 12, 13, 14, 15, 16, 17, 18, 21, 22, 23, 24, 25]), [(371, 0, 1400), (359, 27, 28)], [((2, [(1, .ofNat 2, .ofNat 179)], [(2940955, .inl (1, .ofNat 0))], [], [], [9, 12, 13, 14, 15, 16, 17, 18, 21, 22, 23, 24, 25]), none)])
def jxm_c275_N : jc_Nt := []
set_option maxRecDepth 1000000 in
theorem jxm_c275_ok (hX : jc_Xo jxm X) : jc_Con jP jxm X jxm_c275 := jc_mth_ok (Z := (jxm, [], jT, [], jxm_S0, jxm_c275_N, .ofNat 100000)) (f := 100000) jxm_ok hX jT_ok jc_c0 (by decide +kernel)
-- printsNumber199
def jxm_c276 : jc_Cn := (294, 1, [.inr (some (some 359)), .inl (2, .ofNat 0)], (3, [(1, .ofNat 0, .ofNat 199), (2, .negSucc 2147483647, .ofNat 2147483647)], [(2940955, .inl (1, .ofNat 0))], [], [], [9, 12, 13, 14, 15, 16, 17, 18, 21, 22, 23, 24, 25]), [(371, 0, 1400), (359, 27, 28)], [((2, [(1, .ofNat 2, .ofNat 203)], [(2940955, .inl (1, .ofNat 0))], [], [], [9, 12, 13, 14, 15, 16, 17, 18, 21, 22, 23, 24, 25]), none)])
def jxm_c276_N : jc_Nt := []
set_option maxRecDepth 1000000 in
theorem jxm_c276_ok (hX : jc_Xo jxm X) : jc_Con jP jxm X jxm_c276 := jc_mth_ok (Z := (jxm, [], jT, [], jxm_S0, jxm_c276_N, .ofNat 100000)) (f := 100000) jxm_ok hX jT_ok jc_c0 (by decide +kernel)
-- printsNumber203
def jxm_c277 : jc_Cn := (294, 1, [.inr (some (some 359)), .inl (2, .ofNat 0)], (3, [(1, .ofNat 0, .ofNat 203), (2, .negSucc 2147483647, .ofNat 2147483647)], [(2940955, .inl (1, .ofNat 0))], [], [], [9, 12, 13, 14, 15, 16, 17, 18, 21, 22, 23, 24, 25]), [(371, 0, 1400), (359, 27, 28)], [((2, [(1, .ofNat 2, .ofNat 207)], [(2940955, .inl (1, .ofNat 0))], [], [], [9, 12, 13, 14, 15, 16, 17, 18, 21, 22, 23, 24, 25]), none)])
def jxm_c277_N : jc_Nt := []
set_option maxRecDepth 1000000 in
theorem jxm_c277_ok (hX : jc_Xo jxm X) : jc_Con jP jxm X jxm_c277 := jc_mth_ok (Z := (jxm, [], jT, [], jxm_S0, jxm_c277_N, .ofNat 100000)) (f := 100000) jxm_ok hX jT_ok jc_c0 (by decide +kernel)
-- printsNumber207
def jxm_c278 : jc_Cn := (294, 1, [.inr (some (some 359)), .inl (2, .ofNat 0)], (3, [(1, .ofNat 0, .ofNat 207), (2, .negSucc 2147483647, .ofNat 2147483647)], [(2940955, .inl (1, .ofNat 0))], [], [], [9, 12, 13, 14, 15, 16, 17, 18, 21, 22, 23, 24, 25]), [(371, 0, 1400), (359, 27, 28)], [((2, [(1, .ofNat 2, .ofNat 211)], [(2940955, .inl (1, .ofNat 0))], [], [], [9, 12, 13, 14, 15, 16, 17, 18, 21, 22, 23, 24, 25]), none)])
def jxm_c278_N : jc_Nt := []
set_option maxRecDepth 1000000 in
theorem jxm_c278_ok (hX : jc_Xo jxm X) : jc_Con jP jxm X jxm_c278 := jc_mth_ok (Z := (jxm, [], jT, [], jxm_S0, jxm_c278_N, .ofNat 100000)) (f := 100000) jxm_ok hX jT_ok jc_c0 (by decide +kernel)
-- printsNumber211
def jxm_c279 : jc_Cn := (294, 1, [.inr (some (some 359)), .inl (2, .ofNat 0)], (3, [(1, .ofNat 0, .ofNat 211), (2, .negSucc 2147483647, .ofNat 2147483647)], [(2940955, .inl (1, .ofNat 0))], [], [], [9, 12, 13, 14, 15, 16, 17, 18, 21, 22, 23, 24, 25]), [(371, 0, 1400), (359, 27, 28)], [((2, [(1, .ofNat 2, .ofNat 215)], [(2940955, .inl (1, .ofNat 0))], [], [], [9, 12, 13, 14, 15, 16, 17, 18, 21, 22, 23, 24, 25]), none)])
def jxm_c279_N : jc_Nt := []
set_option maxRecDepth 1000000 in
theorem jxm_c279_ok (hX : jc_Xo jxm X) : jc_Con jP jxm X jxm_c279 := jc_mth_ok (Z := (jxm, [], jT, [], jxm_S0, jxm_c279_N, .ofNat 100000)) (f := 100000) jxm_ok hX jT_ok jc_c0 (by decide +kernel)
-- printsNumber235
def jxm_c280 : jc_Cn := (294, 1, [.inr (some (some 359)), .inl (2, .ofNat 0)], (3, [(1, .ofNat 0, .ofNat 235), (2, .negSucc 2147483647, .ofNat 2147483647)], [(2940955, .inl (1, .ofNat 0))], [], [], [9, 12, 13, 14, 15, 16, 17, 18, 21, 22, 23, 24, 25]), [(371, 0, 1400), (359, 27, 28)], [((2, [(1, .ofNat 2, .ofNat 239)], [(2940955, .inl (1, .ofNat 0))], [], [], [9, 12, 13, 14, 15, 16, 17, 18, 21, 22, 23, 24, 25]), none)])
def jxm_c280_N : jc_Nt := []
set_option maxRecDepth 1000000 in
theorem jxm_c280_ok (hX : jc_Xo jxm X) : jc_Con jP jxm X jxm_c280 := jc_mth_ok (Z := (jxm, [], jT, [], jxm_S0, jxm_c280_N, .ofNat 100000)) (f := 100000) jxm_ok hX jT_ok jc_c0 (by decide +kernel)
-- printsNumber239
def jxm_c281 : jc_Cn := (294, 1, [.inr (some (some 359)), .inl (2, .ofNat 0)], (3, [(1, .ofNat 0, .ofNat 239), (2, .negSucc 2147483647, .ofNat 2147483647)], [(2940955, .inl (1, .ofNat 0))], [], [], [9, 12, 13, 14, 15, 16, 17, 18, 21, 22, 23, 24, 25]), [(371, 0, 1400), (359, 27, 28)], [((2, [(1, .ofNat 2, .ofNat 243)], [(2940955, .inl (1, .ofNat 0))], [], [], [9, 12, 13, 14, 15, 16, 17, 18, 21, 22, 23, 24, 25]), none)])
def jxm_c281_N : jc_Nt := []
set_option maxRecDepth 1000000 in
theorem jxm_c281_ok (hX : jc_Xo jxm X) : jc_Con jP jxm X jxm_c281 := jc_mth_ok (Z := (jxm, [], jT, [], jxm_S0, jxm_c281_N, .ofNat 100000)) (f := 100000) jxm_ok hX jT_ok jc_c0 (by decide +kernel)
-- printsNumber243
def jxm_c282 : jc_Cn := (294, 1, [.inr (some (some 359)), .inl (2, .ofNat 0)], (3, [(1, .ofNat 0, .ofNat 243), (2, .negSucc 2147483647, .ofNat 2147483647)], [(2940955, .inl (1, .ofNat 0))], [], [], [9, 12, 13, 14, 15, 16, 17, 18, 21, 22, 23, 24, 25]), [(371, 0, 1400), (359, 27, 28)], [((2, [(1, .ofNat 2, .ofNat 247)], [(2940955, .inl (1, .ofNat 0))], [], [], [9, 12, 13, 14, 15, 16, 17, 18, 21, 22, 23, 24, 25]), none)])
def jxm_c282_N : jc_Nt := []
set_option maxRecDepth 1000000 in
theorem jxm_c282_ok (hX : jc_Xo jxm X) : jc_Con jP jxm X jxm_c282 := jc_mth_ok (Z := (jxm, [], jT, [], jxm_S0, jxm_c282_N, .ofNat 100000)) (f := 100000) jxm_ok hX jT_ok jc_c0 (by decide +kernel)
-- printsNumber247
def jxm_c283 : jc_Cn := (294, 1, [.inr (some (some 359)), .inl (2, .ofNat 0)], (3, [(1, .ofNat 0, .ofNat 247), (2, .negSucc 2147483647, .ofNat 2147483647)], [(2940955, .inl (1, .ofNat 0))], [], [], [9, 12, 13, 14, 15, 16, 17, 18, 21, 22, 23, 24, 25]), [(371, 0, 1400), (359, 27, 28)], [((2, [(1, .ofNat 2, .ofNat 251)], [(2940955, .inl (1, .ofNat 0))], [], [], [9, 12, 13, 14, 15, 16, 17, 18, 21, 22, 23, 24, 25]), none)])
def jxm_c283_N : jc_Nt := []
set_option maxRecDepth 1000000 in
theorem jxm_c283_ok (hX : jc_Xo jxm X) : jc_Con jP jxm X jxm_c283 := jc_mth_ok (Z := (jxm, [], jT, [], jxm_S0, jxm_c283_N, .ofNat 100000)) (f := 100000) jxm_ok hX jT_ok jc_c0 (by decide +kernel)
-- printsNumber271
def jxm_c284 : jc_Cn := (294, 1, [.inr (some (some 359)), .inl (2, .ofNat 0)], (3, [(1, .ofNat 0, .ofNat 271), (2, .negSucc 2147483647, .ofNat 2147483647)], [(2940955, .inl (1, .ofNat 0))], [], [], [9, 12, 13, 14, 15, 16, 17, 18, 21, 22, 23, 24, 25]), [(371, 0, 1400), (359, 27, 28)], [((2, [(1, .ofNat 2, .ofNat 275)], [(2940955, .inl (1, .ofNat 0))], [], [], [9, 12, 13, 14, 15, 16, 17, 18, 21, 22, 23, 24, 25]), none)])
def jxm_c284_N : jc_Nt := []
set_option maxRecDepth 1000000 in
theorem jxm_c284_ok (hX : jc_Xo jxm X) : jc_Con jP jxm X jxm_c284 := jc_mth_ok (Z := (jxm, [], jT, [], jxm_S0, jxm_c284_N, .ofNat 100000)) (f := 100000) jxm_ok hX jT_ok jc_c0 (by decide +kernel)
-- printsNumber295
def jxm_c285 : jc_Cn := (294, 1, [.inr (some (some 359)), .inl (2, .ofNat 0)], (3, [(1, .ofNat 0, .ofNat 295), (2, .negSucc 2147483647, .ofNat 2147483647)], [(2940955, .inl (1, .ofNat 0))], [], [], [9, 12, 13, 14, 15, 16, 17, 18, 21, 22, 23, 24, 25]), [(371, 0, 1400), (359, 27, 28)], [((2, [(1, .ofNat 2, .ofNat 299)], [(2940955, .inl (1, .ofNat 0))], [], [], [9, 12, 13, 14, 15, 16, 17, 18, 21, 22, 23, 24, 25]), none)])
def jxm_c285_N : jc_Nt := []
set_option maxRecDepth 1000000 in
theorem jxm_c285_ok (hX : jc_Xo jxm X) : jc_Con jP jxm X jxm_c285 := jc_mth_ok (Z := (jxm, [], jT, [], jxm_S0, jxm_c285_N, .ofNat 100000)) (f := 100000) jxm_ok hX jT_ok jc_c0 (by decide +kernel)
-- printsNumber309
def jxm_c286 : jc_Cn := (294, 1, [.inr (some (some 359)), .inl (2, .ofNat 0)], (3, [(1, .ofNat 0, .ofNat 309), (2, .negSucc 2147483647, .ofNat 2147483647)], [(2940955, .inl (1, .ofNat 0))], [], [], [9, 12, 13, 14, 15, 16, 17, 18, 21, 22, 23, 24, 25]), [(371, 0, 1400), (359, 27, 28)], [((2, [(1, .ofNat 2, .ofNat 313)], [(2940955, .inl (1, .ofNat 0))], [], [], [9, 12, 13, 14, 15, 16, 17, 18, 21, 22, 23, 24, 25]), none)])
def jxm_c286_N : jc_Nt := []
set_option maxRecDepth 1000000 in
theorem jxm_c286_ok (hX : jc_Xo jxm X) : jc_Con jP jxm X jxm_c286 := jc_mth_ok (Z := (jxm, [], jT, [], jxm_S0, jxm_c286_N, .ofNat 100000)) (f := 100000) jxm_ok hX jT_ok jc_c0 (by decide +kernel)
-- printsNumber323
def jxm_c287 : jc_Cn := (294, 1, [.inr (some (some 359)), .inl (2, .ofNat 0)], (3, [(1, .ofNat 0, .ofNat 323), (2, .negSucc 2147483647, .ofNat 2147483647)], [(2940955, .inl (1, .ofNat 0))], [], [], [9, 12, 13, 14, 15, 16, 17, 18, 21, 22, 23, 24, 25]), [(371, 0, 1400), (359, 27, 28)], [((2, [(1, .ofNat 2, .ofNat 327)], [(2940955, .inl (1, .ofNat 0))], [], [], [9, 12, 13, 14, 15, 16, 17, 18, 21, 22, 23, 24, 25]), none)])
def jxm_c287_N : jc_Nt := []
set_option maxRecDepth 1000000 in
theorem jxm_c287_ok (hX : jc_Xo jxm X) : jc_Con jP jxm X jxm_c287 := jc_mth_ok (Z := (jxm, [], jT, [], jxm_S0, jxm_c287_N, .ofNat 100000)) (f := 100000) jxm_ok hX jT_ok jc_c0 (by decide +kernel)
-- printsNumber347
def jxm_c288 : jc_Cn := (294, 1, [.inr (some (some 359)), .inl (2, .ofNat 0)], (3, [(1, .ofNat 0, .ofNat 347), (2, .negSucc 2147483647, .ofNat 2147483647)], [(2940955, .inl (1, .ofNat 0))], [], [], [9, 12, 13, 14, 15, 16, 17, 18, 21, 22, 23, 24, 25]), [(371, 0, 1400), (359, 27, 28)], [((2, [(1, .ofNat 2, .ofNat 351)], [(2940955, .inl (1, .ofNat 0))], [], [], [9, 12, 13, 14, 15, 16, 17, 18, 21, 22, 23, 24, 25]), none)])
def jxm_c288_N : jc_Nt := []
set_option maxRecDepth 1000000 in
theorem jxm_c288_ok (hX : jc_Xo jxm X) : jc_Con jP jxm X jxm_c288 := jc_mth_ok (Z := (jxm, [], jT, [], jxm_S0, jxm_c288_N, .ofNat 100000)) (f := 100000) jxm_ok hX jT_ok jc_c0 (by decide +kernel)
-- printsNumber371
def jxm_c289 : jc_Cn := (294, 1, [.inr (some (some 359)), .inl (2, .ofNat 0)], (3, [(1, .ofNat 0, .ofNat 371), (2, .negSucc 2147483647, .ofNat 2147483647)], [(2940955, .inl (1, .ofNat 0))], [], [], [9, 12, 13, 14, 15, 16, 17, 18, 21, 22, 23, 24, 25]), [(371, 0, 1400), (359, 27, 28)], [((2, [(1, .ofNat 2, .ofNat 375)], [(2940955, .inl (1, .ofNat 0))], [], [], [9, 12, 13, 14, 15, 16, 17, 18, 21, 22, 23, 24, 25]), none)])
def jxm_c289_N : jc_Nt := []
set_option maxRecDepth 1000000 in
theorem jxm_c289_ok (hX : jc_Xo jxm X) : jc_Con jP jxm X jxm_c289 := jc_mth_ok (Z := (jxm, [], jT, [], jxm_S0, jxm_c289_N, .ofNat 100000)) (f := 100000) jxm_ok hX jT_ok jc_c0 (by decide +kernel)
-- printsNumber385
def jxm_c290 : jc_Cn := (294, 1, [.inr (some (some 359)), .inl (2, .ofNat 0)], (3, [(1, .ofNat 0, .ofNat 385), (2, .negSucc 2147483647, .ofNat 2147483647)], [(2940955, .inl (1, .ofNat 0))], [], [], [9, 12, 13, 14, 15, 16, 17, 18, 21, 22, 23, 24, 25]), [(371, 0, 1400), (359, 27, 28)], [((2, [(1, .ofNat 2, .ofNat 389)], [(2940955, .inl (1, .ofNat 0))], [], [], [9, 12, 13, 14, 15, 16, 17, 18, 21, 22, 23, 24, 25]), none)])
def jxm_c290_N : jc_Nt := []
set_option maxRecDepth 1000000 in
theorem jxm_c290_ok (hX : jc_Xo jxm X) : jc_Con jP jxm X jxm_c290 := jc_mth_ok (Z := (jxm, [], jT, [], jxm_S0, jxm_c290_N, .ofNat 100000)) (f := 100000) jxm_ok hX jT_ok jc_c0 (by decide +kernel)
-- printsNumber399
def jxm_c291 : jc_Cn := (294, 1, [.inr (some (some 359)), .inl (2, .ofNat 0)], (3, [(1, .ofNat 0, .ofNat 399), (2, .negSucc 2147483647, .ofNat 2147483647)], [(2940955, .inl (1, .ofNat 0))], [], [], [9, 12, 13, 14, 15, 16, 17, 18, 21, 22, 23, 24, 25]), [(371, 0, 1400), (359, 27, 28)], [((2, [(1, .ofNat 2, .ofNat 403)], [(2940955, .inl (1, .ofNat 0))], [], [], [9, 12, 13, 14, 15, 16, 17, 18, 21, 22, 23, 24, 25]), none)])
def jxm_c291_N : jc_Nt := []
set_option maxRecDepth 1000000 in
theorem jxm_c291_ok (hX : jc_Xo jxm X) : jc_Con jP jxm X jxm_c291 := jc_mth_ok (Z := (jxm, [], jT, [], jxm_S0, jxm_c291_N, .ofNat 100000)) (f := 100000) jxm_ok hX jT_ok jc_c0 (by decide +kernel)
-- printsNumber423
def jxm_c292 : jc_Cn := (294, 1, [.inr (some (some 359)), .inl (2, .ofNat 0)], (3, [(1, .ofNat 0, .ofNat 423), (2, .negSucc 2147483647, .ofNat 2147483647)], [(2940955, .inl (1, .ofNat 0))], [], [], [9, 12, 13, 14, 15, 16, 17, 18, 21, 22, 23, 24, 25]), [(371, 0, 1400), (359, 27, 28)], [((2, [(1, .ofNat 2, .ofNat 427)], [(2940955, .inl (1, .ofNat 0))], [], [], [9, 12, 13, 14, 15, 16, 17, 18, 21, 22, 23, 24, 25]), none)])
def jxm_c292_N : jc_Nt := []
set_option maxRecDepth 1000000 in
theorem jxm_c292_ok (hX : jc_Xo jxm X) : jc_Con jP jxm X jxm_c292 := jc_mth_ok (Z := (jxm, [], jT, [], jxm_S0, jxm_c292_N, .ofNat 100000)) (f := 100000) jxm_ok hX jT_ok jc_c0 (by decide +kernel)
-- printsNumber447
def jxm_c293 : jc_Cn := (294, 1, [.inr (some (some 359)), .inl (2, .ofNat 0)], (3, [(1, .ofNat 0, .ofNat 447), (2, .negSucc 2147483647, .ofNat 2147483647)], [(2940955, .inl (1, .ofNat 0))], [], [], [9, 12, 13, 14, 15, 16, 17, 18, 21, 22, 23, 24, 25]), [(371, 0, 1400), (359, 27, 28)], [((2, [(1, .ofNat 2, .ofNat 451)], [(2940955, .inl (1, .ofNat 0))], [], [], [9, 12, 13, 14, 15, 16, 17, 18, 21, 22, 23, 24, 25]), none)])
def jxm_c293_N : jc_Nt := []
set_option maxRecDepth 1000000 in
theorem jxm_c293_ok (hX : jc_Xo jxm X) : jc_Con jP jxm X jxm_c293 := jc_mth_ok (Z := (jxm, [], jT, [], jxm_S0, jxm_c293_N, .ofNat 100000)) (f := 100000) jxm_ok hX jT_ok jc_c0 (by decide +kernel)
-- printsNumber461
def jxm_c294 : jc_Cn := (294, 1, [.inr (some (some 359)), .inl (2, .ofNat 0)], (3, [(1, .ofNat 0, .ofNat 461), (2, .negSucc 2147483647, .ofNat 2147483647)], [(2940955, .inl (1, .ofNat 0))], [], [], [9, 12, 13, 14, 15, 16, 17, 18, 21, 22, 23, 24, 25]), [(371, 0, 1400), (359, 27, 28)], [((2, [(1, .ofNat 2, .ofNat 465)], [(2940955, .inl (1, .ofNat 0))], [], [], [9, 12, 13, 14, 15, 16, 17, 18, 21, 22, 23, 24, 25]), none)])
def jxm_c294_N : jc_Nt := []
set_option maxRecDepth 1000000 in
theorem jxm_c294_ok (hX : jc_Xo jxm X) : jc_Con jP jxm X jxm_c294 := jc_mth_ok (Z := (jxm, [], jT, [], jxm_S0, jxm_c294_N, .ofNat 100000)) (f := 100000) jxm_ok hX jT_ok jc_c0 (by decide +kernel)
-- printsNumber475
def jxm_c295 : jc_Cn := (294, 1, [.inr (some (some 359)), .inl (2, .ofNat 0)], (3, [(1, .ofNat 0, .ofNat 475), (2, .negSucc 2147483647, .ofNat 2147483647)], [(2940955, .inl (1, .ofNat 0))], [], [], [9, 12, 13, 14, 15, 16, 17, 18, 21, 22, 23, 24, 25]), [(371, 0, 1400), (359, 27, 28)], [((2, [(1, .ofNat 2, .ofNat 479)], [(2940955, .inl (1, .ofNat 0))], [], [], [9, 12, 13, 14, 15, 16, 17, 18, 21, 22, 23, 24, 25]), none)])
def jxm_c295_N : jc_Nt := []
set_option maxRecDepth 1000000 in
theorem jxm_c295_ok (hX : jc_Xo jxm X) : jc_Con jP jxm X jxm_c295 := jc_mth_ok (Z := (jxm, [], jT, [], jxm_S0, jxm_c295_N, .ofNat 100000)) (f := 100000) jxm_ok hX jT_ok jc_c0 (by decide +kernel)
-- printsNumber499
def jxm_c296 : jc_Cn := (294, 1, [.inr (some (some 359)), .inl (2, .ofNat 0)], (3, [(1, .ofNat 0, .ofNat 499), (2, .negSucc 2147483647, .ofNat 2147483647)], [(2940955, .inl (1, .ofNat 0))], [], [], [9, 12, 13, 14, 15, 16, 17, 18, 21, 22, 23, 24, 25]), [(371, 0, 1400), (359, 27, 28)], [((2, [(1, .ofNat 2, .ofNat 503)], [(2940955, .inl (1, .ofNat 0))], [], [], [9, 12, 13, 14, 15, 16, 17, 18, 21, 22, 23, 24, 25]), none)])
def jxm_c296_N : jc_Nt := []
set_option maxRecDepth 1000000 in
theorem jxm_c296_ok (hX : jc_Xo jxm X) : jc_Con jP jxm X jxm_c296 := jc_mth_ok (Z := (jxm, [], jT, [], jxm_S0, jxm_c296_N, .ofNat 100000)) (f := 100000) jxm_ok hX jT_ok jc_c0 (by decide +kernel)
-- printsNumber523
def jxm_c297 : jc_Cn := (294, 1, [.inr (some (some 359)), .inl (2, .ofNat 0)], (3, [(1, .ofNat 0, .ofNat 523), (2, .negSucc 2147483647, .ofNat 2147483647)], [(2940955, .inl (1, .ofNat 0))], [], [], [9, 12, 13, 14, 15, 16, 17, 18, 21, 22, 23, 24, 25]), [(371, 0, 1400), (359, 27, 28)], [((2, [(1, .ofNat 2, .ofNat 527)], [(2940955, .inl (1, .ofNat 0))], [], [], [9, 12, 13, 14, 15, 16, 17, 18, 21, 22, 23, 24, 25]), none)])
def jxm_c297_N : jc_Nt := []
set_option maxRecDepth 1000000 in
theorem jxm_c297_ok (hX : jc_Xo jxm X) : jc_Con jP jxm X jxm_c297 := jc_mth_ok (Z := (jxm, [], jT, [], jxm_S0, jxm_c297_N, .ofNat 100000)) (f := 100000) jxm_ok hX jT_ok jc_c0 (by decide +kernel)
-- printsNumber537
def jxm_c298 : jc_Cn := (294, 1, [.inr (some (some 359)), .inl (2, .ofNat 0)], (3, [(1, .ofNat 0, .ofNat 537), (2, .negSucc 2147483647, .ofNat 2147483647)], [(2940955, .inl (1, .ofNat 0))], [], [], [9, 12, 13, 14, 15, 16, 17, 18, 21, 22, 23, 24, 25]), [(371, 0, 1400), (359, 27, 28)], [((2, [(1, .ofNat 2, .ofNat 541)], [(2940955, .inl (1, .ofNat 0))], [], [], [9, 12, 13, 14, 15, 16, 17, 18, 21, 22, 23, 24, 25]), none)])
def jxm_c298_N : jc_Nt := []
set_option maxRecDepth 1000000 in
theorem jxm_c298_ok (hX : jc_Xo jxm X) : jc_Con jP jxm X jxm_c298 := jc_mth_ok (Z := (jxm, [], jT, [], jxm_S0, jxm_c298_N, .ofNat 100000)) (f := 100000) jxm_ok hX jT_ok jc_c0 (by decide +kernel)
-- printsNumber551
def jxm_c299 : jc_Cn := (294, 1, [.inr (some (some 359)), .inl (2, .ofNat 0)], (3, [(1, .ofNat 0, .ofNat 551), (2, .negSucc 2147483647, .ofNat 2147483647)], [(2940955, .inl (1, .ofNat 0))], [], [], [9, 12, 13, 14, 15, 16, 17, 18, 21, 22, 23, 24, 25]), [(371, 0, 1400), (359, 27, 28)], [((2, [(1, .ofNat 2, .ofNat 555)], [(2940955, .inl (1, .ofNat 0))], [], [], [9, 12, 13, 14, 15, 16, 17, 18, 21, 22, 23, 24, 25]), none)])
def jxm_c299_N : jc_Nt := []
set_option maxRecDepth 1000000 in
theorem jxm_c299_ok (hX : jc_Xo jxm X) : jc_Con jP jxm X jxm_c299 := jc_mth_ok (Z := (jxm, [], jT, [], jxm_S0, jxm_c299_N, .ofNat 100000)) (f := 100000) jxm_ok hX jT_ok jc_c0 (by decide +kernel)
-- printsNumber575
def jxm_c300 : jc_Cn := (294, 1, [.inr (some (some 359)), .inl (2, .ofNat 0)], (3, [(1, .ofNat 0, .ofNat 575), (2, .negSucc 2147483647, .ofNat 2147483647)], [(2940955, .inl (1, .ofNat 0))], [], [], [9, 12, 13, 14, 15, 16, 17, 18, 21, 22, 23, 24, 25]), [(371, 0, 1400), (359, 27, 28)], [((2, [(1, .ofNat 2, .ofNat 579)], [(2940955, .inl (1, .ofNat 0))], [], [], [9, 12, 13, 14, 15, 16, 17, 18, 21, 22, 23, 24, 25]), none)])
def jxm_c300_N : jc_Nt := []
set_option maxRecDepth 1000000 in
theorem jxm_c300_ok (hX : jc_Xo jxm X) : jc_Con jP jxm X jxm_c300 := jc_mth_ok (Z := (jxm, [], jT, [], jxm_S0, jxm_c300_N, .ofNat 100000)) (f := 100000) jxm_ok hX jT_ok jc_c0 (by decide +kernel)
-- printsNumber599
def jxm_c301 : jc_Cn := (294, 1, [.inr (some (some 359)), .inl (2, .ofNat 0)], (3, [(1, .ofNat 0, .ofNat 599), (2, .negSucc 2147483647, .ofNat 2147483647)], [(2940955, .inl (1, .ofNat 0))], [], [], [9, 12, 13, 14, 15, 16, 17, 18, 21, 22, 23, 24, 25]), [(371, 0, 1400), (359, 27, 28)], [((2, [(1, .ofNat 2, .ofNat 603)], [(2940955, .inl (1, .ofNat 0))], [], [], [9, 12, 13, 14, 15, 16, 17, 18, 21, 22, 23, 24, 25]), none)])
def jxm_c301_N : jc_Nt := []
set_option maxRecDepth 1000000 in
theorem jxm_c301_ok (hX : jc_Xo jxm X) : jc_Con jP jxm X jxm_c301 := jc_mth_ok (Z := (jxm, [], jT, [], jxm_S0, jxm_c301_N, .ofNat 100000)) (f := 100000) jxm_ok hX jT_ok jc_c0 (by decide +kernel)
-- printsNumber613
def jxm_c302 : jc_Cn := (294, 1, [.inr (some (some 359)), .inl (2, .ofNat 0)], (3, [(1, .ofNat 0, .ofNat 613), (2, .negSucc 2147483647, .ofNat 2147483647)], [(2940955, .inl (1, .ofNat 0))], [], [], [9, 12, 13, 14, 15, 16, 17, 18, 21, 22, 23, 24, 25]), [(371, 0, 1400), (359, 27, 28)], [((2, [(1, .ofNat 2, .ofNat 617)], [(2940955, .inl (1, .ofNat 0))], [], [], [9, 12, 13, 14, 15, 16, 17, 18, 21, 22, 23, 24, 25]), none)])
def jxm_c302_N : jc_Nt := []
set_option maxRecDepth 1000000 in
theorem jxm_c302_ok (hX : jc_Xo jxm X) : jc_Con jP jxm X jxm_c302 := jc_mth_ok (Z := (jxm, [], jT, [], jxm_S0, jxm_c302_N, .ofNat 100000)) (f := 100000) jxm_ok hX jT_ok jc_c0 (by decide +kernel)
-- printsNumber627
def jxm_c303 : jc_Cn := (294, 1, [.inr (some (some 359)), .inl (2, .ofNat 0)], (3, [(1, .ofNat 0, .ofNat 627), (2, .negSucc 2147483647, .ofNat 2147483647)], [(2940955, .inl (1, .ofNat 0))], [], [], [9, 12, 13, 14, 15, 16, 17, 18, 21, 22, 23, 24, 25]), [(371, 0, 1400), (359, 27, 28)], [((2, [(1, .ofNat 2, .ofNat 631)], [(2940955, .inl (1, .ofNat 0))], [], [], [9, 12, 13, 14, 15, 16, 17, 18, 21, 22, 23, 24, 25]), none)])
def jxm_c303_N : jc_Nt := []
set_option maxRecDepth 1000000 in
theorem jxm_c303_ok (hX : jc_Xo jxm X) : jc_Con jP jxm X jxm_c303 := jc_mth_ok (Z := (jxm, [], jT, [], jxm_S0, jxm_c303_N, .ofNat 100000)) (f := 100000) jxm_ok hX jT_ok jc_c0 (by decide +kernel)
-- print
def jxm_c304 : jc_Cn := (296, 4, [.inr (some (some 359))], (1, [], [], [], [], [9, 12, 13, 14, 15, 16, 17, 18, 21, 22, 23, 24, 25]), [(371, 0, 1400), (359, 27, 28), (359, 10, 11), (359, 0, 1)], [((2, [(1, .ofNat 0, .ofNat 699)], [], [], [], [9, 12, 13, 14, 15, 16, 17, 18, 21, 22, 23, 24, 25]), some (.inl (1, .ofNat 0)))])
def jxm_c304_n7_0 : List jc_Nd := [(42, none, (1, [], [(2940955, .inl (0, .ofNat 0))], [], [], [9, 12, 13, 14, 15, 16, 17, 18, 21, 22, 23, 24, 25]), [(0, .inr (some (some 359))), (1, .inl (0, .ofNat 0))]),
    (37, none, (3, [(1, .ofNat 0, .ofNat 3), (2, .ofNat 3, .ofNat 36)], [(2940955, .inl (2, .ofNat 0))], [], [], [9, 12, 13, 14, 15, 16, 17, 18, 21, 22, 23, 24, 25]), [(0, .inr (some (some 359))), (1, .inl (0, .ofNat 1)), (2, .inl (1, .ofNat 0))]),
    (32, none, (3, [(1, .ofNat 0, .ofNat 3), (2, .ofNat 3, .ofNat 72)], [(2940955, .inl (2, .ofNat 0))], [], [], [9, 12, 13, 14, 15, 16, 17, 18, 21, 22, 23, 24, 25]), [(0, .inr (some (some 359))), (1, .inl (0, .ofNat 2)), (2, .inl (1, .ofNat 0))]),
    (27, none, (3, [(1, .ofNat 0, .ofNat 3), (2, .ofNat 3, .ofNat 108)], [(2940955, .inl (2, .ofNat 0))], [], [], [9, 12, 13, 14, 15, 16, 17, 18, 21, 22, 23, 24, 25]), [(0, .inr (some (some 359))), (1, .inl (0, .ofNat 3)), (2, .inl (1, .ofNat 0))]),
    (22, none, (3, [(1, .ofNat 0, .ofNat 3), (2, .ofNat 3, .ofNat 144)], [(2940955, .inl (2, .ofNat 0))], [], [], [9, 12, 13, 14, 15, 16, 17, 18, 21, 22, 23, 24, 25]), [(0, .inr (some (some 359))), (1, .inl (0, .ofNat 4)), (2, .inl (1, .ofNat 0))]),
    (17, none, (3, [(1, .ofNat 0, .ofNat 3), (2, .ofNat 3, .ofNat 180)], [(2940955, .inl (2, .ofNat 0))], [], [], [9, 12, 13, 14, 15, 16, 17, 18, 21, 22, 23, 24, 25]), [(0, .inr (some (some 359))), (1, .inl (0, .ofNat 5)), (2, .inl (1, .ofNat 0))]),
    (12, none, (3, [(1, .ofNat 0, .ofNat 3), (2, .ofNat 3, .ofNat 216)], [(2940955, .inl (2, .ofNat 0))], [], [], [9, 12, 13, 14, 15, 16, 17, 18, 21, 22, 23, 24, 25]), [(0, .inr (some (some 359))), (1, .inl (0, .ofNat 6)), (2, .inl (1, .ofNat 0))]),
    (7, none, (3, [(1, .ofNat 0, .ofNat 3), (2, .ofNat 3, .ofNat 252)], [(2940955, .inl (2, .ofNat 0))], [], [], [9, 12, 13, 14, 15, 16, 17, 18, 21, 22, 23, 24, 25]), [(0, .inr (some (some 359))), (1, .inl (0, .ofNat 7)), (2, .inl (1, .ofNat 0))])]
def jxm_c304_n44_0 : List jc_Nd := [(41, none, (2, [(1, .ofNat 2, .ofNat 23)], [(2940955, .inl (1, .ofNat 0))], [], [], [9, 12, 13, 14, 15, 16, 17, 18, 21, 22, 23, 24, 25]), [(0, .inr (some (some 359))), (1, .inl (0, .ofNat 0)), (2, .inl (0, .ofNat 0))]),
    (40, none, (2, [(1, .ofNat 2, .ofNat 27)], [(2940955, .inl (1, .ofNat 0))], [], [], [9, 12, 13, 14, 15, 16, 17, 18, 21, 22, 23, 24, 25]), [(0, .inr (some (some 359))), (1, .inl (0, .ofNat 0)), (2, .inl (0, .ofNat 1))]),
    (39, none, (2, [(1, .ofNat 2, .ofNat 31)], [(2940955, .inl (1, .ofNat 0))], [], [], [9, 12, 13, 14, 15, 16, 17, 18, 21, 22, 23, 24, 25]), [(0, .inr (some (some 359))), (1, .inl (0, .ofNat 0)), (2, .inl (0, .ofNat 2))]),
    (36, none, (2, [(1, .ofNat 2, .ofNat 59)], [(2940955, .inl (1, .ofNat 0))], [], [], [9, 12, 13, 14, 15, 16, 17, 18, 21, 22, 23, 24, 25]), [(0, .inr (some (some 359))), (1, .inl (0, .ofNat 1)), (2, .inl (0, .ofNat 0))]),
    (38, none, (2, [(1, .ofNat 2, .ofNat 35)], [(2940955, .inl (1, .ofNat 0))], [], [], [9, 12, 13, 14, 15, 16, 17, 18, 21, 22, 23, 24, 25]), [(0, .inr (some (some 359))), (1, .inl (0, .ofNat 0)), (2, .inl (0, .ofNat 3))]),
    (35, none, (2, [(1, .ofNat 2, .ofNat 63)], [(2940955, .inl (1, .ofNat 0))], [], [], [9, 12, 13, 14, 15, 16, 17, 18, 21, 22, 23, 24, 25]), [(0, .inr (some (some 359))), (1, .inl (0, .ofNat 1)), (2, .inl (0, .ofNat 1))]),
    (34, none, (2, [(1, .ofNat 2, .ofNat 67)], [(2940955, .inl (1, .ofNat 0))], [], [], [9, 12, 13, 14, 15, 16, 17, 18, 21, 22, 23, 24, 25]), [(0, .inr (some (some 359))), (1, .inl (0, .ofNat 1)), (2, .inl (0, .ofNat 2))]),
    (31, none, (2, [(1, .ofNat 2, .ofNat 95)], [(2940955, .inl (1, .ofNat 0))], [], [], [9, 12, 13, 14, 15, 16, 17, 18, 21, 22, 23, 24, 25]), [(0, .inr (some (some 359))), (1, .inl (0, .ofNat 2)), (2, .inl (0, .ofNat 0))]),
    (33, none, (2, [(1, .ofNat 2, .ofNat 71)], [(2940955, .inl (1, .ofNat 0))], [], [], [9, 12, 13, 14, 15, 16, 17, 18, 21, 22, 23, 24, 25]), [(0, .inr (some (some 359))), (1, .inl (0, .ofNat 1)), (2, .inl (0, .ofNat 3))]),
    (30, none, (2, [(1, .ofNat 2, .ofNat 99)], [(2940955, .inl (1, .ofNat 0))], [], [], [9, 12, 13, 14, 15, 16, 17, 18, 21, 22, 23, 24, 25]), [(0, .inr (some (some 359))), (1, .inl (0, .ofNat 2)), (2, .inl (0, .ofNat 1))]),
    (29, none, (2, [(1, .ofNat 2, .ofNat 103)], [(2940955, .inl (1, .ofNat 0))], [], [], [9, 12, 13, 14, 15, 16, 17, 18, 21, 22, 23, 24, 25]), [(0, .inr (some (some 359))), (1, .inl (0, .ofNat 2)), (2, .inl (0, .ofNat 2))]),
    (26, none, (2, [(1, .ofNat 2, .ofNat 131)], [(2940955, .inl (1, .ofNat 0))], [], [], [9, 12, 13, 14, 15, 16, 17, 18, 21, 22, 23, 24, 25]), [(0, .inr (some (some 359))), (1, .inl (0, .ofNat 3)), (2, .inl (0, .ofNat 0))]),
    (28, none, (2, [(1, .ofNat 2, .ofNat 107)], [(2940955, .inl (1, .ofNat 0))], [], [], [9, 12, 13, 14, 15, 16, 17, 18, 21, 22, 23, 24, 25]), [(0, .inr (some (some 359))), (1, .inl (0, .ofNat 2)), (2, .inl (0, .ofNat 3))]),
    (25, none, (2, [(1, .ofNat 2, .ofNat 135)], [(2940955, .inl (1, .ofNat 0))], [], [], [9, 12, 13, 14, 15, 16, 17, 18, 21, 22, 23, 24, 25]), [(0, .inr (some (some 359))), (1, .inl (0, .ofNat 3)), (2, .inl (0, .ofNat 1))]),
    (24, none, (2, [(1, .ofNat 2, .ofNat 139)], [(2940955, .inl (1, .ofNat 0))], [], [], [9, 12, 13, 14, 15, 16, 17, 18, 21, 22, 23, 24, 25]), [(0, .inr (some (some 359))), (1, .inl (0, .ofNat 3)), (2, .inl (0, .ofNat 2))]),
    (21, none, (2, [(1, .ofNat 2, .ofNat 167)], [(2940955, .inl (1, .ofNat 0))], [], [], [9, 12, 13, 14, 15, 16, 17, 18, 21, 22, 23, 24, 25]), [(0, .inr (some (some 359))), (1, .inl (0, .ofNat 4)), (2, .inl (0, .ofNat 0))]),
    (23, none, (2, [(1, .ofNat 2, .ofNat 143)], [(2940955, .inl (1, .ofNat 0))], [], [], [9, 12, 13, 14, 15, 16, 17, 18, 21, 22, 23, 24, 25]), [(0, .inr (some (some 359))), (1, .inl (0, .ofNat 3)), (2, .inl (0, .ofNat 3))]),
    (20, none, (2, [(1, .ofNat 2, .ofNat 171)], [(2940955, .inl (1, .ofNat 0))], [], [], [9, 12, 13, 14, 15, 16, 17, 18, 21, 22, 23, 24, 25]), [(0, .inr (some (some 359))), (1, .inl (0, .ofNat 4)), (2, .inl (0, .ofNat 1))]),
    (19, none, (2, [(1, .ofNat 2, .ofNat 175)], [(2940955, .inl (1, .ofNat 0))], [], [], [9, 12, 13, 14, 15, 16, 17, 18, 21, 22, 23, 24, 25]), [(0, .inr (some (some 359))), (1, .inl (0, .ofNat 4)), (2, .inl (0, .ofNat 2))]),
    (16, none, (2, [(1, .ofNat 2, .ofNat 203)], [(2940955, .inl (1, .ofNat 0))], [], [], [9, 12, 13, 14, 15, 16, 17, 18, 21, 22, 23, 24, 25]), [(0, .inr (some (some 359))), (1, .inl (0, .ofNat 5)), (2, .inl (0, .ofNat 0))]),
    (18, none, (2, [(1, .ofNat 2, .ofNat 179)], [(2940955, .inl (1, .ofNat 0))], [], [], [9, 12, 13, 14, 15, 16, 17, 18, 21, 22, 23, 24, 25]), [(0, .inr (some (some 359))), (1, .inl (0, .ofNat 4)), (2, .inl (0, .ofNat 3))]),
    (15, none, (2, [(1, .ofNat 2, .ofNat 207)], [(2940955, .inl (1, .ofNat 0))], [], [], [9, 12, 13, 14, 15, 16, 17, 18, 21, 22, 23, 24, 25]), [(0, .inr (some (some 359))), (1, .inl (0, .ofNat 5)), (2, .inl (0, .ofNat 1))]),
    (14, none, (2, [(1, .ofNat 2, .ofNat 211)], [(2940955, .inl (1, .ofNat 0))], [], [], [9, 12, 13, 14, 15, 16, 17, 18, 21, 22, 23, 24, 25]), [(0, .inr (some (some 359))), (1, .inl (0, .ofNat 5)), (2, .inl (0, .ofNat 2))]),
    (11, none, (2, [(1, .ofNat 2, .ofNat 239)], [(2940955, .inl (1, .ofNat 0))], [], [], [9, 12, 13, 14, 15, 16, 17, 18, 21, 22, 23, 24, 25]), [(0, .inr (some (some 359))), (1, .inl (0, .ofNat 6)), (2, .inl (0, .ofNat 0))]),
    (13, none, (2, [(1, .ofNat 2, .ofNat 215)], [(2940955, .inl (1, .ofNat 0))], [], [], [9, 12, 13, 14, 15, 16, 17, 18, 21, 22, 23, 24, 25]), [(0, .inr (some (some 359))), (1, .inl (0, .ofNat 5)), (2, .inl (0, .ofNat 3))]),
    (10, none, (2, [(1, .ofNat 2, .ofNat 243)], [(2940955, .inl (1, .ofNat 0))], [], [], [9, 12, 13, 14, 15, 16, 17, 18, 21, 22, 23, 24, 25]), [(0, .inr (some (some 359))), (1, .inl (0, .ofNat 6)), (2, .inl (0, .ofNat 1))]),
    (9, none, (2, [(1, .ofNat 2, .ofNat 247)], [(2940955, .inl (1, .ofNat 0))], [], [], [9, 12, 13, 14, 15, 16, 17, 18, 21, 22, 23, 24, 25]), [(0, .inr (some (some 359))), (1, .inl (0, .ofNat 6)), (2, .inl (0, .ofNat 2))]),
    (8, none, (2, [(1, .ofNat 2, .ofNat 251)], [(2940955, .inl (1, .ofNat 0))], [], [], [9, 12, 13, 14, 15, 16, 17, 18, 21, 22, 23, 24, 25]), [(0, .inr (some (some 359))), (1, .inl (0, .ofNat 6)), (2, .inl (0, .ofNat 3))])]
def jxm_c304_n86_0 : List jc_Nd := [(6, none, (2, [(1, .ofNat 0, .ofNat 252)], [(2940955, .inl (1, .ofNat 0))], [], [], [9, 12, 13, 14, 15, 16, 17, 18, 21, 22, 23, 24, 25]), [(0, .inr (some (some 359))), (1, .inl (0, .ofNat 0))]),
    (5, none, (2, [(1, .ofNat 3, .ofNat 328)], [(2940955, .inl (1, .ofNat 0))], [], [], [9, 12, 13, 14, 15, 16, 17, 18, 21, 22, 23, 24, 25]), [(0, .inr (some (some 359))), (1, .inl (0, .ofNat 1))]),
    (4, none, (2, [(1, .ofNat 3, .ofNat 404)], [(2940955, .inl (1, .ofNat 0))], [], [], [9, 12, 13, 14, 15, 16, 17, 18, 21, 22, 23, 24, 25]), [(0, .inr (some (some 359))), (1, .inl (0, .ofNat 2))]),
    (3, none, (2, [(1, .ofNat 3, .ofNat 480)], [(2940955, .inl (1, .ofNat 0))], [], [], [9, 12, 13, 14, 15, 16, 17, 18, 21, 22, 23, 24, 25]), [(0, .inr (some (some 359))), (1, .inl (0, .ofNat 3))]),
    (2, none, (2, [(1, .ofNat 3, .ofNat 556)], [(2940955, .inl (1, .ofNat 0))], [], [], [9, 12, 13, 14, 15, 16, 17, 18, 21, 22, 23, 24, 25]), [(0, .inr (some (some 359))), (1, .inl (0, .ofNat 4))]),
    (1, none, (2, [(1, .ofNat 3, .ofNat 632)], [(2940955, .inl (1, .ofNat 0))], [], [], [9, 12, 13, 14, 15, 16, 17, 18, 21, 22, 23, 24, 25]), [(0, .inr (some (some 359))), (1, .inl (0, .ofNat 5))])]
def jxm_c304_N : jc_Nt := [some [none, none, none, none, none, none, none, some (jxm_c304_n7_0), none, none, none, none, none, none, none, none],
  none,
  some [none, none, none, none, none, none, none, none, none, none, none, none, some (jxm_c304_n44_0), none, none, none],
  none,
  none,
  some [none, none, none, none, none, none, some (jxm_c304_n86_0), none, none, none, none, none, none, none, none, none]]
noncomputable def jxm_c304_Z : jc_Ce := (jxm, [], jT, [jxm_c212, jxm_c213, jxm_c214, jxm_c215, jxm_c216, jxm_c217, jxm_c218, jxm_c219, jxm_c220, jxm_c221, jxm_c222, jxm_c223, jxm_c224, jxm_c225, jxm_c226, jxm_c227, jxm_c228, jxm_c229, jxm_c230, jxm_c231, jxm_c232, jxm_c233, jxm_c234, jxm_c235, jxm_c236, jxm_c237, jxm_c238, jxm_c239, jxm_c240, jxm_c241, jxm_c242, jxm_c243, jxm_c244, jxm_c245, jxm_c246, jxm_c247, jxm_c248, jxm_c249, jxm_c250, jxm_c251, jxm_c252, jxm_c253, jxm_c254, jxm_c255, jxm_c256, jxm_c257, jxm_c258, jxm_c259, jxm_c260, jxm_c261, jxm_c262, jxm_c263, jxm_c264, jxm_c265, jxm_c266, jxm_c267, jxm_c268, jxm_c269, jxm_c270, jxm_c271, jxm_c272, jxm_c273, jxm_c274, jxm_c275, jxm_c276, jxm_c277, jxm_c278, jxm_c279, jxm_c280, jxm_c281, jxm_c282, jxm_c283, jxm_c284, jxm_c285, jxm_c286, jxm_c287, jxm_c288, jxm_c289, jxm_c290, jxm_c291, jxm_c292, jxm_c293, jxm_c294, jxm_c295, jxm_c296, jxm_c297, jxm_c298, jxm_c299, jxm_c300, jxm_c301, jxm_c302, jxm_c303], jxm_S0, jxm_c304_N, .ofNat 100000)
set_option maxRecDepth 1000000 in
theorem jxm_c304_k7_0 : jc_ndc jxm_c304_Z 100000 jxm_c304 7 jxm_c304_n7_0 = true := by decide +kernel
set_option maxRecDepth 1000000 in
theorem jxm_c304_k44_0 : jc_ndc jxm_c304_Z 100000 jxm_c304 44 jxm_c304_n44_0 = true := by decide +kernel
end Jjxm58

/-! contracts of the class, told in A (16); written by wip/jc/e4.py -/
section Jjxa16
variable {X : J_H → Prop}
-- _append
def jxa_c257 : jc_Cn := (104, 1, [.inr (some (some 1)), .inl (1, .ofNat 0)], (2, [(1, .negSucc 2147483647, .ofNat 2147483647)], [], [], [], [1, 2, 3, 4, 5, 6, 7]), [(1, 1, 2), (2, 0, 700)], [((1, [], [], [], [], [1, 2, 3, 4, 5, 6, 7]), none)])
def jxa_c257_N : jc_Nt := [some [none, none, none, none, none, none, none, none, none, none, none, none, some ([(5, none, (3, [(1, .negSucc 2147483647, .ofNat 2147483647), (2, .ofNat 0, .ofNat 696)], [(8193, .inl (2, .ofNat 0))], [], [], [1, 2, 3, 4, 5, 6, 7]), [(0, .inr (some (some 1))), (1, .inl (1, .ofNat 0)), (2, .inl (0, .ofNat 24))]),
    (4, none, (3, [(1, .negSucc 2147483647, .ofNat 2147483647), (2, .ofNat 1, .ofNat 697)], [(8193, .inl (2, .ofNat 0))], [], [], [1, 2, 3, 4, 5, 6, 7]), [(0, .inr (some (some 1))), (1, .inl (1, .ofNat 0)), (2, .inl (0, .ofNat 16))]),
    (3, none, (3, [(1, .negSucc 2147483647, .ofNat 2147483647), (2, .ofNat 2, .ofNat 698)], [(8193, .inl (2, .ofNat 0))], [], [], [1, 2, 3, 4, 5, 6, 7]), [(0, .inr (some (some 1))), (1, .inl (1, .ofNat 0)), (2, .inl (0, .ofNat 8))]),
    (2, none, (3, [(1, .negSucc 2147483647, .ofNat 2147483647), (2, .ofNat 3, .ofNat 699)], [(8193, .inl (2, .ofNat 0))], [], [], [1, 2, 3, 4, 5, 6, 7]), [(0, .inr (some (some 1))), (1, .inl (1, .ofNat 0)), (2, .inl (0, .ofNat 0))]),
    (1, none, (3, [(1, .negSucc 2147483647, .ofNat 2147483647), (2, .ofNat 4, .ofNat 700)], [(8193, .inl (2, .ofNat 0))], [], [], [1, 2, 3, 4, 5, 6, 7]), [(0, .inr (some (some 1))), (1, .inl (1, .ofNat 0)), (2, .inl (0, .negSucc 7))])]), none, none, none]]
set_option maxRecDepth 1000000 in
theorem jxa_c257_ok (hX : jc_Xo jxa X) : jc_Con jP jxa X jxa_c257 := jc_mth_ok (Z := (jxa, [], jT, [], jxa_SP, jxa_c257_N, .ofNat 100000)) (f := 100000) jxa_ok hX jT_ok jc_c0 (by decide +kernel)
-- _readWord
def jxa_c258 : jc_Cn := (109, 0, [.inr (some (some 1))], (1, [], [], [], [], [1, 2, 3, 4, 5, 6, 7]), [(1, 3, 4), (1, 4, 5), (1, 5, 6), (1, 6, 7), (1, 7, 8)], [((1, [], [], [], [], [1, 2, 3, 4, 5, 6, 7]), none)])
def jxa_c258_N : jc_Nt := [some [none, none, none, none, none, some ([(1, some 1, (2, [(1, .ofNat 0, .ofNat 700)], [(8195, .inl (1, .ofNat 0))], [], [], [1, 2, 3, 4, 5, 6, 7]), [(0, .inr (some (some 1)))])]), none, none, none, none, none, none, none, none, none, none]]
set_option maxRecDepth 1000000 in
theorem jxa_c258_ok (hX : jc_Xo jxa X) : jc_Con jP jxa X jxa_c258 := jc_mth_ok (Z := (jxa, [], jT, [], jxa_SP, jxa_c258_N, .ofNat 100000)) (f := 100000) jxa_ok hX jT_ok jc_c0 (by decide +kernel)
-- _readNumber
def jxa_c259 : jc_Cn := (110, 0, [.inr (some (some 1))], (1, [], [], [], [], [1, 2, 3, 4, 5, 6, 7]), [(1, 3, 4), (1, 4, 5), (1, 5, 6), (1, 6, 7), (1, 7, 8)], [((1, [], [], [], [], [1, 2, 3, 4, 5, 6, 7]), none)])
def jxa_c259_N : jc_Nt := [some [none, none, none, none, none, some ([(1, some 1, (2, [(1, .ofNat 0, .ofNat 700)], [(8195, .inl (1, .ofNat 0))], [], [], [1, 2, 3, 4, 5, 6, 7]), [(0, .inr (some (some 1)))])]), none, none, none, none, none, none, none, none, none, none]]
set_option maxRecDepth 1000000 in
theorem jxa_c259_ok (hX : jc_Xo jxa X) : jc_Con jP jxa X jxa_c259 := jc_mth_ok (Z := (jxa, [], jT, [], jxa_SP, jxa_c259_N, .ofNat 100000)) (f := 100000) jxa_ok hX jT_ok jc_c0 (by decide +kernel)
-- _advance
def jxa_c260 : jc_Cn := (107, 1, [.inr (some (some 1))], (1, [], [], [], [], [1, 2, 3, 4, 5, 6, 7]), [(1, 3, 4), (1, 4, 5), (1, 5, 6), (1, 6, 7), (1, 7, 8)], [((1, [], [], [], [], [1, 2, 3, 4, 5, 6, 7]), none)])
def jxa_c260_N : jc_Nt := [some [some ([(1, some 1, (2, [(1, .ofNat 0, .ofNat 700)], [(8195, .inl (1, .ofNat 0))], [], [], [1, 2, 3, 4, 5, 6, 7]), [(0, .inr (some (some 1)))])]), none, none, none, none, none, none, none, none, none, none, none, none, none, none, none]]
set_option maxRecDepth 1000000 in
theorem jxa_c260_ok (hX : jc_Xo jxa X) : jc_Con jP jxa X jxa_c260 := jc_mth_ok (Z := (jxa, [], jT, [jxa_c258, jxa_c259], jxa_SP, jxa_c260_N, .ofNat 100000)) (f := 100000) jxa_ok hX jT_ok (jc_c1 (jxa_c258_ok hX) (jc_c1 (jxa_c259_ok hX) jc_c0)) (by decide +kernel)
-- B._stationNamed
def jxa_c261 : jc_Cn := (44, 0, [.inr (some (some 3)), .inr none], (1, [], [(24577, .inr (some (some 343)))], [], [], [1, 2, 3, 4, 5, 6, 7]), [], [((2, [(1, .negSucc 0, .ofNat 6)], [(24577, .inr (some (some 343)))], [], [], [1, 2, 3, 4, 5, 6, 7]), some (.inl (1, .ofNat 0)))])
def jxa_c261_N : jc_Nt := [some [none, none, some ([(8, none, (1, [], [(24577, .inr (some (some 343)))], [], [], [1, 2, 3, 4, 5, 6, 7]), [(0, .inr (some (some 3))), (1, .inr none), (3, .inl (0, .ofNat 0))]),
    (7, none, (1, [], [(24577, .inr (some (some 343)))], [], [], [1, 2, 3, 4, 5, 6, 7]), [(0, .inr (some (some 3))), (1, .inr none), (3, .inl (0, .ofNat 1))]),
    (6, none, (1, [], [(24577, .inr (some (some 343)))], [], [], [1, 2, 3, 4, 5, 6, 7]), [(0, .inr (some (some 3))), (1, .inr none), (3, .inl (0, .ofNat 2))]),
    (5, none, (1, [], [(24577, .inr (some (some 343)))], [], [], [1, 2, 3, 4, 5, 6, 7]), [(0, .inr (some (some 3))), (1, .inr none), (3, .inl (0, .ofNat 3))]),
    (4, none, (1, [], [(24577, .inr (some (some 343)))], [], [], [1, 2, 3, 4, 5, 6, 7]), [(0, .inr (some (some 3))), (1, .inr none), (3, .inl (0, .ofNat 4))]),
    (3, none, (1, [], [(24577, .inr (some (some 343)))], [], [], [1, 2, 3, 4, 5, 6, 7]), [(0, .inr (some (some 3))), (1, .inr none), (3, .inl (0, .ofNat 5))]),
    (2, none, (1, [], [(24577, .inr (some (some 343)))], [], [], [1, 2, 3, 4, 5, 6, 7]), [(0, .inr (some (some 3))), (1, .inr none), (3, .inl (0, .ofNat 6))]),
    (1, none, (1, [], [(24577, .inr (some (some 343)))], [], [], [1, 2, 3, 4, 5, 6, 7]), [(0, .inr (some (some 3))), (1, .inr none), (3, .inl (0, .ofNat 7))])]), none, none, none, none, none, none, none, none, none, none, none, none, none]]
set_option maxRecDepth 1000000 in
theorem jxa_c261_ok (hX : jc_Xo jxa X) : jc_Con jP jxa X jxa_c261 := jc_mth_ok (Z := (jxa, [], jT, [], jxa_SP, jxa_c261_N, .ofNat 100000)) (f := 100000) jxa_ok hX jT_ok jc_c0 (by decide +kernel)
-- B._takeName
def jxa_c262 : jc_Cn := (41, 2, [.inr (some (some 3))], (1, [], [(24577, .inr (some (some 343))), (24578, .inl (0, .ofNat 0))], [], [], [1, 2, 3, 4, 5, 6, 7]), [(1, 3, 4), (1, 4, 5), (1, 5, 6), (1, 6, 7), (1, 7, 8), (3, 2, 3), (3, 3, 4)], [((2, [(1, .ofNat 1, .ofNat 2)], [(24577, .inr (some (some 343))), (24578, .inl (1, .ofNat 0))], [], [], [1, 2, 3, 4, 5, 6, 7]), some (.inl (0, .ofNat 0))), ((1, [], [(24577, .inr (some (some 343))), (24578, .inl (0, .ofNat 0))], [], [], [1, 2, 3, 4, 5, 6, 7]), some (.inl (0, .ofNat 1)))])
def jxa_c262_N : jc_Nt := []
set_option maxRecDepth 1000000 in
theorem jxa_c262_ok (hX : jc_Xo jxa X) : jc_Con jP jxa X jxa_c262 := jc_mth_ok (Z := (jxa, [], jT, [jxa_c260], jxa_SP, jxa_c262_N, .ofNat 100000)) (f := 100000) jxa_ok hX jT_ok (jc_c1 (jxa_c260_ok hX) jc_c0) (by decide +kernel)
-- B._takeNumber
def jxa_c263 : jc_Cn := (39, 2, [.inr (some (some 3)), .inl (1, .ofNat 0), .inl (2, .ofNat 0)], (3, [(1, .negSucc 2147483647, .ofNat 2147483647), (2, .negSucc 2147483647, .ofNat 2147483647)], [(24577, .inr (some (some 343))), (24578, .inl (0, .ofNat 0))], [], [], [1, 2, 3, 4, 5, 6, 7]), [(1, 3, 4), (1, 4, 5), (1, 5, 6), (1, 6, 7), (1, 7, 8), (3, 2, 3), (3, 3, 4)], [((2, [(1, .ofNat 1, .ofNat 3)], [(24577, .inr (some (some 343))), (24578, .inl (1, .ofNat 0))], [], [], [1, 2, 3, 4, 5, 6, 7]), some (.inl (0, .ofNat 0))), ((1, [], [(24577, .inr (some (some 343))), (24578, .inl (0, .ofNat 0))], [], [], [1, 2, 3, 4, 5, 6, 7]), some (.inl (0, .ofNat 1)))])
def jxa_c263_N : jc_Nt := []
set_option maxRecDepth 1000000 in
theorem jxa_c263_ok (hX : jc_Xo jxa X) : jc_Con jP jxa X jxa_c263 := jc_mth_ok (Z := (jxa, [], jT, [jxa_c260], jxa_SP, jxa_c263_N, .ofNat 100000)) (f := 100000) jxa_ok hX jT_ok (jc_c1 (jxa_c260_ok hX) jc_c0) (by decide +kernel)
-- B._takeNewName
def jxa_c264 : jc_Cn := (42, 3, [.inr (some (some 3))], (1, [], [(24577, .inr (some (some 343))), (24578, .inl (0, .ofNat 0))], [], [], [1, 2, 3, 4, 5, 6, 7]), [(1, 3, 4), (1, 4, 5), (1, 5, 6), (1, 6, 7), (1, 7, 8), (3, 2, 3), (3, 3, 4)], [((2, [(1, .ofNat 1, .ofNat 4)], [(24577, .inr (some (some 343))), (24578, .inl (1, .ofNat 0))], [], [], [1, 2, 3, 4, 5, 6, 7]), some (.inl (0, .ofNat 0))), ((1, [], [(24577, .inr (some (some 343))), (24578, .inl (0, .ofNat 0))], [], [], [1, 2, 3, 4, 5, 6, 7]), some (.inl (0, .ofNat 1)))])
def jxa_c264_N : jc_Nt := [none,
  none,
  some [some ([(6, none, (2, [(1, .ofNat 0, .ofNat 1)], [(24577, .inr (some (some 343))), (24578, .inl (0, .ofNat 0))], [], [], [1, 2, 3, 4, 5, 6, 7]), [(0, .inr (some (some 3))), (1, .inl (1, .ofNat 0)), (2, .inl (0, .ofNat 0))]),
    (5, none, (2, [(1, .ofNat 0, .ofNat 1)], [(24577, .inr (some (some 343))), (24578, .inl (0, .ofNat 0))], [], [], [1, 2, 3, 4, 5, 6, 7]), [(0, .inr (some (some 3))), (1, .inl (1, .ofNat 0)), (2, .inl (0, .ofNat 1))]),
    (4, none, (2, [(1, .ofNat 0, .ofNat 1)], [(24577, .inr (some (some 343))), (24578, .inl (0, .ofNat 0))], [], [], [1, 2, 3, 4, 5, 6, 7]), [(0, .inr (some (some 3))), (1, .inl (1, .ofNat 0)), (2, .inl (0, .ofNat 2))]),
    (3, none, (2, [(1, .ofNat 0, .ofNat 1)], [(24577, .inr (some (some 343))), (24578, .inl (0, .ofNat 0))], [], [], [1, 2, 3, 4, 5, 6, 7]), [(0, .inr (some (some 3))), (1, .inl (1, .ofNat 0)), (2, .inl (0, .ofNat 3))]),
    (2, none, (2, [(1, .ofNat 0, .ofNat 1)], [(24577, .inr (some (some 343))), (24578, .inl (0, .ofNat 0))], [], [], [1, 2, 3, 4, 5, 6, 7]), [(0, .inr (some (some 3))), (1, .inl (1, .ofNat 0)), (2, .inl (0, .ofNat 4))]),
    (1, none, (2, [(1, .ofNat 0, .ofNat 1)], [(24577, .inr (some (some 343))), (24578, .inl (0, .ofNat 0))], [], [], [1, 2, 3, 4, 5, 6, 7]), [(0, .inr (some (some 3))), (1, .inl (1, .ofNat 0)), (2, .inl (0, .ofNat 5))])]), none, none, none, none, none, none, none, none, none, none, none, none, none, none, none]]
set_option maxRecDepth 1000000 in
theorem jxa_c264_ok (hX : jc_Xo jxa X) : jc_Con jP jxa X jxa_c264 := jc_mth_ok (Z := (jxa, [], jT, [jxa_c262, jxa_c261], jxa_SP, jxa_c264_N, .ofNat 100000)) (f := 100000) jxa_ok hX jT_ok (jc_c1 (jxa_c262_ok hX) (jc_c1 (jxa_c261_ok hX) jc_c0)) (by decide +kernel)
-- B._readTracks
def jxa_c265 : jc_Cn := (36, 2, [.inr (some (some 3)), .inl (1, .ofNat 0)], (2, [(1, .ofNat 0, .ofNat 6)], [(24577, .inr (some (some 343))), (24578, .inl (0, .ofNat 0))], [], [], [1, 2, 3, 4, 5, 6, 7]), [(1, 3, 4), (1, 4, 5), (1, 5, 6), (1, 6, 7), (1, 7, 8), (3, 2, 3), (3, 3, 4), (347, 0, 21), (346, 0, 7)], [((2, [(1, .ofNat 1, .ofNat 5)], [(24577, .inr (some (some 343))), (24578, .inl (1, .ofNat 0))], [], [], [1, 2, 3, 4, 5, 6, 7]), some (.inl (0, .ofNat 0))), ((1, [], [(24577, .inr (some (some 343))), (24578, .inl (0, .ofNat 0))], [], [], [1, 2, 3, 4, 5, 6, 7]), some (.inl (0, .ofNat 1)))])
def jxa_c265_N : jc_Nt := [some [none, none, some ([(5, none, (2, [(1, .ofNat 0, .ofNat 6)], [(24577, .inr (some (some 343))), (24578, .inl (0, .ofNat 0))], [], [], [1, 2, 3, 4, 5, 6, 7]), [(0, .inr (some (some 3))), (1, .inl (1, .ofNat 0)), (2, .inl (0, .ofNat 0))]),
    (4, none, (2, [(1, .ofNat 0, .ofNat 6)], [(24577, .inr (some (some 343))), (24578, .inl (0, .ofNat 0))], [], [], [1, 2, 3, 4, 5, 6, 7]), [(0, .inr (some (some 3))), (1, .inl (1, .ofNat 0)), (2, .inl (0, .ofNat 1))]),
    (3, none, (2, [(1, .ofNat 0, .ofNat 6)], [(24577, .inr (some (some 343))), (24578, .inl (0, .ofNat 0))], [], [], [1, 2, 3, 4, 5, 6, 7]), [(0, .inr (some (some 3))), (1, .inl (1, .ofNat 0)), (2, .inl (0, .ofNat 2))]),
    (2, none, (2, [(1, .ofNat 0, .ofNat 6)], [(24577, .inr (some (some 343))), (24578, .inl (0, .ofNat 0))], [], [], [1, 2, 3, 4, 5, 6, 7]), [(0, .inr (some (some 3))), (1, .inl (1, .ofNat 0)), (2, .inl (0, .ofNat 3))]),
    (1, none, (2, [(1, .ofNat 0, .ofNat 6)], [(24577, .inr (some (some 343))), (24578, .inl (0, .ofNat 0))], [], [], [1, 2, 3, 4, 5, 6, 7]), [(0, .inr (some (some 3))), (1, .inl (1, .ofNat 0)), (2, .inl (0, .ofNat 4))])]), none, none, none, none, none, none, none, none, none, none, none, none, none]]
set_option maxRecDepth 1000000 in
theorem jxa_c265_ok (hX : jc_Xo jxa X) : jc_Con jP jxa X jxa_c265 := jc_mth_ok (Z := (jxa, [], jT, [jxa_c260], jxa_SP, jxa_c265_N, .ofNat 100000)) (f := 100000) jxa_ok hX jT_ok (jc_c1 (jxa_c260_ok hX) jc_c0) (by decide +kernel)
-- B._readStation
def jxa_c266 : jc_Cn := (35, 4, [.inr (some (some 3))], (1, [], [(24577, .inr (some (some 343))), (24578, .inl (0, .ofNat 0))], [], [], [1, 2, 3, 4, 5, 6, 7]), [(1, 3, 4), (1, 4, 5), (1, 5, 6), (1, 6, 7), (1, 7, 8), (3, 2, 3), (3, 3, 4), (344, 0, 7), (345, 0, 7), (347, 0, 21), (346, 0, 7), (343, 0, 1)], [((2, [(1, .ofNat 1, .ofNat 5)], [(24577, .inr (some (some 343))), (24578, .inl (1, .ofNat 0))], [], [], [1, 2, 3, 4, 5, 6, 7]), some (.inl (0, .ofNat 0))), ((1, [], [(24577, .inr (some (some 343))), (24578, .inl (0, .ofNat 0))], [], [], [1, 2, 3, 4, 5, 6, 7]), some (.inl (0, .ofNat 1)))])
def jxa_c266_N : jc_Nt := []
set_option maxRecDepth 1000000 in
theorem jxa_c266_ok (hX : jc_Xo jxa X) : jc_Con jP jxa X jxa_c266 := jc_mth_ok (Z := (jxa, [], jT, [jxa_c265, jxa_c263, jxa_c264], jxa_SP, jxa_c266_N, .ofNat 100000)) (f := 100000) jxa_ok hX jT_ok (jc_c1 (jxa_c265_ok hX) (jc_c1 (jxa_c263_ok hX) (jc_c1 (jxa_c264_ok hX) jc_c0))) (by decide +kernel)
-- B._readManner
def jxa_c267 : jc_Cn := (38, 3, [.inr (some (some 3)), .inl (1, .ofNat 0)], (2, [(1, .ofNat 0, .ofNat 4)], [(24577, .inr (some (some 343))), (24578, .inl (0, .ofNat 0))], [], [], [1, 2, 3, 4, 5, 6, 7]), [(1, 3, 4), (1, 4, 5), (1, 5, 6), (1, 6, 7), (1, 7, 8), (3, 2, 3), (3, 3, 4), (353, 0, 5), (354, 0, 5)], [((2, [(1, .ofNat 1, .ofNat 3)], [(24577, .inr (some (some 343))), (24578, .inl (1, .ofNat 0))], [], [], [1, 2, 3, 4, 5, 6, 7]), some (.inl (0, .ofNat 0))), ((1, [], [(24577, .inr (some (some 343))), (24578, .inl (0, .ofNat 0))], [], [], [1, 2, 3, 4, 5, 6, 7]), some (.inl (0, .ofNat 1)))])
def jxa_c267_N : jc_Nt := []
set_option maxRecDepth 1000000 in
theorem jxa_c267_ok (hX : jc_Xo jxa X) : jc_Con jP jxa X jxa_c267 := jc_mth_ok (Z := (jxa, [], jT, [jxa_c263, jxa_c260], jxa_SP, jxa_c267_N, .ofNat 100000)) (f := 100000) jxa_ok hX jT_ok (jc_c1 (jxa_c263_ok hX) (jc_c1 (jxa_c260_ok hX) jc_c0)) (by decide +kernel)
-- B._readTrain
def jxa_c268 : jc_Cn := (37, 4, [.inr (some (some 3))], (1, [], [(24577, .inr (some (some 343))), (24578, .inl (0, .ofNat 0))], [], [], [1, 2, 3, 4, 5, 6, 7]), [(1, 3, 4), (1, 4, 5), (1, 5, 6), (1, 6, 7), (1, 7, 8), (3, 2, 3), (3, 3, 4), (348, 0, 5), (349, 0, 5), (350, 0, 5), (351, 0, 5), (352, 0, 5), (353, 0, 5), (354, 0, 5), (343, 5, 6)], [((2, [(1, .ofNat 1, .ofNat 5)], [(24577, .inr (some (some 343))), (24578, .inl (1, .ofNat 0))], [], [], [1, 2, 3, 4, 5, 6, 7]), some (.inl (0, .ofNat 0))), ((1, [], [(24577, .inr (some (some 343))), (24578, .inl (0, .ofNat 0))], [], [], [1, 2, 3, 4, 5, 6, 7]), some (.inl (0, .ofNat 1)))])
def jxa_c268_N : jc_Nt := []
set_option maxRecDepth 1000000 in
theorem jxa_c268_ok (hX : jc_Xo jxa X) : jc_Con jP jxa X jxa_c268 := jc_mth_ok (Z := (jxa, [], jT, [jxa_c267, jxa_c263, jxa_c262, jxa_c264, jxa_c261], jxa_SP, jxa_c268_N, .ofNat 100000)) (f := 100000) jxa_ok hX jT_ok (jc_c1 (jxa_c267_ok hX) (jc_c1 (jxa_c263_ok hX) (jc_c1 (jxa_c262_ok hX) (jc_c1 (jxa_c264_ok hX) (jc_c1 (jxa_c261_ok hX) jc_c0))))) (by decide +kernel)
end Jjxa16

/-! contracts of the class, told in A (4); written by wip/jc/e4.py -/
section Jjxa4
variable {X : J_H → Prop}
-- now.A.comeIn2
def jxa_c54 : jc_Cn := (97, 1, [.inr (some (some 4)), .inl (0, .ofNat 2), .inl (2, .ofNat 0)], (3, [(1, .ofNat 3, .ofNat 5), (2, .ofNat 0, .ofNat 20)], [(32768, .inr (some (some 327))), (57346, .inl (0, .ofNat 0)), (2678789, .inl (1, .ofNat 0))], [], [], [2, 3, 4, 5, 6, 7]), [(7, 0, 5), (8, 0, 5), (9, 0, 5), (10, 0, 5), (12, 0, 6), (14, 0, 35), (15, 0, 35), (4, 3, 4), (21, 0, 25), (22, 0, 25), (23, 0, 25), (24, 0, 7), (25, 0, 5), (26, 0, 6), (27, 0, 30), (28, 0, 260), (20, 8, 9)], [((2, [(1, .ofNat 3, .ofNat 5)], [(32768, .inr (some (some 327))), (57346, .inl (0, .ofNat 1)), (2678789, .inl (1, .ofNat 0))], [], [], [2, 3, 4, 5, 6, 7]), none)])
def jxa_c54_N : jc_Nt := []
set_option maxRecDepth 1000000 in
theorem jxa_c54_ok (hX : jc_Xo jxa X) : jc_Con jP jxa X jxa_c54 := jc_mth_ok (Z := (jxa, [], jT, [jxa_c44], jxa_SP, jxa_c54_N, .ofNat 100000)) (f := 100000) jxa_ok hX jT_ok (jc_c1 (jxa_c44_ok hX) jc_c0) (by decide +kernel)
-- now.A.leave2
def jxa_c55 : jc_Cn := (98, 1, [.inr (some (some 4)), .inl (0, .ofNat 2), .inl (2, .ofNat 0)], (3, [(1, .ofNat 3, .ofNat 5), (2, .ofNat 0, .ofNat 21)], [(32768, .inr (some (some 327))), (57346, .inl (0, .ofNat 1)), (2678789, .inl (1, .ofNat 0))], [], [], [2, 3, 4, 5, 6, 7]), [(7, 0, 5), (8, 0, 5), (9, 0, 5), (10, 0, 5), (12, 0, 6), (14, 0, 35), (15, 0, 35), (4, 3, 4), (21, 0, 25), (22, 0, 25), (23, 0, 25), (24, 0, 7), (25, 0, 5), (26, 0, 6), (27, 0, 30), (28, 0, 260), (20, 8, 9)], [((2, [(1, .ofNat 3, .ofNat 5)], [(32768, .inr (some (some 327))), (57346, .inl (0, .ofNat 2)), (2678789, .inl (1, .ofNat 0))], [], [], [2, 3, 4, 5, 6, 7]), none)])
def jxa_c55_N : jc_Nt := []
set_option maxRecDepth 1000000 in
theorem jxa_c55_ok (hX : jc_Xo jxa X) : jc_Con jP jxa X jxa_c55 := jc_mth_ok (Z := (jxa, [], jT, [jxa_c44, jxa_c45], jxa_SP, jxa_c55_N, .ofNat 100000)) (f := 100000) jxa_ok hX jT_ok (jc_c1 (jxa_c44_ok hX) (jc_c1 (jxa_c45_ok hX) jc_c0)) (by decide +kernel)
-- now.A.arrive2
def jxa_c56 : jc_Cn := (99, 1, [.inr (some (some 4)), .inl (0, .ofNat 2)], (2, [(1, .ofNat 3, .ofNat 5)], [(32768, .inr (some (some 327))), (57346, .inl (0, .ofNat 2)), (2678789, .inl (1, .ofNat 0))], [], [], [2, 3, 4, 5, 6, 7]), [(7, 0, 5), (8, 0, 5), (9, 0, 5), (10, 0, 5), (12, 0, 6), (14, 0, 35), (15, 0, 35), (4, 3, 4), (21, 0, 25), (22, 0, 25), (23, 0, 25), (24, 0, 7), (25, 0, 5), (26, 0, 6), (27, 0, 30), (28, 0, 260), (20, 8, 9)], [((3, [(1, .ofNat 1, .ofNat 3), (2, .ofNat 3, .ofNat 5)], [(32768, .inr (some (some 327))), (57346, .inl (1, .ofNat 0)), (2678789, .inl (2, .ofNat 0))], [], [], [2, 3, 4, 5, 6, 7]), none)])
def jxa_c56_N : jc_Nt := []
set_option maxRecDepth 1000000 in
theorem jxa_c56_ok (hX : jc_Xo jxa X) : jc_Con jP jxa X jxa_c56 := jc_mth_ok (Z := (jxa, [], jT, [jxa_c44], jxa_SP, jxa_c56_N, .ofNat 100000)) (f := 100000) jxa_ok hX jT_ok (jc_c1 (jxa_c44_ok hX) jc_c0) (by decide +kernel)
-- now.A.comeIn3
def jxa_c57 : jc_Cn := (97, 1, [.inr (some (some 4)), .inl (0, .ofNat 3), .inl (2, .ofNat 0)], (3, [(1, .ofNat 4, .ofNat 5), (2, .ofNat 0, .ofNat 20)], [(32768, .inr (some (some 327))), (57347, .inl (0, .ofNat 0)), (2678789, .inl (1, .ofNat 0))], [], [], [2, 3, 4, 5, 6, 7]), [(7, 0, 5), (8, 0, 5), (9, 0, 5), (10, 0, 5), (12, 0, 6), (14, 0, 35), (15, 0, 35), (4, 3, 4), (21, 0, 25), (22, 0, 25), (23, 0, 25), (24, 0, 7), (25, 0, 5), (26, 0, 6), (27, 0, 30), (28, 0, 260), (20, 8, 9)], [((2, [(1, .ofNat 4, .ofNat 5)], [(32768, .inr (some (some 327))), (57347, .inl (0, .ofNat 1)), (2678789, .inl (1, .ofNat 0))], [], [], [2, 3, 4, 5, 6, 7]), none)])
def jxa_c57_N : jc_Nt := []
set_option maxRecDepth 1000000 in
theorem jxa_c57_ok (hX : jc_Xo jxa X) : jc_Con jP jxa X jxa_c57 := jc_mth_ok (Z := (jxa, [], jT, [jxa_c44], jxa_SP, jxa_c57_N, .ofNat 100000)) (f := 100000) jxa_ok hX jT_ok (jc_c1 (jxa_c44_ok hX) jc_c0) (by decide +kernel)
-- now.A.leave3
def jxa_c58 : jc_Cn := (98, 1, [.inr (some (some 4)), .inl (0, .ofNat 3), .inl (2, .ofNat 0)], (3, [(1, .ofNat 4, .ofNat 5), (2, .ofNat 0, .ofNat 21)], [(32768, .inr (some (some 327))), (57347, .inl (0, .ofNat 1)), (2678789, .inl (1, .ofNat 0))], [], [], [2, 3, 4, 5, 6, 7]), [(7, 0, 5), (8, 0, 5), (9, 0, 5), (10, 0, 5), (12, 0, 6), (14, 0, 35), (15, 0, 35), (4, 3, 4), (21, 0, 25), (22, 0, 25), (23, 0, 25), (24, 0, 7), (25, 0, 5), (26, 0, 6), (27, 0, 30), (28, 0, 260), (20, 8, 9)], [((2, [(1, .ofNat 4, .ofNat 5)], [(32768, .inr (some (some 327))), (57347, .inl (0, .ofNat 2)), (2678789, .inl (1, .ofNat 0))], [], [], [2, 3, 4, 5, 6, 7]), none)])
def jxa_c58_N : jc_Nt := []
set_option maxRecDepth 1000000 in
theorem jxa_c58_ok (hX : jc_Xo jxa X) : jc_Con jP jxa X jxa_c58 := jc_mth_ok (Z := (jxa, [], jT, [jxa_c44, jxa_c45], jxa_SP, jxa_c58_N, .ofNat 100000)) (f := 100000) jxa_ok hX jT_ok (jc_c1 (jxa_c44_ok hX) (jc_c1 (jxa_c45_ok hX) jc_c0)) (by decide +kernel)
-- now.A.arrive3
def jxa_c59 : jc_Cn := (99, 1, [.inr (some (some 4)), .inl (0, .ofNat 3)], (2, [(1, .ofNat 4, .ofNat 5)], [(32768, .inr (some (some 327))), (57347, .inl (0, .ofNat 2)), (2678789, .inl (1, .ofNat 0))], [], [], [2, 3, 4, 5, 6, 7]), [(7, 0, 5), (8, 0, 5), (9, 0, 5), (10, 0, 5), (12, 0, 6), (14, 0, 35), (15, 0, 35), (4, 3, 4), (21, 0, 25), (22, 0, 25), (23, 0, 25), (24, 0, 7), (25, 0, 5), (26, 0, 6), (27, 0, 30), (28, 0, 260), (20, 8, 9)], [((3, [(1, .ofNat 1, .ofNat 3), (2, .ofNat 4, .ofNat 5)], [(32768, .inr (some (some 327))), (57347, .inl (1, .ofNat 0)), (2678789, .inl (2, .ofNat 0))], [], [], [2, 3, 4, 5, 6, 7]), none)])
def jxa_c59_N : jc_Nt := []
set_option maxRecDepth 1000000 in
theorem jxa_c59_ok (hX : jc_Xo jxa X) : jc_Con jP jxa X jxa_c59 := jc_mth_ok (Z := (jxa, [], jT, [jxa_c44], jxa_SP, jxa_c59_N, .ofNat 100000)) (f := 100000) jxa_ok hX jT_ok (jc_c1 (jxa_c44_ok hX) jc_c0) (by decide +kernel)
-- now.A.comeIn4
def jxa_c60 : jc_Cn := (97, 1, [.inr (some (some 4)), .inl (0, .ofNat 4), .inl (2, .ofNat 0)], (3, [(1, .ofNat 5, .ofNat 5), (2, .ofNat 0, .ofNat 20)], [(32768, .inr (some (some 327))), (57348, .inl (0, .ofNat 0)), (2678789, .inl (1, .ofNat 0))], [], [], [2, 3, 4, 5, 6, 7]), [(7, 0, 5), (8, 0, 5), (9, 0, 5), (10, 0, 5), (12, 0, 6), (14, 0, 35), (15, 0, 35), (4, 3, 4), (21, 0, 25), (22, 0, 25), (23, 0, 25), (24, 0, 7), (25, 0, 5), (26, 0, 6), (27, 0, 30), (28, 0, 260), (20, 8, 9)], [((1, [], [(32768, .inr (some (some 327))), (57348, .inl (0, .ofNat 1)), (2678789, .inl (0, .ofNat 5))], [], [], [2, 3, 4, 5, 6, 7]), none)])
def jxa_c60_N : jc_Nt := []
set_option maxRecDepth 1000000 in
theorem jxa_c60_ok (hX : jc_Xo jxa X) : jc_Con jP jxa X jxa_c60 := jc_mth_ok (Z := (jxa, [], jT, [jxa_c44], jxa_SP, jxa_c60_N, .ofNat 100000)) (f := 100000) jxa_ok hX jT_ok (jc_c1 (jxa_c44_ok hX) jc_c0) (by decide +kernel)
-- now.A.leave4
def jxa_c61 : jc_Cn := (98, 1, [.inr (some (some 4)), .inl (0, .ofNat 4), .inl (2, .ofNat 0)], (3, [(1, .ofNat 5, .ofNat 5), (2, .ofNat 0, .ofNat 21)], [(32768, .inr (some (some 327))), (57348, .inl (0, .ofNat 1)), (2678789, .inl (1, .ofNat 0))], [], [], [2, 3, 4, 5, 6, 7]), [(7, 0, 5), (8, 0, 5), (9, 0, 5), (10, 0, 5), (12, 0, 6), (14, 0, 35), (15, 0, 35), (4, 3, 4), (21, 0, 25), (22, 0, 25), (23, 0, 25), (24, 0, 7), (25, 0, 5), (26, 0, 6), (27, 0, 30), (28, 0, 260), (20, 8, 9)], [((1, [], [(32768, .inr (some (some 327))), (57348, .inl (0, .ofNat 2)), (2678789, .inl (0, .ofNat 5))], [], [], [2, 3, 4, 5, 6, 7]), none)])
def jxa_c61_N : jc_Nt := []
set_option maxRecDepth 1000000 in
theorem jxa_c61_ok (hX : jc_Xo jxa X) : jc_Con jP jxa X jxa_c61 := jc_mth_ok (Z := (jxa, [], jT, [jxa_c44, jxa_c45], jxa_SP, jxa_c61_N, .ofNat 100000)) (f := 100000) jxa_ok hX jT_ok (jc_c1 (jxa_c44_ok hX) (jc_c1 (jxa_c45_ok hX) jc_c0)) (by decide +kernel)
-- now.A.arrive4
def jxa_c62 : jc_Cn := (99, 1, [.inr (some (some 4)), .inl (0, .ofNat 4)], (2, [(1, .ofNat 5, .ofNat 5)], [(32768, .inr (some (some 327))), (57348, .inl (0, .ofNat 2)), (2678789, .inl (1, .ofNat 0))], [], [], [2, 3, 4, 5, 6, 7]), [(7, 0, 5), (8, 0, 5), (9, 0, 5), (10, 0, 5), (12, 0, 6), (14, 0, 35), (15, 0, 35), (4, 3, 4), (21, 0, 25), (22, 0, 25), (23, 0, 25), (24, 0, 7), (25, 0, 5), (26, 0, 6), (27, 0, 30), (28, 0, 260), (20, 8, 9)], [((2, [(1, .ofNat 1, .ofNat 3)], [(32768, .inr (some (some 327))), (57348, .inl (1, .ofNat 0)), (2678789, .inl (0, .ofNat 5))], [], [], [2, 3, 4, 5, 6, 7]), none)])
def jxa_c62_N : jc_Nt := []
set_option maxRecDepth 1000000 in
theorem jxa_c62_ok (hX : jc_Xo jxa X) : jc_Con jP jxa X jxa_c62 := jc_mth_ok (Z := (jxa, [], jT, [jxa_c44], jxa_SP, jxa_c62_N, .ofNat 100000)) (f := 100000) jxa_ok hX jT_ok (jc_c1 (jxa_c44_ok hX) jc_c0) (by decide +kernel)
-- now.A.tryMove0
def jxa_c63 : jc_Cn := (96, 2, [.inr (some (some 4)), .inl (0, .ofNat 0), .inl (2, .ofNat 0)], (3, [(1, .ofNat 1, .ofNat 5), (2, .ofNat 0, .ofNat 1)], [(32768, .inr (some (some 327))), (2678789, .inl (1, .ofNat 0))], [], [], [2, 3, 4, 5, 6, 7]), [(7, 0, 5), (8, 0, 5), (9, 0, 5), (10, 0, 5), (12, 0, 6), (14, 0, 35), (15, 0, 35), (4, 3, 4), (21, 0, 25), (22, 0, 25), (23, 0, 25), (24, 0, 7), (25, 0, 5), (26, 0, 6), (27, 0, 30), (28, 0, 260), (20, 8, 9), (17, 1, 2), (18, 0, 5), (19, 0, 5)], [((3, [(1, .ofNat 0, .ofNat 1), (2, .ofNat 1, .ofNat 5)], [(32768, .inr (some (some 327))), (2678789, .inl (2, .ofNat 0))], [], [], [2, 3, 4, 5, 6, 7]), some (.inl (1, .ofNat 0)))])
def jxa_c63_N : jc_Nt := []
set_option maxRecDepth 1000000 in
theorem jxa_c63_ok (hX : jc_Xo jxa X) : jc_Con jP jxa X jxa_c63 := jc_mth_ok (Z := (jxa, [], jT, [jxa_c9, jxa_c12, jxa_c13, jxa_c11, jxa_c48, jxa_c49], jxa_SP, jxa_c63_N, .ofNat 100000)) (f := 100000) jxa_ok hX jT_ok (jc_c1 (jxa_c9_ok hX) (jc_c1 (jxa_c12_ok hX) (jc_c1 (jxa_c13_ok hX) (jc_c1 (jxa_c11_ok hX) (jc_c1 (jxa_c48_ok hX) (jc_c1 (jxa_c49_ok hX) jc_c0)))))) (by decide +kernel)
-- now.A.tryMove1
def jxa_c64 : jc_Cn := (96, 2, [.inr (some (some 4)), .inl (0, .ofNat 1), .inl (2, .ofNat 0)], (3, [(1, .ofNat 2, .ofNat 5), (2, .ofNat 0, .ofNat 1)], [(32768, .inr (some (some 327))), (2678789, .inl (1, .ofNat 0))], [], [], [2, 3, 4, 5, 6, 7]), [(7, 0, 5), (8, 0, 5), (9, 0, 5), (10, 0, 5), (12, 0, 6), (14, 0, 35), (15, 0, 35), (4, 3, 4), (21, 0, 25), (22, 0, 25), (23, 0, 25), (24, 0, 7), (25, 0, 5), (26, 0, 6), (27, 0, 30), (28, 0, 260), (20, 8, 9), (17, 1, 2), (18, 0, 5), (19, 0, 5)], [((3, [(1, .ofNat 0, .ofNat 1), (2, .ofNat 2, .ofNat 5)], [(32768, .inr (some (some 327))), (2678789, .inl (2, .ofNat 0))], [], [], [2, 3, 4, 5, 6, 7]), some (.inl (1, .ofNat 0)))])
def jxa_c64_N : jc_Nt := []
set_option maxRecDepth 1000000 in
theorem jxa_c64_ok (hX : jc_Xo jxa X) : jc_Con jP jxa X jxa_c64 := jc_mth_ok (Z := (jxa, [], jT, [jxa_c9, jxa_c15, jxa_c16, jxa_c11, jxa_c51, jxa_c52], jxa_SP, jxa_c64_N, .ofNat 100000)) (f := 100000) jxa_ok hX jT_ok (jc_c1 (jxa_c9_ok hX) (jc_c1 (jxa_c15_ok hX) (jc_c1 (jxa_c16_ok hX) (jc_c1 (jxa_c11_ok hX) (jc_c1 (jxa_c51_ok hX) (jc_c1 (jxa_c52_ok hX) jc_c0)))))) (by decide +kernel)
-- now.A.tryMove2
def jxa_c65 : jc_Cn := (96, 2, [.inr (some (some 4)), .inl (0, .ofNat 2), .inl (2, .ofNat 0)], (3, [(1, .ofNat 3, .ofNat 5), (2, .ofNat 0, .ofNat 1)], [(32768, .inr (some (some 327))), (2678789, .inl (1, .ofNat 0))], [], [], [2, 3, 4, 5, 6, 7]), [(7, 0, 5), (8, 0, 5), (9, 0, 5), (10, 0, 5), (12, 0, 6), (14, 0, 35), (15, 0, 35), (4, 3, 4), (21, 0, 25), (22, 0, 25), (23, 0, 25), (24, 0, 7), (25, 0, 5), (26, 0, 6), (27, 0, 30), (28, 0, 260), (20, 8, 9), (17, 1, 2), (18, 0, 5), (19, 0, 5)], [((3, [(1, .ofNat 0, .ofNat 1), (2, .ofNat 3, .ofNat 5)], [(32768, .inr (some (some 327))), (2678789, .inl (2, .ofNat 0))], [], [], [2, 3, 4, 5, 6, 7]), some (.inl (1, .ofNat 0)))])
def jxa_c65_N : jc_Nt := []
set_option maxRecDepth 1000000 in
theorem jxa_c65_ok (hX : jc_Xo jxa X) : jc_Con jP jxa X jxa_c65 := jc_mth_ok (Z := (jxa, [], jT, [jxa_c9, jxa_c18, jxa_c19, jxa_c11, jxa_c54, jxa_c55], jxa_SP, jxa_c65_N, .ofNat 100000)) (f := 100000) jxa_ok hX jT_ok (jc_c1 (jxa_c9_ok hX) (jc_c1 (jxa_c18_ok hX) (jc_c1 (jxa_c19_ok hX) (jc_c1 (jxa_c11_ok hX) (jc_c1 (jxa_c54_ok hX) (jc_c1 (jxa_c55_ok hX) jc_c0)))))) (by decide +kernel)
end Jjxa4

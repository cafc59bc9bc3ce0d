/-! contracts of the class, told in B (4); written by wip/jc/e4.py -/
section Jjxb4
variable {X : J_H → Prop}
-- now.B.comeIn2
def jxb_c54 : jc_Cn := (97, 1, [.inr (some (some 4)), .inl (0, .ofNat 2), .inl (2, .ofNat 0)], (3, [(1, .ofNat 3, .ofNat 5), (2, .ofNat 0, .ofNat 20)], [(32768, .inr (some (some 343))), (57346, .inl (0, .ofNat 0)), (2809861, .inl (1, .ofNat 0))], [], [], [1, 3, 4, 5, 6, 7]), [(7, 0, 5), (8, 0, 5), (9, 0, 5), (10, 0, 5), (12, 0, 6), (14, 0, 35), (15, 0, 35), (4, 3, 4), (21, 0, 25), (22, 0, 25), (23, 0, 25), (24, 0, 7), (25, 0, 5), (26, 0, 6), (27, 0, 30), (28, 0, 260), (20, 8, 9)], [((2, [(1, .ofNat 3, .ofNat 5)], [(32768, .inr (some (some 343))), (57346, .inl (0, .ofNat 1)), (2809861, .inl (1, .ofNat 0))], [], [], [1, 3, 4, 5, 6, 7]), none)])
def jxb_c54_N : jc_Nt := []
set_option maxRecDepth 1000000 in
theorem jxb_c54_ok (hX : jc_Xo jxb X) : jc_Con jP jxb X jxb_c54 := jc_mth_ok (Z := (jxb, [], jT, [jxb_c44], jxb_SP, jxb_c54_N, .ofNat 100000)) (f := 100000) jxb_ok hX jT_ok (jc_c1 (jxb_c44_ok hX) jc_c0) (by decide +kernel)
-- now.B.leave2
def jxb_c55 : jc_Cn := (98, 1, [.inr (some (some 4)), .inl (0, .ofNat 2), .inl (2, .ofNat 0)], (3, [(1, .ofNat 3, .ofNat 5), (2, .ofNat 0, .ofNat 21)], [(32768, .inr (some (some 343))), (57346, .inl (0, .ofNat 1)), (2809861, .inl (1, .ofNat 0))], [], [], [1, 3, 4, 5, 6, 7]), [(7, 0, 5), (8, 0, 5), (9, 0, 5), (10, 0, 5), (12, 0, 6), (14, 0, 35), (15, 0, 35), (4, 3, 4), (21, 0, 25), (22, 0, 25), (23, 0, 25), (24, 0, 7), (25, 0, 5), (26, 0, 6), (27, 0, 30), (28, 0, 260), (20, 8, 9)], [((2, [(1, .ofNat 3, .ofNat 5)], [(32768, .inr (some (some 343))), (57346, .inl (0, .ofNat 2)), (2809861, .inl (1, .ofNat 0))], [], [], [1, 3, 4, 5, 6, 7]), none)])
def jxb_c55_N : jc_Nt := []
set_option maxRecDepth 1000000 in
theorem jxb_c55_ok (hX : jc_Xo jxb X) : jc_Con jP jxb X jxb_c55 := jc_mth_ok (Z := (jxb, [], jT, [jxb_c44, jxb_c45], jxb_SP, jxb_c55_N, .ofNat 100000)) (f := 100000) jxb_ok hX jT_ok (jc_c1 (jxb_c44_ok hX) (jc_c1 (jxb_c45_ok hX) jc_c0)) (by decide +kernel)
-- now.B.arrive2
def jxb_c56 : jc_Cn := (99, 1, [.inr (some (some 4)), .inl (0, .ofNat 2)], (2, [(1, .ofNat 3, .ofNat 5)], [(32768, .inr (some (some 343))), (57346, .inl (0, .ofNat 2)), (2809861, .inl (1, .ofNat 0))], [], [], [1, 3, 4, 5, 6, 7]), [(7, 0, 5), (8, 0, 5), (9, 0, 5), (10, 0, 5), (12, 0, 6), (14, 0, 35), (15, 0, 35), (4, 3, 4), (21, 0, 25), (22, 0, 25), (23, 0, 25), (24, 0, 7), (25, 0, 5), (26, 0, 6), (27, 0, 30), (28, 0, 260), (20, 8, 9)], [((3, [(1, .ofNat 1, .ofNat 3), (2, .ofNat 3, .ofNat 5)], [(32768, .inr (some (some 343))), (57346, .inl (1, .ofNat 0)), (2809861, .inl (2, .ofNat 0))], [], [], [1, 3, 4, 5, 6, 7]), none)])
def jxb_c56_N : jc_Nt := []
set_option maxRecDepth 1000000 in
theorem jxb_c56_ok (hX : jc_Xo jxb X) : jc_Con jP jxb X jxb_c56 := jc_mth_ok (Z := (jxb, [], jT, [jxb_c44], jxb_SP, jxb_c56_N, .ofNat 100000)) (f := 100000) jxb_ok hX jT_ok (jc_c1 (jxb_c44_ok hX) jc_c0) (by decide +kernel)
-- now.B.comeIn3
def jxb_c57 : jc_Cn := (97, 1, [.inr (some (some 4)), .inl (0, .ofNat 3), .inl (2, .ofNat 0)], (3, [(1, .ofNat 4, .ofNat 5), (2, .ofNat 0, .ofNat 20)], [(32768, .inr (some (some 343))), (57347, .inl (0, .ofNat 0)), (2809861, .inl (1, .ofNat 0))], [], [], [1, 3, 4, 5, 6, 7]), [(7, 0, 5), (8, 0, 5), (9, 0, 5), (10, 0, 5), (12, 0, 6), (14, 0, 35), (15, 0, 35), (4, 3, 4), (21, 0, 25), (22, 0, 25), (23, 0, 25), (24, 0, 7), (25, 0, 5), (26, 0, 6), (27, 0, 30), (28, 0, 260), (20, 8, 9)], [((2, [(1, .ofNat 4, .ofNat 5)], [(32768, .inr (some (some 343))), (57347, .inl (0, .ofNat 1)), (2809861, .inl (1, .ofNat 0))], [], [], [1, 3, 4, 5, 6, 7]), none)])
def jxb_c57_N : jc_Nt := []
set_option maxRecDepth 1000000 in
theorem jxb_c57_ok (hX : jc_Xo jxb X) : jc_Con jP jxb X jxb_c57 := jc_mth_ok (Z := (jxb, [], jT, [jxb_c44], jxb_SP, jxb_c57_N, .ofNat 100000)) (f := 100000) jxb_ok hX jT_ok (jc_c1 (jxb_c44_ok hX) jc_c0) (by decide +kernel)
-- now.B.leave3
def jxb_c58 : jc_Cn := (98, 1, [.inr (some (some 4)), .inl (0, .ofNat 3), .inl (2, .ofNat 0)], (3, [(1, .ofNat 4, .ofNat 5), (2, .ofNat 0, .ofNat 21)], [(32768, .inr (some (some 343))), (57347, .inl (0, .ofNat 1)), (2809861, .inl (1, .ofNat 0))], [], [], [1, 3, 4, 5, 6, 7]), [(7, 0, 5), (8, 0, 5), (9, 0, 5), (10, 0, 5), (12, 0, 6), (14, 0, 35), (15, 0, 35), (4, 3, 4), (21, 0, 25), (22, 0, 25), (23, 0, 25), (24, 0, 7), (25, 0, 5), (26, 0, 6), (27, 0, 30), (28, 0, 260), (20, 8, 9)], [((2, [(1, .ofNat 4, .ofNat 5)], [(32768, .inr (some (some 343))), (57347, .inl (0, .ofNat 2)), (2809861, .inl (1, .ofNat 0))], [], [], [1, 3, 4, 5, 6, 7]), none)])
def jxb_c58_N : jc_Nt := []
set_option maxRecDepth 1000000 in
theorem jxb_c58_ok (hX : jc_Xo jxb X) : jc_Con jP jxb X jxb_c58 := jc_mth_ok (Z := (jxb, [], jT, [jxb_c44, jxb_c45], jxb_SP, jxb_c58_N, .ofNat 100000)) (f := 100000) jxb_ok hX jT_ok (jc_c1 (jxb_c44_ok hX) (jc_c1 (jxb_c45_ok hX) jc_c0)) (by decide +kernel)
-- now.B.arrive3
def jxb_c59 : jc_Cn := (99, 1, [.inr (some (some 4)), .inl (0, .ofNat 3)], (2, [(1, .ofNat 4, .ofNat 5)], [(32768, .inr (some (some 343))), (57347, .inl (0, .ofNat 2)), (2809861, .inl (1, .ofNat 0))], [], [], [1, 3, 4, 5, 6, 7]), [(7, 0, 5), (8, 0, 5), (9, 0, 5), (10, 0, 5), (12, 0, 6), (14, 0, 35), (15, 0, 35), (4, 3, 4), (21, 0, 25), (22, 0, 25), (23, 0, 25), (24, 0, 7), (25, 0, 5), (26, 0, 6), (27, 0, 30), (28, 0, 260), (20, 8, 9)], [((3, [(1, .ofNat 1, .ofNat 3), (2, .ofNat 4, .ofNat 5)], [(32768, .inr (some (some 343))), (57347, .inl (1, .ofNat 0)), (2809861, .inl (2, .ofNat 0))], [], [], [1, 3, 4, 5, 6, 7]), none)])
def jxb_c59_N : jc_Nt := []
set_option maxRecDepth 1000000 in
theorem jxb_c59_ok (hX : jc_Xo jxb X) : jc_Con jP jxb X jxb_c59 := jc_mth_ok (Z := (jxb, [], jT, [jxb_c44], jxb_SP, jxb_c59_N, .ofNat 100000)) (f := 100000) jxb_ok hX jT_ok (jc_c1 (jxb_c44_ok hX) jc_c0) (by decide +kernel)
-- now.B.comeIn4
def jxb_c60 : jc_Cn := (97, 1, [.inr (some (some 4)), .inl (0, .ofNat 4), .inl (2, .ofNat 0)], (3, [(1, .ofNat 5, .ofNat 5), (2, .ofNat 0, .ofNat 20)], [(32768, .inr (some (some 343))), (57348, .inl (0, .ofNat 0)), (2809861, .inl (1, .ofNat 0))], [], [], [1, 3, 4, 5, 6, 7]), [(7, 0, 5), (8, 0, 5), (9, 0, 5), (10, 0, 5), (12, 0, 6), (14, 0, 35), (15, 0, 35), (4, 3, 4), (21, 0, 25), (22, 0, 25), (23, 0, 25), (24, 0, 7), (25, 0, 5), (26, 0, 6), (27, 0, 30), (28, 0, 260), (20, 8, 9)], [((1, [], [(32768, .inr (some (some 343))), (57348, .inl (0, .ofNat 1)), (2809861, .inl (0, .ofNat 5))], [], [], [1, 3, 4, 5, 6, 7]), none)])
def jxb_c60_N : jc_Nt := []
set_option maxRecDepth 1000000 in
theorem jxb_c60_ok (hX : jc_Xo jxb X) : jc_Con jP jxb X jxb_c60 := jc_mth_ok (Z := (jxb, [], jT, [jxb_c44], jxb_SP, jxb_c60_N, .ofNat 100000)) (f := 100000) jxb_ok hX jT_ok (jc_c1 (jxb_c44_ok hX) jc_c0) (by decide +kernel)
-- now.B.leave4
def jxb_c61 : jc_Cn := (98, 1, [.inr (some (some 4)), .inl (0, .ofNat 4), .inl (2, .ofNat 0)], (3, [(1, .ofNat 5, .ofNat 5), (2, .ofNat 0, .ofNat 21)], [(32768, .inr (some (some 343))), (57348, .inl (0, .ofNat 1)), (2809861, .inl (1, .ofNat 0))], [], [], [1, 3, 4, 5, 6, 7]), [(7, 0, 5), (8, 0, 5), (9, 0, 5), (10, 0, 5), (12, 0, 6), (14, 0, 35), (15, 0, 35), (4, 3, 4), (21, 0, 25), (22, 0, 25), (23, 0, 25), (24, 0, 7), (25, 0, 5), (26, 0, 6), (27, 0, 30), (28, 0, 260), (20, 8, 9)], [((1, [], [(32768, .inr (some (some 343))), (57348, .inl (0, .ofNat 2)), (2809861, .inl (0, .ofNat 5))], [], [], [1, 3, 4, 5, 6, 7]), none)])
def jxb_c61_N : jc_Nt := []
set_option maxRecDepth 1000000 in
theorem jxb_c61_ok (hX : jc_Xo jxb X) : jc_Con jP jxb X jxb_c61 := jc_mth_ok (Z := (jxb, [], jT, [jxb_c44, jxb_c45], jxb_SP, jxb_c61_N, .ofNat 100000)) (f := 100000) jxb_ok hX jT_ok (jc_c1 (jxb_c44_ok hX) (jc_c1 (jxb_c45_ok hX) jc_c0)) (by decide +kernel)
-- now.B.arrive4
def jxb_c62 : jc_Cn := (99, 1, [.inr (some (some 4)), .inl (0, .ofNat 4)], (2, [(1, .ofNat 5, .ofNat 5)], [(32768, .inr (some (some 343))), (57348, .inl (0, .ofNat 2)), (2809861, .inl (1, .ofNat 0))], [], [], [1, 3, 4, 5, 6, 7]), [(7, 0, 5), (8, 0, 5), (9, 0, 5), (10, 0, 5), (12, 0, 6), (14, 0, 35), (15, 0, 35), (4, 3, 4), (21, 0, 25), (22, 0, 25), (23, 0, 25), (24, 0, 7), (25, 0, 5), (26, 0, 6), (27, 0, 30), (28, 0, 260), (20, 8, 9)], [((2, [(1, .ofNat 1, .ofNat 3)], [(32768, .inr (some (some 343))), (57348, .inl (1, .ofNat 0)), (2809861, .inl (0, .ofNat 5))], [], [], [1, 3, 4, 5, 6, 7]), none)])
def jxb_c62_N : jc_Nt := []
set_option maxRecDepth 1000000 in
theorem jxb_c62_ok (hX : jc_Xo jxb X) : jc_Con jP jxb X jxb_c62 := jc_mth_ok (Z := (jxb, [], jT, [jxb_c44], jxb_SP, jxb_c62_N, .ofNat 100000)) (f := 100000) jxb_ok hX jT_ok (jc_c1 (jxb_c44_ok hX) jc_c0) (by decide +kernel)
-- now.B.tryMove0
def jxb_c63 : jc_Cn := (96, 2, [.inr (some (some 4)), .inl (0, .ofNat 0), .inl (2, .ofNat 0)], (3, [(1, .ofNat 1, .ofNat 5), (2, .ofNat 0, .ofNat 1)], [(32768, .inr (some (some 343))), (2809861, .inl (1, .ofNat 0))], [], [], [1, 3, 4, 5, 6, 7]), [(7, 0, 5), (8, 0, 5), (9, 0, 5), (10, 0, 5), (12, 0, 6), (14, 0, 35), (15, 0, 35), (4, 3, 4), (21, 0, 25), (22, 0, 25), (23, 0, 25), (24, 0, 7), (25, 0, 5), (26, 0, 6), (27, 0, 30), (28, 0, 260), (20, 8, 9), (17, 1, 2), (18, 0, 5), (19, 0, 5)], [((3, [(1, .ofNat 0, .ofNat 1), (2, .ofNat 1, .ofNat 5)], [(32768, .inr (some (some 343))), (2809861, .inl (2, .ofNat 0))], [], [], [1, 3, 4, 5, 6, 7]), some (.inl (1, .ofNat 0)))])
def jxb_c63_N : jc_Nt := []
set_option maxRecDepth 1000000 in
theorem jxb_c63_ok (hX : jc_Xo jxb X) : jc_Con jP jxb X jxb_c63 := jc_mth_ok (Z := (jxb, [], jT, [jxb_c9, jxb_c12, jxb_c13, jxb_c11, jxb_c48, jxb_c49], jxb_SP, jxb_c63_N, .ofNat 100000)) (f := 100000) jxb_ok hX jT_ok (jc_c1 (jxb_c9_ok hX) (jc_c1 (jxb_c12_ok hX) (jc_c1 (jxb_c13_ok hX) (jc_c1 (jxb_c11_ok hX) (jc_c1 (jxb_c48_ok hX) (jc_c1 (jxb_c49_ok hX) jc_c0)))))) (by decide +kernel)
-- now.B.tryMove1
def jxb_c64 : jc_Cn := (96, 2, [.inr (some (some 4)), .inl (0, .ofNat 1), .inl (2, .ofNat 0)], (3, [(1, .ofNat 2, .ofNat 5), (2, .ofNat 0, .ofNat 1)], [(32768, .inr (some (some 343))), (2809861, .inl (1, .ofNat 0))], [], [], [1, 3, 4, 5, 6, 7]), [(7, 0, 5), (8, 0, 5), (9, 0, 5), (10, 0, 5), (12, 0, 6), (14, 0, 35), (15, 0, 35), (4, 3, 4), (21, 0, 25), (22, 0, 25), (23, 0, 25), (24, 0, 7), (25, 0, 5), (26, 0, 6), (27, 0, 30), (28, 0, 260), (20, 8, 9), (17, 1, 2), (18, 0, 5), (19, 0, 5)], [((3, [(1, .ofNat 0, .ofNat 1), (2, .ofNat 2, .ofNat 5)], [(32768, .inr (some (some 343))), (2809861, .inl (2, .ofNat 0))], [], [], [1, 3, 4, 5, 6, 7]), some (.inl (1, .ofNat 0)))])
def jxb_c64_N : jc_Nt := []
set_option maxRecDepth 1000000 in
theorem jxb_c64_ok (hX : jc_Xo jxb X) : jc_Con jP jxb X jxb_c64 := jc_mth_ok (Z := (jxb, [], jT, [jxb_c9, jxb_c15, jxb_c16, jxb_c11, jxb_c51, jxb_c52], jxb_SP, jxb_c64_N, .ofNat 100000)) (f := 100000) jxb_ok hX jT_ok (jc_c1 (jxb_c9_ok hX) (jc_c1 (jxb_c15_ok hX) (jc_c1 (jxb_c16_ok hX) (jc_c1 (jxb_c11_ok hX) (jc_c1 (jxb_c51_ok hX) (jc_c1 (jxb_c52_ok hX) jc_c0)))))) (by decide +kernel)
-- now.B.tryMove2
def jxb_c65 : jc_Cn := (96, 2, [.inr (some (some 4)), .inl (0, .ofNat 2), .inl (2, .ofNat 0)], (3, [(1, .ofNat 3, .ofNat 5), (2, .ofNat 0, .ofNat 1)], [(32768, .inr (some (some 343))), (2809861, .inl (1, .ofNat 0))], [], [], [1, 3, 4, 5, 6, 7]), [(7, 0, 5), (8, 0, 5), (9, 0, 5), (10, 0, 5), (12, 0, 6), (14, 0, 35), (15, 0, 35), (4, 3, 4), (21, 0, 25), (22, 0, 25), (23, 0, 25), (24, 0, 7), (25, 0, 5), (26, 0, 6), (27, 0, 30), (28, 0, 260), (20, 8, 9), (17, 1, 2), (18, 0, 5), (19, 0, 5)], [((3, [(1, .ofNat 0, .ofNat 1), (2, .ofNat 3, .ofNat 5)], [(32768, .inr (some (some 343))), (2809861, .inl (2, .ofNat 0))], [], [], [1, 3, 4, 5, 6, 7]), some (.inl (1, .ofNat 0)))])
def jxb_c65_N : jc_Nt := []
set_option maxRecDepth 1000000 in
theorem jxb_c65_ok (hX : jc_Xo jxb X) : jc_Con jP jxb X jxb_c65 := jc_mth_ok (Z := (jxb, [], jT, [jxb_c9, jxb_c18, jxb_c19, jxb_c11, jxb_c54, jxb_c55], jxb_SP, jxb_c65_N, .ofNat 100000)) (f := 100000) jxb_ok hX jT_ok (jc_c1 (jxb_c9_ok hX) (jc_c1 (jxb_c18_ok hX) (jc_c1 (jxb_c19_ok hX) (jc_c1 (jxb_c11_ok hX) (jc_c1 (jxb_c54_ok hX) (jc_c1 (jxb_c55_ok hX) jc_c0)))))) (by decide +kernel)
end Jjxb4

/-! contracts of the class, told in B (12); written by wip/jc/e4.py -/
section Jjxb12
variable {X : J_H → Prop}
-- trial.W.comeIn2
def jxb_c194 : jc_Cn := (97, 1, [.inr (some (some 282)), .inl (0, .ofNat 2), .inl (2, .ofNat 0)], (3, [(1, .ofNat 3, .ofNat 5), (2, .ofNat 0, .ofNat 20)], [(2310144, .inr (some (some 307))), (2334722, .inl (0, .ofNat 0)), (2514949, .inl (1, .ofNat 0))], [], [], [1, 2, 3, 4, 6, 7]), [(285, 0, 5), (286, 0, 5), (287, 0, 5), (288, 0, 5), (290, 0, 6), (292, 0, 35), (293, 0, 35), (282, 3, 4), (299, 0, 25), (300, 0, 25), (301, 0, 25), (302, 0, 7), (303, 0, 5), (304, 0, 6), (305, 0, 30), (306, 0, 260), (298, 8, 9)], [((2, [(1, .ofNat 3, .ofNat 5)], [(2310144, .inr (some (some 307))), (2334722, .inl (0, .ofNat 1)), (2514949, .inl (1, .ofNat 0))], [], [], [1, 2, 3, 4, 6, 7]), none)])
def jxb_c194_N : jc_Nt := []
set_option maxRecDepth 1000000 in
theorem jxb_c194_ok (hX : jc_Xo jxb X) : jc_Con jP jxb X jxb_c194 := jc_mth_ok (Z := (jxb, [], jT, [jxb_c184], jxb_SP, jxb_c194_N, .ofNat 100000)) (f := 100000) jxb_ok hX jT_ok (jc_c1 (jxb_c184_ok hX) jc_c0) (by decide +kernel)
-- trial.W.leave2
def jxb_c195 : jc_Cn := (98, 1, [.inr (some (some 282)), .inl (0, .ofNat 2), .inl (2, .ofNat 0)], (3, [(1, .ofNat 3, .ofNat 5), (2, .ofNat 0, .ofNat 21)], [(2310144, .inr (some (some 307))), (2334722, .inl (0, .ofNat 1)), (2514949, .inl (1, .ofNat 0))], [], [], [1, 2, 3, 4, 6, 7]), [(285, 0, 5), (286, 0, 5), (287, 0, 5), (288, 0, 5), (290, 0, 6), (292, 0, 35), (293, 0, 35), (282, 3, 4), (299, 0, 25), (300, 0, 25), (301, 0, 25), (302, 0, 7), (303, 0, 5), (304, 0, 6), (305, 0, 30), (306, 0, 260), (298, 8, 9)], [((2, [(1, .ofNat 3, .ofNat 5)], [(2310144, .inr (some (some 307))), (2334722, .inl (0, .ofNat 2)), (2514949, .inl (1, .ofNat 0))], [], [], [1, 2, 3, 4, 6, 7]), none)])
def jxb_c195_N : jc_Nt := []
set_option maxRecDepth 1000000 in
theorem jxb_c195_ok (hX : jc_Xo jxb X) : jc_Con jP jxb X jxb_c195 := jc_mth_ok (Z := (jxb, [], jT, [jxb_c184, jxb_c185], jxb_SP, jxb_c195_N, .ofNat 100000)) (f := 100000) jxb_ok hX jT_ok (jc_c1 (jxb_c184_ok hX) (jc_c1 (jxb_c185_ok hX) jc_c0)) (by decide +kernel)
-- trial.W.arrive2
def jxb_c196 : jc_Cn := (99, 1, [.inr (some (some 282)), .inl (0, .ofNat 2)], (2, [(1, .ofNat 3, .ofNat 5)], [(2310144, .inr (some (some 307))), (2334722, .inl (0, .ofNat 2)), (2514949, .inl (1, .ofNat 0))], [], [], [1, 2, 3, 4, 6, 7]), [(285, 0, 5), (286, 0, 5), (287, 0, 5), (288, 0, 5), (290, 0, 6), (292, 0, 35), (293, 0, 35), (282, 3, 4), (299, 0, 25), (300, 0, 25), (301, 0, 25), (302, 0, 7), (303, 0, 5), (304, 0, 6), (305, 0, 30), (306, 0, 260), (298, 8, 9)], [((3, [(1, .ofNat 1, .ofNat 3), (2, .ofNat 3, .ofNat 5)], [(2310144, .inr (some (some 307))), (2334722, .inl (1, .ofNat 0)), (2514949, .inl (2, .ofNat 0))], [], [], [1, 2, 3, 4, 6, 7]), none)])
def jxb_c196_N : jc_Nt := []
set_option maxRecDepth 1000000 in
theorem jxb_c196_ok (hX : jc_Xo jxb X) : jc_Con jP jxb X jxb_c196 := jc_mth_ok (Z := (jxb, [], jT, [jxb_c184], jxb_SP, jxb_c196_N, .ofNat 100000)) (f := 100000) jxb_ok hX jT_ok (jc_c1 (jxb_c184_ok hX) jc_c0) (by decide +kernel)
-- trial.W.comeIn3
def jxb_c197 : jc_Cn := (97, 1, [.inr (some (some 282)), .inl (0, .ofNat 3), .inl (2, .ofNat 0)], (3, [(1, .ofNat 4, .ofNat 5), (2, .ofNat 0, .ofNat 20)], [(2310144, .inr (some (some 307))), (2334723, .inl (0, .ofNat 0)), (2514949, .inl (1, .ofNat 0))], [], [], [1, 2, 3, 4, 6, 7]), [(285, 0, 5), (286, 0, 5), (287, 0, 5), (288, 0, 5), (290, 0, 6), (292, 0, 35), (293, 0, 35), (282, 3, 4), (299, 0, 25), (300, 0, 25), (301, 0, 25), (302, 0, 7), (303, 0, 5), (304, 0, 6), (305, 0, 30), (306, 0, 260), (298, 8, 9)], [((2, [(1, .ofNat 4, .ofNat 5)], [(2310144, .inr (some (some 307))), (2334723, .inl (0, .ofNat 1)), (2514949, .inl (1, .ofNat 0))], [], [], [1, 2, 3, 4, 6, 7]), none)])
def jxb_c197_N : jc_Nt := []
set_option maxRecDepth 1000000 in
theorem jxb_c197_ok (hX : jc_Xo jxb X) : jc_Con jP jxb X jxb_c197 := jc_mth_ok (Z := (jxb, [], jT, [jxb_c184], jxb_SP, jxb_c197_N, .ofNat 100000)) (f := 100000) jxb_ok hX jT_ok (jc_c1 (jxb_c184_ok hX) jc_c0) (by decide +kernel)
-- trial.W.leave3
def jxb_c198 : jc_Cn := (98, 1, [.inr (some (some 282)), .inl (0, .ofNat 3), .inl (2, .ofNat 0)], (3, [(1, .ofNat 4, .ofNat 5), (2, .ofNat 0, .ofNat 21)], [(2310144, .inr (some (some 307))), (2334723, .inl (0, .ofNat 1)), (2514949, .inl (1, .ofNat 0))], [], [], [1, 2, 3, 4, 6, 7]), [(285, 0, 5), (286, 0, 5), (287, 0, 5), (288, 0, 5), (290, 0, 6), (292, 0, 35), (293, 0, 35), (282, 3, 4), (299, 0, 25), (300, 0, 25), (301, 0, 25), (302, 0, 7), (303, 0, 5), (304, 0, 6), (305, 0, 30), (306, 0, 260), (298, 8, 9)], [((2, [(1, .ofNat 4, .ofNat 5)], [(2310144, .inr (some (some 307))), (2334723, .inl (0, .ofNat 2)), (2514949, .inl (1, .ofNat 0))], [], [], [1, 2, 3, 4, 6, 7]), none)])
def jxb_c198_N : jc_Nt := []
set_option maxRecDepth 1000000 in
theorem jxb_c198_ok (hX : jc_Xo jxb X) : jc_Con jP jxb X jxb_c198 := jc_mth_ok (Z := (jxb, [], jT, [jxb_c184, jxb_c185], jxb_SP, jxb_c198_N, .ofNat 100000)) (f := 100000) jxb_ok hX jT_ok (jc_c1 (jxb_c184_ok hX) (jc_c1 (jxb_c185_ok hX) jc_c0)) (by decide +kernel)
-- trial.W.arrive3
def jxb_c199 : jc_Cn := (99, 1, [.inr (some (some 282)), .inl (0, .ofNat 3)], (2, [(1, .ofNat 4, .ofNat 5)], [(2310144, .inr (some (some 307))), (2334723, .inl (0, .ofNat 2)), (2514949, .inl (1, .ofNat 0))], [], [], [1, 2, 3, 4, 6, 7]), [(285, 0, 5), (286, 0, 5), (287, 0, 5), (288, 0, 5), (290, 0, 6), (292, 0, 35), (293, 0, 35), (282, 3, 4), (299, 0, 25), (300, 0, 25), (301, 0, 25), (302, 0, 7), (303, 0, 5), (304, 0, 6), (305, 0, 30), (306, 0, 260), (298, 8, 9)], [((3, [(1, .ofNat 1, .ofNat 3), (2, .ofNat 4, .ofNat 5)], [(2310144, .inr (some (some 307))), (2334723, .inl (1, .ofNat 0)), (2514949, .inl (2, .ofNat 0))], [], [], [1, 2, 3, 4, 6, 7]), none)])
def jxb_c199_N : jc_Nt := []
set_option maxRecDepth 1000000 in
theorem jxb_c199_ok (hX : jc_Xo jxb X) : jc_Con jP jxb X jxb_c199 := jc_mth_ok (Z := (jxb, [], jT, [jxb_c184], jxb_SP, jxb_c199_N, .ofNat 100000)) (f := 100000) jxb_ok hX jT_ok (jc_c1 (jxb_c184_ok hX) jc_c0) (by decide +kernel)
-- trial.W.comeIn4
def jxb_c200 : jc_Cn := (97, 1, [.inr (some (some 282)), .inl (0, .ofNat 4), .inl (2, .ofNat 0)], (3, [(1, .ofNat 5, .ofNat 5), (2, .ofNat 0, .ofNat 20)], [(2310144, .inr (some (some 307))), (2334724, .inl (0, .ofNat 0)), (2514949, .inl (1, .ofNat 0))], [], [], [1, 2, 3, 4, 6, 7]), [(285, 0, 5), (286, 0, 5), (287, 0, 5), (288, 0, 5), (290, 0, 6), (292, 0, 35), (293, 0, 35), (282, 3, 4), (299, 0, 25), (300, 0, 25), (301, 0, 25), (302, 0, 7), (303, 0, 5), (304, 0, 6), (305, 0, 30), (306, 0, 260), (298, 8, 9)], [((1, [], [(2310144, .inr (some (some 307))), (2334724, .inl (0, .ofNat 1)), (2514949, .inl (0, .ofNat 5))], [], [], [1, 2, 3, 4, 6, 7]), none)])
def jxb_c200_N : jc_Nt := []
set_option maxRecDepth 1000000 in
theorem jxb_c200_ok (hX : jc_Xo jxb X) : jc_Con jP jxb X jxb_c200 := jc_mth_ok (Z := (jxb, [], jT, [jxb_c184], jxb_SP, jxb_c200_N, .ofNat 100000)) (f := 100000) jxb_ok hX jT_ok (jc_c1 (jxb_c184_ok hX) jc_c0) (by decide +kernel)
-- trial.W.leave4
def jxb_c201 : jc_Cn := (98, 1, [.inr (some (some 282)), .inl (0, .ofNat 4), .inl (2, .ofNat 0)], (3, [(1, .ofNat 5, .ofNat 5), (2, .ofNat 0, .ofNat 21)], [(2310144, .inr (some (some 307))), (2334724, .inl (0, .ofNat 1)), (2514949, .inl (1, .ofNat 0))], [], [], [1, 2, 3, 4, 6, 7]), [(285, 0, 5), (286, 0, 5), (287, 0, 5), (288, 0, 5), (290, 0, 6), (292, 0, 35), (293, 0, 35), (282, 3, 4), (299, 0, 25), (300, 0, 25), (301, 0, 25), (302, 0, 7), (303, 0, 5), (304, 0, 6), (305, 0, 30), (306, 0, 260), (298, 8, 9)], [((1, [], [(2310144, .inr (some (some 307))), (2334724, .inl (0, .ofNat 2)), (2514949, .inl (0, .ofNat 5))], [], [], [1, 2, 3, 4, 6, 7]), none)])
def jxb_c201_N : jc_Nt := []
set_option maxRecDepth 1000000 in
theorem jxb_c201_ok (hX : jc_Xo jxb X) : jc_Con jP jxb X jxb_c201 := jc_mth_ok (Z := (jxb, [], jT, [jxb_c184, jxb_c185], jxb_SP, jxb_c201_N, .ofNat 100000)) (f := 100000) jxb_ok hX jT_ok (jc_c1 (jxb_c184_ok hX) (jc_c1 (jxb_c185_ok hX) jc_c0)) (by decide +kernel)
-- trial.W.arrive4
def jxb_c202 : jc_Cn := (99, 1, [.inr (some (some 282)), .inl (0, .ofNat 4)], (2, [(1, .ofNat 5, .ofNat 5)], [(2310144, .inr (some (some 307))), (2334724, .inl (0, .ofNat 2)), (2514949, .inl (1, .ofNat 0))], [], [], [1, 2, 3, 4, 6, 7]), [(285, 0, 5), (286, 0, 5), (287, 0, 5), (288, 0, 5), (290, 0, 6), (292, 0, 35), (293, 0, 35), (282, 3, 4), (299, 0, 25), (300, 0, 25), (301, 0, 25), (302, 0, 7), (303, 0, 5), (304, 0, 6), (305, 0, 30), (306, 0, 260), (298, 8, 9)], [((2, [(1, .ofNat 1, .ofNat 3)], [(2310144, .inr (some (some 307))), (2334724, .inl (1, .ofNat 0)), (2514949, .inl (0, .ofNat 5))], [], [], [1, 2, 3, 4, 6, 7]), none)])
def jxb_c202_N : jc_Nt := []
set_option maxRecDepth 1000000 in
theorem jxb_c202_ok (hX : jc_Xo jxb X) : jc_Con jP jxb X jxb_c202 := jc_mth_ok (Z := (jxb, [], jT, [jxb_c184], jxb_SP, jxb_c202_N, .ofNat 100000)) (f := 100000) jxb_ok hX jT_ok (jc_c1 (jxb_c184_ok hX) jc_c0) (by decide +kernel)
-- trial.W.tryMove0
def jxb_c203 : jc_Cn := (96, 2, [.inr (some (some 282)), .inl (0, .ofNat 0), .inl (2, .ofNat 0)], (3, [(1, .ofNat 1, .ofNat 5), (2, .ofNat 0, .ofNat 1)], [(2310144, .inr (some (some 307))), (2514949, .inl (1, .ofNat 0))], [], [], [1, 2, 3, 4, 6, 7]), [(285, 0, 5), (286, 0, 5), (287, 0, 5), (288, 0, 5), (290, 0, 6), (292, 0, 35), (293, 0, 35), (282, 3, 4), (299, 0, 25), (300, 0, 25), (301, 0, 25), (302, 0, 7), (303, 0, 5), (304, 0, 6), (305, 0, 30), (306, 0, 260), (298, 8, 9), (295, 1, 2), (296, 0, 5), (297, 0, 5)], [((3, [(1, .ofNat 0, .ofNat 1), (2, .ofNat 1, .ofNat 5)], [(2310144, .inr (some (some 307))), (2514949, .inl (2, .ofNat 0))], [], [], [1, 2, 3, 4, 6, 7]), some (.inl (1, .ofNat 0)))])
def jxb_c203_N : jc_Nt := []
set_option maxRecDepth 1000000 in
theorem jxb_c203_ok (hX : jc_Xo jxb X) : jc_Con jP jxb X jxb_c203 := jc_mth_ok (Z := (jxb, [], jT, [jxb_c149, jxb_c152, jxb_c153, jxb_c151, jxb_c188, jxb_c189], jxb_SP, jxb_c203_N, .ofNat 100000)) (f := 100000) jxb_ok hX jT_ok (jc_c1 (jxb_c149_ok hX) (jc_c1 (jxb_c152_ok hX) (jc_c1 (jxb_c153_ok hX) (jc_c1 (jxb_c151_ok hX) (jc_c1 (jxb_c188_ok hX) (jc_c1 (jxb_c189_ok hX) jc_c0)))))) (by decide +kernel)
-- trial.W.tryMove1
def jxb_c204 : jc_Cn := (96, 2, [.inr (some (some 282)), .inl (0, .ofNat 1), .inl (2, .ofNat 0)], (3, [(1, .ofNat 2, .ofNat 5), (2, .ofNat 0, .ofNat 1)], [(2310144, .inr (some (some 307))), (2514949, .inl (1, .ofNat 0))], [], [], [1, 2, 3, 4, 6, 7]), [(285, 0, 5), (286, 0, 5), (287, 0, 5), (288, 0, 5), (290, 0, 6), (292, 0, 35), (293, 0, 35), (282, 3, 4), (299, 0, 25), (300, 0, 25), (301, 0, 25), (302, 0, 7), (303, 0, 5), (304, 0, 6), (305, 0, 30), (306, 0, 260), (298, 8, 9), (295, 1, 2), (296, 0, 5), (297, 0, 5)], [((3, [(1, .ofNat 0, .ofNat 1), (2, .ofNat 2, .ofNat 5)], [(2310144, .inr (some (some 307))), (2514949, .inl (2, .ofNat 0))], [], [], [1, 2, 3, 4, 6, 7]), some (.inl (1, .ofNat 0)))])
def jxb_c204_N : jc_Nt := []
set_option maxRecDepth 1000000 in
theorem jxb_c204_ok (hX : jc_Xo jxb X) : jc_Con jP jxb X jxb_c204 := jc_mth_ok (Z := (jxb, [], jT, [jxb_c149, jxb_c155, jxb_c156, jxb_c151, jxb_c191, jxb_c192], jxb_SP, jxb_c204_N, .ofNat 100000)) (f := 100000) jxb_ok hX jT_ok (jc_c1 (jxb_c149_ok hX) (jc_c1 (jxb_c155_ok hX) (jc_c1 (jxb_c156_ok hX) (jc_c1 (jxb_c151_ok hX) (jc_c1 (jxb_c191_ok hX) (jc_c1 (jxb_c192_ok hX) jc_c0)))))) (by decide +kernel)
-- trial.W.tryMove2
def jxb_c205 : jc_Cn := (96, 2, [.inr (some (some 282)), .inl (0, .ofNat 2), .inl (2, .ofNat 0)], (3, [(1, .ofNat 3, .ofNat 5), (2, .ofNat 0, .ofNat 1)], [(2310144, .inr (some (some 307))), (2514949, .inl (1, .ofNat 0))], [], [], [1, 2, 3, 4, 6, 7]), [(285, 0, 5), (286, 0, 5), (287, 0, 5), (288, 0, 5), (290, 0, 6), (292, 0, 35), (293, 0, 35), (282, 3, 4), (299, 0, 25), (300, 0, 25), (301, 0, 25), (302, 0, 7), (303, 0, 5), (304, 0, 6), (305, 0, 30), (306, 0, 260), (298, 8, 9), (295, 1, 2), (296, 0, 5), (297, 0, 5)], [((3, [(1, .ofNat 0, .ofNat 1), (2, .ofNat 3, .ofNat 5)], [(2310144, .inr (some (some 307))), (2514949, .inl (2, .ofNat 0))], [], [], [1, 2, 3, 4, 6, 7]), some (.inl (1, .ofNat 0)))])
def jxb_c205_N : jc_Nt := []
set_option maxRecDepth 1000000 in
theorem jxb_c205_ok (hX : jc_Xo jxb X) : jc_Con jP jxb X jxb_c205 := jc_mth_ok (Z := (jxb, [], jT, [jxb_c149, jxb_c158, jxb_c159, jxb_c151, jxb_c194, jxb_c195], jxb_SP, jxb_c205_N, .ofNat 100000)) (f := 100000) jxb_ok hX jT_ok (jc_c1 (jxb_c149_ok hX) (jc_c1 (jxb_c158_ok hX) (jc_c1 (jxb_c159_ok hX) (jc_c1 (jxb_c151_ok hX) (jc_c1 (jxb_c194_ok hX) (jc_c1 (jxb_c195_ok hX) jc_c0)))))) (by decide +kernel)
end Jjxb12

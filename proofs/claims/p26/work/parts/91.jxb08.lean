/-! contracts of the class, told in B (8); written by wip/jc/e4.py -/
section Jjxb8
variable {X : J_H → Prop}
-- trial.B.comeIn2
def jxb_c124 : jc_Cn := (97, 1, [.inr (some (some 282)), .inl (0, .ofNat 2), .inl (2, .ofNat 0)], (3, [(1, .ofNat 3, .ofNat 5), (2, .ofNat 0, .ofNat 20)], [(2310144, .inr (some (some 343))), (2334722, .inl (0, .ofNat 0)), (2809861, .inl (1, .ofNat 0))], [], [], [1, 2, 3, 5, 6, 7]), [(285, 0, 5), (286, 0, 5), (287, 0, 5), (288, 0, 5), (290, 0, 6), (292, 0, 35), (293, 0, 35), (282, 3, 4), (299, 0, 25), (300, 0, 25), (301, 0, 25), (302, 0, 7), (303, 0, 5), (304, 0, 6), (305, 0, 30), (306, 0, 260), (298, 8, 9)], [((2, [(1, .ofNat 3, .ofNat 5)], [(2310144, .inr (some (some 343))), (2334722, .inl (0, .ofNat 1)), (2809861, .inl (1, .ofNat 0))], [], [], [1, 2, 3, 5, 6, 7]), none)])
def jxb_c124_N : jc_Nt := []
set_option maxRecDepth 1000000 in
theorem jxb_c124_ok (hX : jc_Xo jxb X) : jc_Con jP jxb X jxb_c124 := jc_mth_ok (Z := (jxb, [], jT, [jxb_c114], jxb_SP, jxb_c124_N, .ofNat 100000)) (f := 100000) jxb_ok hX jT_ok (jc_c1 (jxb_c114_ok hX) jc_c0) (by decide +kernel)
-- trial.B.leave2
def jxb_c125 : jc_Cn := (98, 1, [.inr (some (some 282)), .inl (0, .ofNat 2), .inl (2, .ofNat 0)], (3, [(1, .ofNat 3, .ofNat 5), (2, .ofNat 0, .ofNat 21)], [(2310144, .inr (some (some 343))), (2334722, .inl (0, .ofNat 1)), (2809861, .inl (1, .ofNat 0))], [], [], [1, 2, 3, 5, 6, 7]), [(285, 0, 5), (286, 0, 5), (287, 0, 5), (288, 0, 5), (290, 0, 6), (292, 0, 35), (293, 0, 35), (282, 3, 4), (299, 0, 25), (300, 0, 25), (301, 0, 25), (302, 0, 7), (303, 0, 5), (304, 0, 6), (305, 0, 30), (306, 0, 260), (298, 8, 9)], [((2, [(1, .ofNat 3, .ofNat 5)], [(2310144, .inr (some (some 343))), (2334722, .inl (0, .ofNat 2)), (2809861, .inl (1, .ofNat 0))], [], [], [1, 2, 3, 5, 6, 7]), none)])
def jxb_c125_N : jc_Nt := []
set_option maxRecDepth 1000000 in
theorem jxb_c125_ok (hX : jc_Xo jxb X) : jc_Con jP jxb X jxb_c125 := jc_mth_ok (Z := (jxb, [], jT, [jxb_c114, jxb_c115], jxb_SP, jxb_c125_N, .ofNat 100000)) (f := 100000) jxb_ok hX jT_ok (jc_c1 (jxb_c114_ok hX) (jc_c1 (jxb_c115_ok hX) jc_c0)) (by decide +kernel)
-- trial.B.arrive2
def jxb_c126 : jc_Cn := (99, 1, [.inr (some (some 282)), .inl (0, .ofNat 2)], (2, [(1, .ofNat 3, .ofNat 5)], [(2310144, .inr (some (some 343))), (2334722, .inl (0, .ofNat 2)), (2809861, .inl (1, .ofNat 0))], [], [], [1, 2, 3, 5, 6, 7]), [(285, 0, 5), (286, 0, 5), (287, 0, 5), (288, 0, 5), (290, 0, 6), (292, 0, 35), (293, 0, 35), (282, 3, 4), (299, 0, 25), (300, 0, 25), (301, 0, 25), (302, 0, 7), (303, 0, 5), (304, 0, 6), (305, 0, 30), (306, 0, 260), (298, 8, 9)], [((3, [(1, .ofNat 1, .ofNat 3), (2, .ofNat 3, .ofNat 5)], [(2310144, .inr (some (some 343))), (2334722, .inl (1, .ofNat 0)), (2809861, .inl (2, .ofNat 0))], [], [], [1, 2, 3, 5, 6, 7]), none)])
def jxb_c126_N : jc_Nt := []
set_option maxRecDepth 1000000 in
theorem jxb_c126_ok (hX : jc_Xo jxb X) : jc_Con jP jxb X jxb_c126 := jc_mth_ok (Z := (jxb, [], jT, [jxb_c114], jxb_SP, jxb_c126_N, .ofNat 100000)) (f := 100000) jxb_ok hX jT_ok (jc_c1 (jxb_c114_ok hX) jc_c0) (by decide +kernel)
-- trial.B.comeIn3
def jxb_c127 : jc_Cn := (97, 1, [.inr (some (some 282)), .inl (0, .ofNat 3), .inl (2, .ofNat 0)], (3, [(1, .ofNat 4, .ofNat 5), (2, .ofNat 0, .ofNat 20)], [(2310144, .inr (some (some 343))), (2334723, .inl (0, .ofNat 0)), (2809861, .inl (1, .ofNat 0))], [], [], [1, 2, 3, 5, 6, 7]), [(285, 0, 5), (286, 0, 5), (287, 0, 5), (288, 0, 5), (290, 0, 6), (292, 0, 35), (293, 0, 35), (282, 3, 4), (299, 0, 25), (300, 0, 25), (301, 0, 25), (302, 0, 7), (303, 0, 5), (304, 0, 6), (305, 0, 30), (306, 0, 260), (298, 8, 9)], [((2, [(1, .ofNat 4, .ofNat 5)], [(2310144, .inr (some (some 343))), (2334723, .inl (0, .ofNat 1)), (2809861, .inl (1, .ofNat 0))], [], [], [1, 2, 3, 5, 6, 7]), none)])
def jxb_c127_N : jc_Nt := []
set_option maxRecDepth 1000000 in
theorem jxb_c127_ok (hX : jc_Xo jxb X) : jc_Con jP jxb X jxb_c127 := jc_mth_ok (Z := (jxb, [], jT, [jxb_c114], jxb_SP, jxb_c127_N, .ofNat 100000)) (f := 100000) jxb_ok hX jT_ok (jc_c1 (jxb_c114_ok hX) jc_c0) (by decide +kernel)
-- trial.B.leave3
def jxb_c128 : jc_Cn := (98, 1, [.inr (some (some 282)), .inl (0, .ofNat 3), .inl (2, .ofNat 0)], (3, [(1, .ofNat 4, .ofNat 5), (2, .ofNat 0, .ofNat 21)], [(2310144, .inr (some (some 343))), (2334723, .inl (0, .ofNat 1)), (2809861, .inl (1, .ofNat 0))], [], [], [1, 2, 3, 5, 6, 7]), [(285, 0, 5), (286, 0, 5), (287, 0, 5), (288, 0, 5), (290, 0, 6), (292, 0, 35), (293, 0, 35), (282, 3, 4), (299, 0, 25), (300, 0, 25), (301, 0, 25), (302, 0, 7), (303, 0, 5), (304, 0, 6), (305, 0, 30), (306, 0, 260), (298, 8, 9)], [((2, [(1, .ofNat 4, .ofNat 5)], [(2310144, .inr (some (some 343))), (2334723, .inl (0, .ofNat 2)), (2809861, .inl (1, .ofNat 0))], [], [], [1, 2, 3, 5, 6, 7]), none)])
def jxb_c128_N : jc_Nt := []
set_option maxRecDepth 1000000 in
theorem jxb_c128_ok (hX : jc_Xo jxb X) : jc_Con jP jxb X jxb_c128 := jc_mth_ok (Z := (jxb, [], jT, [jxb_c114, jxb_c115], jxb_SP, jxb_c128_N, .ofNat 100000)) (f := 100000) jxb_ok hX jT_ok (jc_c1 (jxb_c114_ok hX) (jc_c1 (jxb_c115_ok hX) jc_c0)) (by decide +kernel)
-- trial.B.arrive3
def jxb_c129 : jc_Cn := (99, 1, [.inr (some (some 282)), .inl (0, .ofNat 3)], (2, [(1, .ofNat 4, .ofNat 5)], [(2310144, .inr (some (some 343))), (2334723, .inl (0, .ofNat 2)), (2809861, .inl (1, .ofNat 0))], [], [], [1, 2, 3, 5, 6, 7]), [(285, 0, 5), (286, 0, 5), (287, 0, 5), (288, 0, 5), (290, 0, 6), (292, 0, 35), (293, 0, 35), (282, 3, 4), (299, 0, 25), (300, 0, 25), (301, 0, 25), (302, 0, 7), (303, 0, 5), (304, 0, 6), (305, 0, 30), (306, 0, 260), (298, 8, 9)], [((3, [(1, .ofNat 1, .ofNat 3), (2, .ofNat 4, .ofNat 5)], [(2310144, .inr (some (some 343))), (2334723, .inl (1, .ofNat 0)), (2809861, .inl (2, .ofNat 0))], [], [], [1, 2, 3, 5, 6, 7]), none)])
def jxb_c129_N : jc_Nt := []
set_option maxRecDepth 1000000 in
theorem jxb_c129_ok (hX : jc_Xo jxb X) : jc_Con jP jxb X jxb_c129 := jc_mth_ok (Z := (jxb, [], jT, [jxb_c114], jxb_SP, jxb_c129_N, .ofNat 100000)) (f := 100000) jxb_ok hX jT_ok (jc_c1 (jxb_c114_ok hX) jc_c0) (by decide +kernel)
-- trial.B.comeIn4
def jxb_c130 : jc_Cn := (97, 1, [.inr (some (some 282)), .inl (0, .ofNat 4), .inl (2, .ofNat 0)], (3, [(1, .ofNat 5, .ofNat 5), (2, .ofNat 0, .ofNat 20)], [(2310144, .inr (some (some 343))), (2334724, .inl (0, .ofNat 0)), (2809861, .inl (1, .ofNat 0))], [], [], [1, 2, 3, 5, 6, 7]), [(285, 0, 5), (286, 0, 5), (287, 0, 5), (288, 0, 5), (290, 0, 6), (292, 0, 35), (293, 0, 35), (282, 3, 4), (299, 0, 25), (300, 0, 25), (301, 0, 25), (302, 0, 7), (303, 0, 5), (304, 0, 6), (305, 0, 30), (306, 0, 260), (298, 8, 9)], [((1, [], [(2310144, .inr (some (some 343))), (2334724, .inl (0, .ofNat 1)), (2809861, .inl (0, .ofNat 5))], [], [], [1, 2, 3, 5, 6, 7]), none)])
def jxb_c130_N : jc_Nt := []
set_option maxRecDepth 1000000 in
theorem jxb_c130_ok (hX : jc_Xo jxb X) : jc_Con jP jxb X jxb_c130 := jc_mth_ok (Z := (jxb, [], jT, [jxb_c114], jxb_SP, jxb_c130_N, .ofNat 100000)) (f := 100000) jxb_ok hX jT_ok (jc_c1 (jxb_c114_ok hX) jc_c0) (by decide +kernel)
-- trial.B.leave4
def jxb_c131 : jc_Cn := (98, 1, [.inr (some (some 282)), .inl (0, .ofNat 4), .inl (2, .ofNat 0)], (3, [(1, .ofNat 5, .ofNat 5), (2, .ofNat 0, .ofNat 21)], [(2310144, .inr (some (some 343))), (2334724, .inl (0, .ofNat 1)), (2809861, .inl (1, .ofNat 0))], [], [], [1, 2, 3, 5, 6, 7]), [(285, 0, 5), (286, 0, 5), (287, 0, 5), (288, 0, 5), (290, 0, 6), (292, 0, 35), (293, 0, 35), (282, 3, 4), (299, 0, 25), (300, 0, 25), (301, 0, 25), (302, 0, 7), (303, 0, 5), (304, 0, 6), (305, 0, 30), (306, 0, 260), (298, 8, 9)], [((1, [], [(2310144, .inr (some (some 343))), (2334724, .inl (0, .ofNat 2)), (2809861, .inl (0, .ofNat 5))], [], [], [1, 2, 3, 5, 6, 7]), none)])
def jxb_c131_N : jc_Nt := []
set_option maxRecDepth 1000000 in
theorem jxb_c131_ok (hX : jc_Xo jxb X) : jc_Con jP jxb X jxb_c131 := jc_mth_ok (Z := (jxb, [], jT, [jxb_c114, jxb_c115], jxb_SP, jxb_c131_N, .ofNat 100000)) (f := 100000) jxb_ok hX jT_ok (jc_c1 (jxb_c114_ok hX) (jc_c1 (jxb_c115_ok hX) jc_c0)) (by decide +kernel)
-- trial.B.arrive4
def jxb_c132 : jc_Cn := (99, 1, [.inr (some (some 282)), .inl (0, .ofNat 4)], (2, [(1, .ofNat 5, .ofNat 5)], [(2310144, .inr (some (some 343))), (2334724, .inl (0, .ofNat 2)), (2809861, .inl (1, .ofNat 0))], [], [], [1, 2, 3, 5, 6, 7]), [(285, 0, 5), (286, 0, 5), (287, 0, 5), (288, 0, 5), (290, 0, 6), (292, 0, 35), (293, 0, 35), (282, 3, 4), (299, 0, 25), (300, 0, 25), (301, 0, 25), (302, 0, 7), (303, 0, 5), (304, 0, 6), (305, 0, 30), (306, 0, 260), (298, 8, 9)], [((2, [(1, .ofNat 1, .ofNat 3)], [(2310144, .inr (some (some 343))), (2334724, .inl (1, .ofNat 0)), (2809861, .inl (0, .ofNat 5))], [], [], [1, 2, 3, 5, 6, 7]), none)])
def jxb_c132_N : jc_Nt := []
set_option maxRecDepth 1000000 in
theorem jxb_c132_ok (hX : jc_Xo jxb X) : jc_Con jP jxb X jxb_c132 := jc_mth_ok (Z := (jxb, [], jT, [jxb_c114], jxb_SP, jxb_c132_N, .ofNat 100000)) (f := 100000) jxb_ok hX jT_ok (jc_c1 (jxb_c114_ok hX) jc_c0) (by decide +kernel)
-- trial.B.tryMove0
def jxb_c133 : jc_Cn := (96, 2, [.inr (some (some 282)), .inl (0, .ofNat 0), .inl (2, .ofNat 0)], (3, [(1, .ofNat 1, .ofNat 5), (2, .ofNat 0, .ofNat 1)], [(2310144, .inr (some (some 343))), (2809861, .inl (1, .ofNat 0))], [], [], [1, 2, 3, 5, 6, 7]), [(285, 0, 5), (286, 0, 5), (287, 0, 5), (288, 0, 5), (290, 0, 6), (292, 0, 35), (293, 0, 35), (282, 3, 4), (299, 0, 25), (300, 0, 25), (301, 0, 25), (302, 0, 7), (303, 0, 5), (304, 0, 6), (305, 0, 30), (306, 0, 260), (298, 8, 9), (295, 1, 2), (296, 0, 5), (297, 0, 5)], [((3, [(1, .ofNat 0, .ofNat 1), (2, .ofNat 1, .ofNat 5)], [(2310144, .inr (some (some 343))), (2809861, .inl (2, .ofNat 0))], [], [], [1, 2, 3, 5, 6, 7]), some (.inl (1, .ofNat 0)))])
def jxb_c133_N : jc_Nt := []
set_option maxRecDepth 1000000 in
theorem jxb_c133_ok (hX : jc_Xo jxb X) : jc_Con jP jxb X jxb_c133 := jc_mth_ok (Z := (jxb, [], jT, [jxb_c79, jxb_c82, jxb_c83, jxb_c81, jxb_c118, jxb_c119], jxb_SP, jxb_c133_N, .ofNat 100000)) (f := 100000) jxb_ok hX jT_ok (jc_c1 (jxb_c79_ok hX) (jc_c1 (jxb_c82_ok hX) (jc_c1 (jxb_c83_ok hX) (jc_c1 (jxb_c81_ok hX) (jc_c1 (jxb_c118_ok hX) (jc_c1 (jxb_c119_ok hX) jc_c0)))))) (by decide +kernel)
-- trial.B.tryMove1
def jxb_c134 : jc_Cn := (96, 2, [.inr (some (some 282)), .inl (0, .ofNat 1), .inl (2, .ofNat 0)], (3, [(1, .ofNat 2, .ofNat 5), (2, .ofNat 0, .ofNat 1)], [(2310144, .inr (some (some 343))), (2809861, .inl (1, .ofNat 0))], [], [], [1, 2, 3, 5, 6, 7]), [(285, 0, 5), (286, 0, 5), (287, 0, 5), (288, 0, 5), (290, 0, 6), (292, 0, 35), (293, 0, 35), (282, 3, 4), (299, 0, 25), (300, 0, 25), (301, 0, 25), (302, 0, 7), (303, 0, 5), (304, 0, 6), (305, 0, 30), (306, 0, 260), (298, 8, 9), (295, 1, 2), (296, 0, 5), (297, 0, 5)], [((3, [(1, .ofNat 0, .ofNat 1), (2, .ofNat 2, .ofNat 5)], [(2310144, .inr (some (some 343))), (2809861, .inl (2, .ofNat 0))], [], [], [1, 2, 3, 5, 6, 7]), some (.inl (1, .ofNat 0)))])
def jxb_c134_N : jc_Nt := []
set_option maxRecDepth 1000000 in
theorem jxb_c134_ok (hX : jc_Xo jxb X) : jc_Con jP jxb X jxb_c134 := jc_mth_ok (Z := (jxb, [], jT, [jxb_c79, jxb_c85, jxb_c86, jxb_c81, jxb_c121, jxb_c122], jxb_SP, jxb_c134_N, .ofNat 100000)) (f := 100000) jxb_ok hX jT_ok (jc_c1 (jxb_c79_ok hX) (jc_c1 (jxb_c85_ok hX) (jc_c1 (jxb_c86_ok hX) (jc_c1 (jxb_c81_ok hX) (jc_c1 (jxb_c121_ok hX) (jc_c1 (jxb_c122_ok hX) jc_c0)))))) (by decide +kernel)
-- trial.B.tryMove2
def jxb_c135 : jc_Cn := (96, 2, [.inr (some (some 282)), .inl (0, .ofNat 2), .inl (2, .ofNat 0)], (3, [(1, .ofNat 3, .ofNat 5), (2, .ofNat 0, .ofNat 1)], [(2310144, .inr (some (some 343))), (2809861, .inl (1, .ofNat 0))], [], [], [1, 2, 3, 5, 6, 7]), [(285, 0, 5), (286, 0, 5), (287, 0, 5), (288, 0, 5), (290, 0, 6), (292, 0, 35), (293, 0, 35), (282, 3, 4), (299, 0, 25), (300, 0, 25), (301, 0, 25), (302, 0, 7), (303, 0, 5), (304, 0, 6), (305, 0, 30), (306, 0, 260), (298, 8, 9), (295, 1, 2), (296, 0, 5), (297, 0, 5)], [((3, [(1, .ofNat 0, .ofNat 1), (2, .ofNat 3, .ofNat 5)], [(2310144, .inr (some (some 343))), (2809861, .inl (2, .ofNat 0))], [], [], [1, 2, 3, 5, 6, 7]), some (.inl (1, .ofNat 0)))])
def jxb_c135_N : jc_Nt := []
set_option maxRecDepth 1000000 in
theorem jxb_c135_ok (hX : jc_Xo jxb X) : jc_Con jP jxb X jxb_c135 := jc_mth_ok (Z := (jxb, [], jT, [jxb_c79, jxb_c88, jxb_c89, jxb_c81, jxb_c124, jxb_c125], jxb_SP, jxb_c135_N, .ofNat 100000)) (f := 100000) jxb_ok hX jT_ok (jc_c1 (jxb_c79_ok hX) (jc_c1 (jxb_c88_ok hX) (jc_c1 (jxb_c89_ok hX) (jc_c1 (jxb_c81_ok hX) (jc_c1 (jxb_c124_ok hX) (jc_c1 (jxb_c125_ok hX) jc_c0)))))) (by decide +kernel)
end Jjxb8

/-! contracts of the class, told in A (8); written by wip/jc/e4.py -/
section Jjxa8
variable {X : J_H → Prop}
-- trial.A.comeIn2
def jxa_c124 : jc_Cn := (97, 1, [.inr (some (some 282)), .inl (0, .ofNat 2), .inl (2, .ofNat 0)], (3, [(1, .ofNat 3, .ofNat 5), (2, .ofNat 0, .ofNat 20)], [(2310144, .inr (some (some 327))), (2334722, .inl (0, .ofNat 0)), (2678789, .inl (1, .ofNat 0))], [], [], [1, 2, 4, 5, 6, 7]), [(285, 0, 5), (286, 0, 5), (287, 0, 5), (288, 0, 5), (290, 0, 6), (292, 0, 35), (293, 0, 35), (282, 3, 4), (299, 0, 25), (300, 0, 25), (301, 0, 25), (302, 0, 7), (303, 0, 5), (304, 0, 6), (305, 0, 30), (306, 0, 260), (298, 8, 9)], [((2, [(1, .ofNat 3, .ofNat 5)], [(2310144, .inr (some (some 327))), (2334722, .inl (0, .ofNat 1)), (2678789, .inl (1, .ofNat 0))], [], [], [1, 2, 4, 5, 6, 7]), none)])
def jxa_c124_N : jc_Nt := []
set_option maxRecDepth 1000000 in
theorem jxa_c124_ok (hX : jc_Xo jxa X) : jc_Con jP jxa X jxa_c124 := jc_mth_ok (Z := (jxa, [], jT, [jxa_c114], jxa_SP, jxa_c124_N, .ofNat 100000)) (f := 100000) jxa_ok hX jT_ok (jc_c1 (jxa_c114_ok hX) jc_c0) (by decide +kernel)
-- trial.A.leave2
def jxa_c125 : jc_Cn := (98, 1, [.inr (some (some 282)), .inl (0, .ofNat 2), .inl (2, .ofNat 0)], (3, [(1, .ofNat 3, .ofNat 5), (2, .ofNat 0, .ofNat 21)], [(2310144, .inr (some (some 327))), (2334722, .inl (0, .ofNat 1)), (2678789, .inl (1, .ofNat 0))], [], [], [1, 2, 4, 5, 6, 7]), [(285, 0, 5), (286, 0, 5), (287, 0, 5), (288, 0, 5), (290, 0, 6), (292, 0, 35), (293, 0, 35), (282, 3, 4), (299, 0, 25), (300, 0, 25), (301, 0, 25), (302, 0, 7), (303, 0, 5), (304, 0, 6), (305, 0, 30), (306, 0, 260), (298, 8, 9)], [((2, [(1, .ofNat 3, .ofNat 5)], [(2310144, .inr (some (some 327))), (2334722, .inl (0, .ofNat 2)), (2678789, .inl (1, .ofNat 0))], [], [], [1, 2, 4, 5, 6, 7]), none)])
def jxa_c125_N : jc_Nt := []
set_option maxRecDepth 1000000 in
theorem jxa_c125_ok (hX : jc_Xo jxa X) : jc_Con jP jxa X jxa_c125 := jc_mth_ok (Z := (jxa, [], jT, [jxa_c114, jxa_c115], jxa_SP, jxa_c125_N, .ofNat 100000)) (f := 100000) jxa_ok hX jT_ok (jc_c1 (jxa_c114_ok hX) (jc_c1 (jxa_c115_ok hX) jc_c0)) (by decide +kernel)
-- trial.A.arrive2
def jxa_c126 : jc_Cn := (99, 1, [.inr (some (some 282)), .inl (0, .ofNat 2)], (2, [(1, .ofNat 3, .ofNat 5)], [(2310144, .inr (some (some 327))), (2334722, .inl (0, .ofNat 2)), (2678789, .inl (1, .ofNat 0))], [], [], [1, 2, 4, 5, 6, 7]), [(285, 0, 5), (286, 0, 5), (287, 0, 5), (288, 0, 5), (290, 0, 6), (292, 0, 35), (293, 0, 35), (282, 3, 4), (299, 0, 25), (300, 0, 25), (301, 0, 25), (302, 0, 7), (303, 0, 5), (304, 0, 6), (305, 0, 30), (306, 0, 260), (298, 8, 9)], [((3, [(1, .ofNat 1, .ofNat 3), (2, .ofNat 3, .ofNat 5)], [(2310144, .inr (some (some 327))), (2334722, .inl (1, .ofNat 0)), (2678789, .inl (2, .ofNat 0))], [], [], [1, 2, 4, 5, 6, 7]), none)])
def jxa_c126_N : jc_Nt := []
set_option maxRecDepth 1000000 in
theorem jxa_c126_ok (hX : jc_Xo jxa X) : jc_Con jP jxa X jxa_c126 := jc_mth_ok (Z := (jxa, [], jT, [jxa_c114], jxa_SP, jxa_c126_N, .ofNat 100000)) (f := 100000) jxa_ok hX jT_ok (jc_c1 (jxa_c114_ok hX) jc_c0) (by decide +kernel)
-- trial.A.comeIn3
def jxa_c127 : jc_Cn := (97, 1, [.inr (some (some 282)), .inl (0, .ofNat 3), .inl (2, .ofNat 0)], (3, [(1, .ofNat 4, .ofNat 5), (2, .ofNat 0, .ofNat 20)], [(2310144, .inr (some (some 327))), (2334723, .inl (0, .ofNat 0)), (2678789, .inl (1, .ofNat 0))], [], [], [1, 2, 4, 5, 6, 7]), [(285, 0, 5), (286, 0, 5), (287, 0, 5), (288, 0, 5), (290, 0, 6), (292, 0, 35), (293, 0, 35), (282, 3, 4), (299, 0, 25), (300, 0, 25), (301, 0, 25), (302, 0, 7), (303, 0, 5), (304, 0, 6), (305, 0, 30), (306, 0, 260), (298, 8, 9)], [((2, [(1, .ofNat 4, .ofNat 5)], [(2310144, .inr (some (some 327))), (2334723, .inl (0, .ofNat 1)), (2678789, .inl (1, .ofNat 0))], [], [], [1, 2, 4, 5, 6, 7]), none)])
def jxa_c127_N : jc_Nt := []
set_option maxRecDepth 1000000 in
theorem jxa_c127_ok (hX : jc_Xo jxa X) : jc_Con jP jxa X jxa_c127 := jc_mth_ok (Z := (jxa, [], jT, [jxa_c114], jxa_SP, jxa_c127_N, .ofNat 100000)) (f := 100000) jxa_ok hX jT_ok (jc_c1 (jxa_c114_ok hX) jc_c0) (by decide +kernel)
-- trial.A.leave3
def jxa_c128 : jc_Cn := (98, 1, [.inr (some (some 282)), .inl (0, .ofNat 3), .inl (2, .ofNat 0)], (3, [(1, .ofNat 4, .ofNat 5), (2, .ofNat 0, .ofNat 21)], [(2310144, .inr (some (some 327))), (2334723, .inl (0, .ofNat 1)), (2678789, .inl (1, .ofNat 0))], [], [], [1, 2, 4, 5, 6, 7]), [(285, 0, 5), (286, 0, 5), (287, 0, 5), (288, 0, 5), (290, 0, 6), (292, 0, 35), (293, 0, 35), (282, 3, 4), (299, 0, 25), (300, 0, 25), (301, 0, 25), (302, 0, 7), (303, 0, 5), (304, 0, 6), (305, 0, 30), (306, 0, 260), (298, 8, 9)], [((2, [(1, .ofNat 4, .ofNat 5)], [(2310144, .inr (some (some 327))), (2334723, .inl (0, .ofNat 2)), (2678789, .inl (1, .ofNat 0))], [], [], [1, 2, 4, 5, 6, 7]), none)])
def jxa_c128_N : jc_Nt := []
set_option maxRecDepth 1000000 in
theorem jxa_c128_ok (hX : jc_Xo jxa X) : jc_Con jP jxa X jxa_c128 := jc_mth_ok (Z := (jxa, [], jT, [jxa_c114, jxa_c115], jxa_SP, jxa_c128_N, .ofNat 100000)) (f := 100000) jxa_ok hX jT_ok (jc_c1 (jxa_c114_ok hX) (jc_c1 (jxa_c115_ok hX) jc_c0)) (by decide +kernel)
-- trial.A.arrive3
def jxa_c129 : jc_Cn := (99, 1, [.inr (some (some 282)), .inl (0, .ofNat 3)], (2, [(1, .ofNat 4, .ofNat 5)], [(2310144, .inr (some (some 327))), (2334723, .inl (0, .ofNat 2)), (2678789, .inl (1, .ofNat 0))], [], [], [1, 2, 4, 5, 6, 7]), [(285, 0, 5), (286, 0, 5), (287, 0, 5), (288, 0, 5), (290, 0, 6), (292, 0, 35), (293, 0, 35), (282, 3, 4), (299, 0, 25), (300, 0, 25), (301, 0, 25), (302, 0, 7), (303, 0, 5), (304, 0, 6), (305, 0, 30), (306, 0, 260), (298, 8, 9)], [((3, [(1, .ofNat 1, .ofNat 3), (2, .ofNat 4, .ofNat 5)], [(2310144, .inr (some (some 327))), (2334723, .inl (1, .ofNat 0)), (2678789, .inl (2, .ofNat 0))], [], [], [1, 2, 4, 5, 6, 7]), none)])
def jxa_c129_N : jc_Nt := []
set_option maxRecDepth 1000000 in
theorem jxa_c129_ok (hX : jc_Xo jxa X) : jc_Con jP jxa X jxa_c129 := jc_mth_ok (Z := (jxa, [], jT, [jxa_c114], jxa_SP, jxa_c129_N, .ofNat 100000)) (f := 100000) jxa_ok hX jT_ok (jc_c1 (jxa_c114_ok hX) jc_c0) (by decide +kernel)
-- trial.A.comeIn4
def jxa_c130 : jc_Cn := (97, 1, [.inr (some (some 282)), .inl (0, .ofNat 4), .inl (2, .ofNat 0)], (3, [(1, .ofNat 5, .ofNat 5), (2, .ofNat 0, .ofNat 20)], [(2310144, .inr (some (some 327))), (2334724, .inl (0, .ofNat 0)), (2678789, .inl (1, .ofNat 0))], [], [], [1, 2, 4, 5, 6, 7]), [(285, 0, 5), (286, 0, 5), (287, 0, 5), (288, 0, 5), (290, 0, 6), (292, 0, 35), (293, 0, 35), (282, 3, 4), (299, 0, 25), (300, 0, 25), (301, 0, 25), (302, 0, 7), (303, 0, 5), (304, 0, 6), (305, 0, 30), (306, 0, 260), (298, 8, 9)], [((1, [], [(2310144, .inr (some (some 327))), (2334724, .inl (0, .ofNat 1)), (2678789, .inl (0, .ofNat 5))], [], [], [1, 2, 4, 5, 6, 7]), none)])
def jxa_c130_N : jc_Nt := []
set_option maxRecDepth 1000000 in
theorem jxa_c130_ok (hX : jc_Xo jxa X) : jc_Con jP jxa X jxa_c130 := jc_mth_ok (Z := (jxa, [], jT, [jxa_c114], jxa_SP, jxa_c130_N, .ofNat 100000)) (f := 100000) jxa_ok hX jT_ok (jc_c1 (jxa_c114_ok hX) jc_c0) (by decide +kernel)
-- trial.A.leave4
def jxa_c131 : jc_Cn := (98, 1, [.inr (some (some 282)), .inl (0, .ofNat 4), .inl (2, .ofNat 0)], (3, [(1, .ofNat 5, .ofNat 5), (2, .ofNat 0, .ofNat 21)], [(2310144, .inr (some (some 327))), (2334724, .inl (0, .ofNat 1)), (2678789, .inl (1, .ofNat 0))], [], [], [1, 2, 4, 5, 6, 7]), [(285, 0, 5), (286, 0, 5), (287, 0, 5), (288, 0, 5), (290, 0, 6), (292, 0, 35), (293, 0, 35), (282, 3, 4), (299, 0, 25), (300, 0, 25), (301, 0, 25), (302, 0, 7), (303, 0, 5), (304, 0, 6), (305, 0, 30), (306, 0, 260), (298, 8, 9)], [((1, [], [(2310144, .inr (some (some 327))), (2334724, .inl (0, .ofNat 2)), (2678789, .inl (0, .ofNat 5))], [], [], [1, 2, 4, 5, 6, 7]), none)])
def jxa_c131_N : jc_Nt := []
set_option maxRecDepth 1000000 in
theorem jxa_c131_ok (hX : jc_Xo jxa X) : jc_Con jP jxa X jxa_c131 := jc_mth_ok (Z := (jxa, [], jT, [jxa_c114, jxa_c115], jxa_SP, jxa_c131_N, .ofNat 100000)) (f := 100000) jxa_ok hX jT_ok (jc_c1 (jxa_c114_ok hX) (jc_c1 (jxa_c115_ok hX) jc_c0)) (by decide +kernel)
-- trial.A.arrive4
def jxa_c132 : jc_Cn := (99, 1, [.inr (some (some 282)), .inl (0, .ofNat 4)], (2, [(1, .ofNat 5, .ofNat 5)], [(2310144, .inr (some (some 327))), (2334724, .inl (0, .ofNat 2)), (2678789, .inl (1, .ofNat 0))], [], [], [1, 2, 4, 5, 6, 7]), [(285, 0, 5), (286, 0, 5), (287, 0, 5), (288, 0, 5), (290, 0, 6), (292, 0, 35), (293, 0, 35), (282, 3, 4), (299, 0, 25), (300, 0, 25), (301, 0, 25), (302, 0, 7), (303, 0, 5), (304, 0, 6), (305, 0, 30), (306, 0, 260), (298, 8, 9)], [((2, [(1, .ofNat 1, .ofNat 3)], [(2310144, .inr (some (some 327))), (2334724, .inl (1, .ofNat 0)), (2678789, .inl (0, .ofNat 5))], [], [], [1, 2, 4, 5, 6, 7]), none)])
def jxa_c132_N : jc_Nt := []
set_option maxRecDepth 1000000 in
theorem jxa_c132_ok (hX : jc_Xo jxa X) : jc_Con jP jxa X jxa_c132 := jc_mth_ok (Z := (jxa, [], jT, [jxa_c114], jxa_SP, jxa_c132_N, .ofNat 100000)) (f := 100000) jxa_ok hX jT_ok (jc_c1 (jxa_c114_ok hX) jc_c0) (by decide +kernel)
-- trial.A.tryMove0
def jxa_c133 : jc_Cn := (96, 2, [.inr (some (some 282)), .inl (0, .ofNat 0), .inl (2, .ofNat 0)], (3, [(1, .ofNat 1, .ofNat 5), (2, .ofNat 0, .ofNat 1)], [(2310144, .inr (some (some 327))), (2678789, .inl (1, .ofNat 0))], [], [], [1, 2, 4, 5, 6, 7]), [(285, 0, 5), (286, 0, 5), (287, 0, 5), (288, 0, 5), (290, 0, 6), (292, 0, 35), (293, 0, 35), (282, 3, 4), (299, 0, 25), (300, 0, 25), (301, 0, 25), (302, 0, 7), (303, 0, 5), (304, 0, 6), (305, 0, 30), (306, 0, 260), (298, 8, 9), (295, 1, 2), (296, 0, 5), (297, 0, 5)], [((3, [(1, .ofNat 0, .ofNat 1), (2, .ofNat 1, .ofNat 5)], [(2310144, .inr (some (some 327))), (2678789, .inl (2, .ofNat 0))], [], [], [1, 2, 4, 5, 6, 7]), some (.inl (1, .ofNat 0)))])
def jxa_c133_N : jc_Nt := []
set_option maxRecDepth 1000000 in
theorem jxa_c133_ok (hX : jc_Xo jxa X) : jc_Con jP jxa X jxa_c133 := jc_mth_ok (Z := (jxa, [], jT, [jxa_c79, jxa_c82, jxa_c83, jxa_c81, jxa_c118, jxa_c119], jxa_SP, jxa_c133_N, .ofNat 100000)) (f := 100000) jxa_ok hX jT_ok (jc_c1 (jxa_c79_ok hX) (jc_c1 (jxa_c82_ok hX) (jc_c1 (jxa_c83_ok hX) (jc_c1 (jxa_c81_ok hX) (jc_c1 (jxa_c118_ok hX) (jc_c1 (jxa_c119_ok hX) jc_c0)))))) (by decide +kernel)
-- trial.A.tryMove1
def jxa_c134 : jc_Cn := (96, 2, [.inr (some (some 282)), .inl (0, .ofNat 1), .inl (2, .ofNat 0)], (3, [(1, .ofNat 2, .ofNat 5), (2, .ofNat 0, .ofNat 1)], [(2310144, .inr (some (some 327))), (2678789, .inl (1, .ofNat 0))], [], [], [1, 2, 4, 5, 6, 7]), [(285, 0, 5), (286, 0, 5), (287, 0, 5), (288, 0, 5), (290, 0, 6), (292, 0, 35), (293, 0, 35), (282, 3, 4), (299, 0, 25), (300, 0, 25), (301, 0, 25), (302, 0, 7), (303, 0, 5), (304, 0, 6), (305, 0, 30), (306, 0, 260), (298, 8, 9), (295, 1, 2), (296, 0, 5), (297, 0, 5)], [((3, [(1, .ofNat 0, .ofNat 1), (2, .ofNat 2, .ofNat 5)], [(2310144, .inr (some (some 327))), (2678789, .inl (2, .ofNat 0))], [], [], [1, 2, 4, 5, 6, 7]), some (.inl (1, .ofNat 0)))])
def jxa_c134_N : jc_Nt := []
set_option maxRecDepth 1000000 in
theorem jxa_c134_ok (hX : jc_Xo jxa X) : jc_Con jP jxa X jxa_c134 := jc_mth_ok (Z := (jxa, [], jT, [jxa_c79, jxa_c85, jxa_c86, jxa_c81, jxa_c121, jxa_c122], jxa_SP, jxa_c134_N, .ofNat 100000)) (f := 100000) jxa_ok hX jT_ok (jc_c1 (jxa_c79_ok hX) (jc_c1 (jxa_c85_ok hX) (jc_c1 (jxa_c86_ok hX) (jc_c1 (jxa_c81_ok hX) (jc_c1 (jxa_c121_ok hX) (jc_c1 (jxa_c122_ok hX) jc_c0)))))) (by decide +kernel)
-- trial.A.tryMove2
def jxa_c135 : jc_Cn := (96, 2, [.inr (some (some 282)), .inl (0, .ofNat 2), .inl (2, .ofNat 0)], (3, [(1, .ofNat 3, .ofNat 5), (2, .ofNat 0, .ofNat 1)], [(2310144, .inr (some (some 327))), (2678789, .inl (1, .ofNat 0))], [], [], [1, 2, 4, 5, 6, 7]), [(285, 0, 5), (286, 0, 5), (287, 0, 5), (288, 0, 5), (290, 0, 6), (292, 0, 35), (293, 0, 35), (282, 3, 4), (299, 0, 25), (300, 0, 25), (301, 0, 25), (302, 0, 7), (303, 0, 5), (304, 0, 6), (305, 0, 30), (306, 0, 260), (298, 8, 9), (295, 1, 2), (296, 0, 5), (297, 0, 5)], [((3, [(1, .ofNat 0, .ofNat 1), (2, .ofNat 3, .ofNat 5)], [(2310144, .inr (some (some 327))), (2678789, .inl (2, .ofNat 0))], [], [], [1, 2, 4, 5, 6, 7]), some (.inl (1, .ofNat 0)))])
def jxa_c135_N : jc_Nt := []
set_option maxRecDepth 1000000 in
theorem jxa_c135_ok (hX : jc_Xo jxa X) : jc_Con jP jxa X jxa_c135 := jc_mth_ok (Z := (jxa, [], jT, [jxa_c79, jxa_c88, jxa_c89, jxa_c81, jxa_c124, jxa_c125], jxa_SP, jxa_c135_N, .ofNat 100000)) (f := 100000) jxa_ok hX jT_ok (jc_c1 (jxa_c79_ok hX) (jc_c1 (jxa_c88_ok hX) (jc_c1 (jxa_c89_ok hX) (jc_c1 (jxa_c81_ok hX) (jc_c1 (jxa_c124_ok hX) (jc_c1 (jxa_c125_ok hX) jc_c0)))))) (by decide +kernel)
end Jjxa8

/-! contracts of the class, told in B (13); written by wip/jc/e4.py -/
section Jjxb13
variable {X : J_H → Prop}
-- trial.W.tryMove3
def jxb_c206 : jc_Cn := (96, 2, [.inr (some (some 282)), .inl (0, .ofNat 3), .inl (2, .ofNat 0)], (3, [(1, .ofNat 4, .ofNat 5), (2, .ofNat 0, .ofNat 1)], [(2310144, .inr (some (some 307))), (2514949, .inl (1, .ofNat 0))], [], [], [1, 2, 3, 4, 6, 7]), [(285, 0, 5), (286, 0, 5), (287, 0, 5), (288, 0, 5), (290, 0, 6), (292, 0, 35), (293, 0, 35), (282, 3, 4), (299, 0, 25), (300, 0, 25), (301, 0, 25), (302, 0, 7), (303, 0, 5), (304, 0, 6), (305, 0, 30), (306, 0, 260), (298, 8, 9), (295, 1, 2), (296, 0, 5), (297, 0, 5)], [((3, [(1, .ofNat 0, .ofNat 1), (2, .ofNat 4, .ofNat 5)], [(2310144, .inr (some (some 307))), (2514949, .inl (2, .ofNat 0))], [], [], [1, 2, 3, 4, 6, 7]), some (.inl (1, .ofNat 0)))])
def jxb_c206_N : jc_Nt := []
set_option maxRecDepth 1000000 in
theorem jxb_c206_ok (hX : jc_Xo jxb X) : jc_Con jP jxb X jxb_c206 := jc_mth_ok (Z := (jxb, [], jT, [jxb_c149, jxb_c161, jxb_c162, jxb_c151, jxb_c197, jxb_c198], jxb_SP, jxb_c206_N, .ofNat 100000)) (f := 100000) jxb_ok hX jT_ok (jc_c1 (jxb_c149_ok hX) (jc_c1 (jxb_c161_ok hX) (jc_c1 (jxb_c162_ok hX) (jc_c1 (jxb_c151_ok hX) (jc_c1 (jxb_c197_ok hX) (jc_c1 (jxb_c198_ok hX) jc_c0)))))) (by decide +kernel)
-- trial.W.tryMove4
def jxb_c207 : jc_Cn := (96, 2, [.inr (some (some 282)), .inl (0, .ofNat 4), .inl (2, .ofNat 0)], (3, [(1, .ofNat 5, .ofNat 5), (2, .ofNat 0, .ofNat 1)], [(2310144, .inr (some (some 307))), (2514949, .inl (1, .ofNat 0))], [], [], [1, 2, 3, 4, 6, 7]), [(285, 0, 5), (286, 0, 5), (287, 0, 5), (288, 0, 5), (290, 0, 6), (292, 0, 35), (293, 0, 35), (282, 3, 4), (299, 0, 25), (300, 0, 25), (301, 0, 25), (302, 0, 7), (303, 0, 5), (304, 0, 6), (305, 0, 30), (306, 0, 260), (298, 8, 9), (295, 1, 2), (296, 0, 5), (297, 0, 5)], [((2, [(1, .ofNat 0, .ofNat 1)], [(2310144, .inr (some (some 307))), (2514949, .inl (0, .ofNat 5))], [], [], [1, 2, 3, 4, 6, 7]), some (.inl (1, .ofNat 0)))])
def jxb_c207_N : jc_Nt := []
set_option maxRecDepth 1000000 in
theorem jxb_c207_ok (hX : jc_Xo jxb X) : jc_Con jP jxb X jxb_c207 := jc_mth_ok (Z := (jxb, [], jT, [jxb_c149, jxb_c164, jxb_c165, jxb_c151, jxb_c200, jxb_c201], jxb_SP, jxb_c207_N, .ofNat 100000)) (f := 100000) jxb_ok hX jT_ok (jc_c1 (jxb_c149_ok hX) (jc_c1 (jxb_c164_ok hX) (jc_c1 (jxb_c165_ok hX) (jc_c1 (jxb_c151_ok hX) (jc_c1 (jxb_c200_ok hX) (jc_c1 (jxb_c201_ok hX) jc_c0)))))) (by decide +kernel)
-- trial.W.passMinute
def jxb_c208 : jc_Cn := (93, 3, [.inr (some (some 282)), .inl (1, .ofNat 0)], (2, [(1, .ofNat 0, .ofNat 1)], [(2310144, .inr (some (some 307)))], [], [], [1, 2, 3, 4, 6, 7]), [(285, 0, 5), (286, 0, 5), (287, 0, 5), (288, 0, 5), (290, 0, 6), (292, 0, 35), (293, 0, 35), (282, 3, 4), (299, 0, 25), (300, 0, 25), (301, 0, 25), (302, 0, 7), (303, 0, 5), (304, 0, 6), (305, 0, 30), (306, 0, 260), (298, 8, 9), (295, 1, 2), (296, 0, 5), (297, 0, 5), (291, 0, 6), (282, 1, 2), (299, 0, 25), (300, 0, 25), (301, 0, 25), (302, 0, 7), (303, 0, 5), (304, 0, 6), (305, 0, 30), (306, 0, 260), (298, 8, 9)], [((2, [(1, .ofNat 0, .ofNat 1)], [(2310144, .inr (some (some 307)))], [], [], [1, 2, 3, 4, 6, 7]), some (.inl (1, .ofNat 0)))])
def jxb_c208_N : jc_Nt := [some [none, none, none, none, some ([(12, none, (2, [(1, .ofNat 0, .ofNat 1)], [(2310144, .inr (some (some 307)))], [], [], [1, 2, 3, 4, 6, 7]), [(0, .inr (some (some 282))), (1, .inl (1, .ofNat 0)), (2, .inl (0, .ofNat 0)), (3, .inl (0, .ofNat 0))]),
    (11, none, (3, [(1, .ofNat 0, .ofNat 1), (2, .ofNat 0, .ofNat 1)], [(2310144, .inr (some (some 307)))], [], [], [1, 2, 3, 4, 6, 7]), [(0, .inr (some (some 282))), (1, .inl (1, .ofNat 0)), (2, .inl (2, .ofNat 0)), (3, .inl (0, .ofNat 1))]),
    (10, none, (3, [(1, .ofNat 0, .ofNat 1), (2, .ofNat 0, .ofNat 1)], [(2310144, .inr (some (some 307)))], [], [], [1, 2, 3, 4, 6, 7]), [(0, .inr (some (some 282))), (1, .inl (1, .ofNat 0)), (2, .inl (2, .ofNat 0)), (3, .inl (0, .ofNat 2))]),
    (9, none, (3, [(1, .ofNat 0, .ofNat 1), (2, .ofNat 0, .ofNat 1)], [(2310144, .inr (some (some 307)))], [], [], [1, 2, 3, 4, 6, 7]), [(0, .inr (some (some 282))), (1, .inl (1, .ofNat 0)), (2, .inl (2, .ofNat 0)), (3, .inl (0, .ofNat 3))]),
    (8, none, (3, [(1, .ofNat 0, .ofNat 1), (2, .ofNat 0, .ofNat 1)], [(2310144, .inr (some (some 307)))], [], [], [1, 2, 3, 4, 6, 7]), [(0, .inr (some (some 282))), (1, .inl (1, .ofNat 0)), (2, .inl (2, .ofNat 0)), (3, .inl (0, .ofNat 4))]),
    (7, none, (3, [(1, .ofNat 0, .ofNat 1), (2, .ofNat 0, .ofNat 1)], [(2310144, .inr (some (some 307)))], [], [], [1, 2, 3, 4, 6, 7]), [(0, .inr (some (some 282))), (1, .inl (1, .ofNat 0)), (2, .inl (2, .ofNat 0)), (3, .inl (0, .ofNat 5))])]), none, none, none, none, none, none, none, none, none, none, none],
  none,
  none,
  some [none, none, none, none, none, some ([(6, none, (3, [(1, .ofNat 0, .ofNat 1), (2, .ofNat 0, .ofNat 1)], [(2310144, .inr (some (some 307)))], [], [], [1, 2, 3, 4, 6, 7]), [(0, .inr (some (some 282))), (1, .inl (1, .ofNat 0)), (2, .inl (2, .ofNat 0)), (3, .inl (0, .ofNat 0))]),
    (5, none, (3, [(1, .ofNat 0, .ofNat 1), (2, .ofNat 0, .ofNat 1)], [(2310144, .inr (some (some 307)))], [], [], [1, 2, 3, 4, 6, 7]), [(0, .inr (some (some 282))), (1, .inl (1, .ofNat 0)), (2, .inl (2, .ofNat 0)), (3, .inl (0, .ofNat 1))]),
    (4, none, (3, [(1, .ofNat 0, .ofNat 1), (2, .ofNat 0, .ofNat 1)], [(2310144, .inr (some (some 307)))], [], [], [1, 2, 3, 4, 6, 7]), [(0, .inr (some (some 282))), (1, .inl (1, .ofNat 0)), (2, .inl (2, .ofNat 0)), (3, .inl (0, .ofNat 2))]),
    (3, none, (3, [(1, .ofNat 0, .ofNat 1), (2, .ofNat 0, .ofNat 1)], [(2310144, .inr (some (some 307)))], [], [], [1, 2, 3, 4, 6, 7]), [(0, .inr (some (some 282))), (1, .inl (1, .ofNat 0)), (2, .inl (2, .ofNat 0)), (3, .inl (0, .ofNat 3))]),
    (2, none, (3, [(1, .ofNat 0, .ofNat 1), (2, .ofNat 0, .ofNat 1)], [(2310144, .inr (some (some 307)))], [], [], [1, 2, 3, 4, 6, 7]), [(0, .inr (some (some 282))), (1, .inl (1, .ofNat 0)), (2, .inl (2, .ofNat 0)), (3, .inl (0, .ofNat 4))]),
    (1, none, (3, [(1, .ofNat 0, .ofNat 1), (2, .ofNat 0, .ofNat 1)], [(2310144, .inr (some (some 307)))], [], [], [1, 2, 3, 4, 6, 7]), [(0, .inr (some (some 282))), (1, .inl (1, .ofNat 0)), (2, .inl (2, .ofNat 0)), (3, .inl (0, .ofNat 5))])]), none, none, none, none, none, none, none, none, none, none]]
set_option maxRecDepth 1000000 in
theorem jxb_c208_ok (hX : jc_Xo jxb X) : jc_Con jP jxb X jxb_c208 := jc_mth_ok (Z := (jxb, [], jT, [jxb_c187, jxb_c203, jxb_c204, jxb_c205, jxb_c206, jxb_c207, jxb_c190, jxb_c193, jxb_c196, jxb_c199, jxb_c202], jxb_SP, jxb_c208_N, .ofNat 100000)) (f := 100000) jxb_ok hX jT_ok (jc_c1 (jxb_c187_ok hX) (jc_c1 (jxb_c203_ok hX) (jc_c1 (jxb_c204_ok hX) (jc_c1 (jxb_c205_ok hX) (jc_c1 (jxb_c206_ok hX) (jc_c1 (jxb_c207_ok hX) (jc_c1 (jxb_c190_ok hX) (jc_c1 (jxb_c193_ok hX) (jc_c1 (jxb_c196_ok hX) (jc_c1 (jxb_c199_ok hX) (jc_c1 (jxb_c202_ok hX) jc_c0))))))))))) (by decide +kernel)
-- trial.W.advance
def jxb_c209 : jc_Cn := (92, 4, [.inr (some (some 282)), .inl (1, .ofNat 0), .inl (2, .ofNat 0), .inl (3, .ofNat 0)], (4, [(1, .ofNat 0, .ofNat 300), (2, .ofNat 0, .ofNat 1), (3, .ofNat 0, .ofNat 1)], [(2310144, .inr (some (some 307)))], [], [], [1, 2, 3, 4, 6, 7]), [(285, 0, 5), (286, 0, 5), (287, 0, 5), (288, 0, 5), (290, 0, 6), (292, 0, 35), (293, 0, 35), (282, 3, 4), (299, 0, 25), (300, 0, 25), (301, 0, 25), (302, 0, 7), (303, 0, 5), (304, 0, 6), (305, 0, 30), (306, 0, 260), (298, 8, 9), (295, 1, 2), (296, 0, 5), (297, 0, 5), (291, 0, 6), (282, 1, 2), (299, 0, 25), (300, 0, 25), (301, 0, 25), (302, 0, 7), (303, 0, 5), (304, 0, 6), (305, 0, 30), (306, 0, 260), (298, 8, 9)], [((2, [(1, .negSucc 2147483647, .ofNat 2147483647)], [(2310144, .inr (some (some 307)))], [], [], [1, 2, 3, 4, 6, 7]), some (.inl (1, .ofNat 0)))])
def jxb_c209_N : jc_Nt := [some [none, none, none, none, none, none, none, none, none, none, none, some ([(1, some 5, (6, [(1, .ofNat 0, .ofNat 300), (2, .ofNat 0, .ofNat 1), (3, .ofNat 0, .ofNat 1), (4, .negSucc 2147483647, .ofNat 2147483647), (5, .ofNat 0, .ofNat 300)], [(2310144, .inr (some (some 307)))], [], [], [1, 2, 3, 4, 6, 7]), [(0, .inr (some (some 282))), (1, .inl (1, .ofNat 0)), (2, .inl (2, .ofNat 0)), (3, .inl (3, .ofNat 0)), (4, .inl (4, .ofNat 0)), (5, .inl (5, .ofNat 0))])]), none, none, none, none]]
set_option maxRecDepth 1000000 in
theorem jxb_c209_ok (hX : jc_Xo jxb X) : jc_Con jP jxb X jxb_c209 := jc_mth_ok (Z := (jxb, [], jT, [jxb_c140, jxb_c144, jxb_c177, jxb_c208, jxb_c150, jxb_c187], jxb_SP, jxb_c209_N, .ofNat 100000)) (f := 100000) jxb_ok hX jT_ok (jc_c1 (jxb_c140_ok hX) (jc_c1 (jxb_c144_ok hX) (jc_c1 (jxb_c177_ok hX) (jc_c1 (jxb_c208_ok hX) (jc_c1 (jxb_c150_ok hX) (jc_c1 (jxb_c187_ok hX) jc_c0)))))) (by decide +kernel)
-- A._longest
def jxb_c210 : jc_Cn := (24, 0, [.inr (some (some 327)), .inl (1, .ofNat 0)], (2, [(1, .ofNat 0, .ofNat 6)], [], [], [], [1, 2, 3, 4, 5, 6, 7]), [], [((2, [(1, .ofNat 0, .ofNat 2147483647)], [], [], [], [1, 2, 3, 4, 5, 6, 7]), some (.inl (1, .ofNat 0)))])
def jxb_c210_N : jc_Nt := [some [none, none, none, none, some ([(4, none, (2, [(1, .ofNat 0, .ofNat 6)], [], [], [], [1, 2, 3, 4, 5, 6, 7]), [(0, .inr (some (some 327))), (1, .inl (1, .ofNat 0)), (2, .inl (0, .ofNat 0)), (3, .inl (0, .ofNat 0))]),
    (3, none, (3, [(1, .ofNat 0, .ofNat 6), (2, .ofNat 0, .ofNat 2147483647)], [], [], [], [1, 2, 3, 4, 5, 6, 7]), [(0, .inr (some (some 327))), (1, .inl (1, .ofNat 0)), (2, .inl (2, .ofNat 0)), (3, .inl (0, .ofNat 1))]),
    (2, none, (3, [(1, .ofNat 0, .ofNat 6), (2, .ofNat 0, .ofNat 2147483647)], [], [], [], [1, 2, 3, 4, 5, 6, 7]), [(0, .inr (some (some 327))), (1, .inl (1, .ofNat 0)), (2, .inl (2, .ofNat 0)), (3, .inl (0, .ofNat 2))]),
    (1, none, (3, [(1, .ofNat 0, .ofNat 6), (2, .ofNat 0, .ofNat 2147483647)], [], [], [], [1, 2, 3, 4, 5, 6, 7]), [(0, .inr (some (some 327))), (1, .inl (1, .ofNat 0)), (2, .inl (2, .ofNat 0)), (3, .inl (0, .ofNat 3))])]), none, none, none, none, none, none, none, none, none, none, none]]
set_option maxRecDepth 1000000 in
theorem jxb_c210_ok (hX : jc_Xo jxb X) : jc_Con jP jxb X jxb_c210 := jc_mth_ok (Z := (jxb, [], jT, [], jxb_SP, jxb_c210_N, .ofNat 100000)) (f := 100000) jxb_ok hX jT_ok jc_c0 (by decide +kernel)
-- A._settleFit0
def jxb_c211 : jc_Cn := (20, 0, [.inr (some (some 327)), .inl (0, .ofNat 0)], (1, [], [], [], [], [1, 2, 3, 4, 5, 6, 7]), [(339, 0, 5)], [((1, [], [], [], [], [1, 2, 3, 4, 5, 6, 7]), none)])
def jxb_c211_N : jc_Nt := [some [none, none, none, none, none, none, none, none, none, some ([(22, none, (1, [], [], [], [], [1, 2, 3, 4, 5, 6, 7]), [(0, .inr (some (some 327))), (1, .inl (0, .ofNat 0)), (2, .inl (0, .ofNat 0))]),
    (21, none, (1, [], [], [], [], [1, 2, 3, 4, 5, 6, 7]), [(0, .inr (some (some 327))), (1, .inl (0, .ofNat 0)), (2, .inl (0, .ofNat 1))]),
    (20, none, (1, [], [], [], [], [1, 2, 3, 4, 5, 6, 7]), [(0, .inr (some (some 327))), (1, .inl (0, .ofNat 0)), (2, .inl (0, .ofNat 2))]),
    (19, none, (1, [], [], [], [], [1, 2, 3, 4, 5, 6, 7]), [(0, .inr (some (some 327))), (1, .inl (0, .ofNat 0)), (2, .inl (0, .ofNat 3))]),
    (18, none, (1, [], [], [], [], [1, 2, 3, 4, 5, 6, 7]), [(0, .inr (some (some 327))), (1, .inl (0, .ofNat 0)), (2, .inl (0, .ofNat 4))]),
    (17, none, (1, [], [], [], [], [1, 2, 3, 4, 5, 6, 7]), [(0, .inr (some (some 327))), (1, .inl (0, .ofNat 0)), (2, .inl (0, .ofNat 5))]),
    (16, none, (1, [], [], [], [], [1, 2, 3, 4, 5, 6, 7]), [(0, .inr (some (some 327))), (1, .inl (0, .ofNat 0)), (2, .inl (0, .ofNat 6))]),
    (15, none, (1, [], [], [], [], [1, 2, 3, 4, 5, 6, 7]), [(0, .inr (some (some 327))), (1, .inl (0, .ofNat 0)), (2, .inl (0, .ofNat 7))]),
    (14, none, (1, [], [], [], [], [1, 2, 3, 4, 5, 6, 7]), [(0, .inr (some (some 327))), (1, .inl (0, .ofNat 0)), (2, .inl (0, .ofNat 8))]),
    (13, none, (1, [], [], [], [], [1, 2, 3, 4, 5, 6, 7]), [(0, .inr (some (some 327))), (1, .inl (0, .ofNat 0)), (2, .inl (0, .ofNat 9))]),
    (12, none, (1, [], [], [], [], [1, 2, 3, 4, 5, 6, 7]), [(0, .inr (some (some 327))), (1, .inl (0, .ofNat 0)), (2, .inl (0, .ofNat 10))]),
    (11, none, (1, [], [], [], [], [1, 2, 3, 4, 5, 6, 7]), [(0, .inr (some (some 327))), (1, .inl (0, .ofNat 0)), (2, .inl (0, .ofNat 11))]),
    (10, none, (1, [], [], [], [], [1, 2, 3, 4, 5, 6, 7]), [(0, .inr (some (some 327))), (1, .inl (0, .ofNat 0)), (2, .inl (0, .ofNat 12))]),
    (9, none, (1, [], [], [], [], [1, 2, 3, 4, 5, 6, 7]), [(0, .inr (some (some 327))), (1, .inl (0, .ofNat 0)), (2, .inl (0, .ofNat 13))]),
    (8, none, (1, [], [], [], [], [1, 2, 3, 4, 5, 6, 7]), [(0, .inr (some (some 327))), (1, .inl (0, .ofNat 0)), (2, .inl (0, .ofNat 14))]),
    (7, none, (1, [], [], [], [], [1, 2, 3, 4, 5, 6, 7]), [(0, .inr (some (some 327))), (1, .inl (0, .ofNat 0)), (2, .inl (0, .ofNat 15))]),
    (6, none, (1, [], [], [], [], [1, 2, 3, 4, 5, 6, 7]), [(0, .inr (some (some 327))), (1, .inl (0, .ofNat 0)), (2, .inl (0, .ofNat 16))]),
    (5, none, (1, [], [], [], [], [1, 2, 3, 4, 5, 6, 7]), [(0, .inr (some (some 327))), (1, .inl (0, .ofNat 0)), (2, .inl (0, .ofNat 17))]),
    (4, none, (1, [], [], [], [], [1, 2, 3, 4, 5, 6, 7]), [(0, .inr (some (some 327))), (1, .inl (0, .ofNat 0)), (2, .inl (0, .ofNat 18))]),
    (3, none, (1, [], [], [], [], [1, 2, 3, 4, 5, 6, 7]), [(0, .inr (some (some 327))), (1, .inl (0, .ofNat 0)), (2, .inl (0, .ofNat 19))]),
    (2, none, (1, [], [], [], [], [1, 2, 3, 4, 5, 6, 7]), [(0, .inr (some (some 327))), (1, .inl (0, .ofNat 0)), (2, .inl (0, .ofNat 20))]),
    (1, none, (1, [], [], [], [], [1, 2, 3, 4, 5, 6, 7]), [(0, .inr (some (some 327))), (1, .inl (0, .ofNat 0)), (2, .inl (0, .ofNat 21))])]), none, none, none, none, none, none]]
set_option maxRecDepth 1000000 in
theorem jxb_c211_ok (hX : jc_Xo jxb X) : jc_Con jP jxb X jxb_c211 := jc_mth_ok (Z := (jxb, [], jT, [], jxb_SP, jxb_c211_N, .ofNat 100000)) (f := 100000) jxb_ok hX jT_ok jc_c0 (by decide +kernel)
-- A._settleWay0
def jxb_c212 : jc_Cn := (21, 1, [.inr (some (some 327)), .inl (0, .ofNat 0)], (2, [(1, .ofNat 1, .ofNat 5)], [(2678789, .inl (1, .ofNat 0))], [], [], [1, 2, 3, 4, 5, 6, 7]), [(341, 0, 30), (342, 0, 5), (340, 0, 35)], [((2, [(1, .ofNat 1, .ofNat 5)], [(2678789, .inl (1, .ofNat 0))], [], [], [1, 2, 3, 4, 5, 6, 7]), none)])
def jxb_c212_N : jc_Nt := [some [none, none, some ([(22, none, (2, [(1, .ofNat 1, .ofNat 5)], [(2678789, .inl (1, .ofNat 0))], [], [], [1, 2, 3, 4, 5, 6, 7]), [(0, .inr (some (some 327))), (1, .inl (0, .ofNat 0)), (2, .inl (0, .ofNat 0))]),
    (21, none, (2, [(1, .ofNat 1, .ofNat 5)], [(2678789, .inl (1, .ofNat 0))], [], [], [1, 2, 3, 4, 5, 6, 7]), [(0, .inr (some (some 327))), (1, .inl (0, .ofNat 0)), (2, .inl (0, .ofNat 1))]),
    (20, none, (2, [(1, .ofNat 1, .ofNat 5)], [(2678789, .inl (1, .ofNat 0))], [], [], [1, 2, 3, 4, 5, 6, 7]), [(0, .inr (some (some 327))), (1, .inl (0, .ofNat 0)), (2, .inl (0, .ofNat 2))]),
    (19, none, (2, [(1, .ofNat 1, .ofNat 5)], [(2678789, .inl (1, .ofNat 0))], [], [], [1, 2, 3, 4, 5, 6, 7]), [(0, .inr (some (some 327))), (1, .inl (0, .ofNat 0)), (2, .inl (0, .ofNat 3))]),
    (18, none, (2, [(1, .ofNat 1, .ofNat 5)], [(2678789, .inl (1, .ofNat 0))], [], [], [1, 2, 3, 4, 5, 6, 7]), [(0, .inr (some (some 327))), (1, .inl (0, .ofNat 0)), (2, .inl (0, .ofNat 4))]),
    (17, none, (2, [(1, .ofNat 1, .ofNat 5)], [(2678789, .inl (1, .ofNat 0))], [], [], [1, 2, 3, 4, 5, 6, 7]), [(0, .inr (some (some 327))), (1, .inl (0, .ofNat 0)), (2, .inl (0, .ofNat 5))]),
    (16, none, (2, [(1, .ofNat 1, .ofNat 5)], [(2678789, .inl (1, .ofNat 0))], [], [], [1, 2, 3, 4, 5, 6, 7]), [(0, .inr (some (some 327))), (1, .inl (0, .ofNat 0)), (2, .inl (0, .ofNat 6))])]), none, none, none, none, none, none, none, none, none, none, none, none, none],
  none,
  none,
  none,
  some [none, none, none, none, none, some ([(15, none, (2, [(1, .ofNat 1, .ofNat 5)], [(2678789, .inl (1, .ofNat 0))], [], [], [1, 2, 3, 4, 5, 6, 7]), [(0, .inr (some (some 327))), (1, .inl (0, .ofNat 0)), (2, .inl (0, .ofNat 0))]),
    (13, none, (4, [(1, .negSucc 2147483647, .ofNat 2147483647), (2, .ofNat 1, .ofNat 6), (3, .ofNat 1, .ofNat 5)], [(2678789, .inl (3, .ofNat 0))], [], [], [1, 2, 3, 4, 5, 6, 7]), [(0, .inr (some (some 327))), (1, .inl (0, .ofNat 0)), (2, .inl (0, .ofNat 1)), (3, .inl (1, .ofNat 0)), (4, .inl (2, .ofNat 0))]),
    (11, none, (4, [(1, .negSucc 2147483647, .ofNat 2147483647), (2, .ofNat 1, .ofNat 6), (3, .ofNat 1, .ofNat 5)], [(2678789, .inl (3, .ofNat 0))], [], [], [1, 2, 3, 4, 5, 6, 7]), [(0, .inr (some (some 327))), (1, .inl (0, .ofNat 0)), (2, .inl (0, .ofNat 2)), (3, .inl (1, .ofNat 0)), (4, .inl (2, .ofNat 0))]),
    (9, none, (4, [(1, .negSucc 2147483647, .ofNat 2147483647), (2, .ofNat 2, .ofNat 6), (3, .ofNat 1, .ofNat 5)], [(2678789, .inl (3, .ofNat 0))], [], [], [1, 2, 3, 4, 5, 6, 7]), [(0, .inr (some (some 327))), (1, .inl (0, .ofNat 0)), (2, .inl (0, .ofNat 3)), (3, .inl (1, .ofNat 0)), (4, .inl (2, .ofNat 0))]),
    (7, none, (4, [(1, .negSucc 2147483647, .ofNat 2147483647), (2, .ofNat 3, .ofNat 6), (3, .ofNat 1, .ofNat 5)], [(2678789, .inl (3, .ofNat 0))], [], [], [1, 2, 3, 4, 5, 6, 7]), [(0, .inr (some (some 327))), (1, .inl (0, .ofNat 0)), (2, .inl (0, .ofNat 4)), (3, .inl (1, .ofNat 0)), (4, .inl (2, .ofNat 0))]),
    (5, none, (4, [(1, .negSucc 2147483647, .ofNat 2147483647), (2, .ofNat 4, .ofNat 6), (3, .ofNat 1, .ofNat 5)], [(2678789, .inl (3, .ofNat 0))], [], [], [1, 2, 3, 4, 5, 6, 7]), [(0, .inr (some (some 327))), (1, .inl (0, .ofNat 0)), (2, .inl (0, .ofNat 5)), (3, .inl (1, .ofNat 0)), (4, .inl (2, .ofNat 0))]),
    (3, none, (4, [(1, .negSucc 2147483647, .ofNat 2147483647), (2, .ofNat 5, .ofNat 6), (3, .ofNat 1, .ofNat 5)], [(2678789, .inl (3, .ofNat 0))], [], [], [1, 2, 3, 4, 5, 6, 7]), [(0, .inr (some (some 327))), (1, .inl (0, .ofNat 0)), (2, .inl (0, .ofNat 6)), (3, .inl (1, .ofNat 0)), (4, .inl (2, .ofNat 0))]),
    (1, none, (4, [(1, .negSucc 2147483647, .ofNat 2147483647), (2, .ofNat 6, .ofNat 7), (3, .ofNat 1, .ofNat 5)], [(2678789, .inl (3, .ofNat 0))], [], [], [1, 2, 3, 4, 5, 6, 7]), [(0, .inr (some (some 327))), (1, .inl (0, .ofNat 0)), (2, .inl (0, .ofNat 7)), (3, .inl (1, .ofNat 0)), (4, .inl (2, .ofNat 0))])]), none, none, none, none, none, none, none, none, none, none],
  some [none, none, none, none, none, none, none, none, none, none, none, none, none, some ([(14, some 2, (4, [(1, .negSucc 2147483647, .ofNat 2147483647), (2, .ofNat 1, .ofNat 6), (3, .ofNat 1, .ofNat 5)], [(2678789, .inl (3, .ofNat 0))], [], [], [1, 2, 3, 4, 5, 6, 7]), [(0, .inr (some (some 327))), (1, .inl (0, .ofNat 0)), (2, .inl (0, .ofNat 0)), (3, .inl (1, .ofNat 0)), (4, .inl (2, .ofNat 0))]),
    (12, some 2, (4, [(1, .negSucc 2147483647, .ofNat 2147483647), (2, .ofNat 1, .ofNat 6), (3, .ofNat 1, .ofNat 5)], [(2678789, .inl (3, .ofNat 0))], [], [], [1, 2, 3, 4, 5, 6, 7]), [(0, .inr (some (some 327))), (1, .inl (0, .ofNat 0)), (2, .inl (0, .ofNat 1)), (3, .inl (1, .ofNat 0)), (4, .inl (2, .ofNat 0))]),
    (10, some 2, (4, [(1, .negSucc 2147483647, .ofNat 2147483647), (2, .ofNat 1, .ofNat 6), (3, .ofNat 1, .ofNat 5)], [(2678789, .inl (3, .ofNat 0))], [], [], [1, 2, 3, 4, 5, 6, 7]), [(0, .inr (some (some 327))), (1, .inl (0, .ofNat 0)), (2, .inl (0, .ofNat 2)), (3, .inl (1, .ofNat 0)), (4, .inl (2, .ofNat 0))]),
    (8, some 2, (4, [(1, .negSucc 2147483647, .ofNat 2147483647), (2, .ofNat 1, .ofNat 6), (3, .ofNat 1, .ofNat 5)], [(2678789, .inl (3, .ofNat 0))], [], [], [1, 2, 3, 4, 5, 6, 7]), [(0, .inr (some (some 327))), (1, .inl (0, .ofNat 0)), (2, .inl (0, .ofNat 3)), (3, .inl (1, .ofNat 0)), (4, .inl (2, .ofNat 0))]),
    (6, some 2, (4, [(1, .negSucc 2147483647, .ofNat 2147483647), (2, .ofNat 1, .ofNat 6), (3, .ofNat 1, .ofNat 5)], [(2678789, .inl (3, .ofNat 0))], [], [], [1, 2, 3, 4, 5, 6, 7]), [(0, .inr (some (some 327))), (1, .inl (0, .ofNat 0)), (2, .inl (0, .ofNat 4)), (3, .inl (1, .ofNat 0)), (4, .inl (2, .ofNat 0))]),
    (4, some 2, (4, [(1, .negSucc 2147483647, .ofNat 2147483647), (2, .ofNat 1, .ofNat 6), (3, .ofNat 1, .ofNat 5)], [(2678789, .inl (3, .ofNat 0))], [], [], [1, 2, 3, 4, 5, 6, 7]), [(0, .inr (some (some 327))), (1, .inl (0, .ofNat 0)), (2, .inl (0, .ofNat 5)), (3, .inl (1, .ofNat 0)), (4, .inl (2, .ofNat 0))]),
    (2, some 2, (4, [(1, .negSucc 2147483647, .ofNat 2147483647), (2, .ofNat 1, .ofNat 7), (3, .ofNat 1, .ofNat 5)], [(2678789, .inl (3, .ofNat 0))], [], [], [1, 2, 3, 4, 5, 6, 7]), [(0, .inr (some (some 327))), (1, .inl (0, .ofNat 0)), (2, .inl (0, .ofNat 6)), (3, .inl (1, .ofNat 0)), (4, .inl (2, .ofNat 0))])]), none, none]]
set_option maxRecDepth 1000000 in
theorem jxb_c212_ok (hX : jc_Xo jxb X) : jc_Con jP jxb X jxb_c212 := jc_mth_ok (Z := (jxb, [], jT, [], jxb_SP, jxb_c212_N, .ofNat 100000)) (f := 100000) jxb_ok hX jT_ok jc_c0 (by decide +kernel)
-- A._settleFit1
def jxb_c213 : jc_Cn := (20, 0, [.inr (some (some 327)), .inl (0, .ofNat 1)], (1, [], [], [], [], [1, 2, 3, 4, 5, 6, 7]), [(339, 0, 5)], [((1, [], [], [], [], [1, 2, 3, 4, 5, 6, 7]), none)])
def jxb_c213_N : jc_Nt := [some [none, none, none, none, none, none, none, none, none, some ([(22, none, (1, [], [], [], [], [1, 2, 3, 4, 5, 6, 7]), [(0, .inr (some (some 327))), (1, .inl (0, .ofNat 1)), (2, .inl (0, .ofNat 0))]),
    (21, none, (1, [], [], [], [], [1, 2, 3, 4, 5, 6, 7]), [(0, .inr (some (some 327))), (1, .inl (0, .ofNat 1)), (2, .inl (0, .ofNat 1))]),
    (20, none, (1, [], [], [], [], [1, 2, 3, 4, 5, 6, 7]), [(0, .inr (some (some 327))), (1, .inl (0, .ofNat 1)), (2, .inl (0, .ofNat 2))]),
    (19, none, (1, [], [], [], [], [1, 2, 3, 4, 5, 6, 7]), [(0, .inr (some (some 327))), (1, .inl (0, .ofNat 1)), (2, .inl (0, .ofNat 3))]),
    (18, none, (1, [], [], [], [], [1, 2, 3, 4, 5, 6, 7]), [(0, .inr (some (some 327))), (1, .inl (0, .ofNat 1)), (2, .inl (0, .ofNat 4))]),
    (17, none, (1, [], [], [], [], [1, 2, 3, 4, 5, 6, 7]), [(0, .inr (some (some 327))), (1, .inl (0, .ofNat 1)), (2, .inl (0, .ofNat 5))]),
    (16, none, (1, [], [], [], [], [1, 2, 3, 4, 5, 6, 7]), [(0, .inr (some (some 327))), (1, .inl (0, .ofNat 1)), (2, .inl (0, .ofNat 6))]),
    (15, none, (1, [], [], [], [], [1, 2, 3, 4, 5, 6, 7]), [(0, .inr (some (some 327))), (1, .inl (0, .ofNat 1)), (2, .inl (0, .ofNat 7))]),
    (14, none, (1, [], [], [], [], [1, 2, 3, 4, 5, 6, 7]), [(0, .inr (some (some 327))), (1, .inl (0, .ofNat 1)), (2, .inl (0, .ofNat 8))]),
    (13, none, (1, [], [], [], [], [1, 2, 3, 4, 5, 6, 7]), [(0, .inr (some (some 327))), (1, .inl (0, .ofNat 1)), (2, .inl (0, .ofNat 9))]),
    (12, none, (1, [], [], [], [], [1, 2, 3, 4, 5, 6, 7]), [(0, .inr (some (some 327))), (1, .inl (0, .ofNat 1)), (2, .inl (0, .ofNat 10))]),
    (11, none, (1, [], [], [], [], [1, 2, 3, 4, 5, 6, 7]), [(0, .inr (some (some 327))), (1, .inl (0, .ofNat 1)), (2, .inl (0, .ofNat 11))]),
    (10, none, (1, [], [], [], [], [1, 2, 3, 4, 5, 6, 7]), [(0, .inr (some (some 327))), (1, .inl (0, .ofNat 1)), (2, .inl (0, .ofNat 12))]),
    (9, none, (1, [], [], [], [], [1, 2, 3, 4, 5, 6, 7]), [(0, .inr (some (some 327))), (1, .inl (0, .ofNat 1)), (2, .inl (0, .ofNat 13))]),
    (8, none, (1, [], [], [], [], [1, 2, 3, 4, 5, 6, 7]), [(0, .inr (some (some 327))), (1, .inl (0, .ofNat 1)), (2, .inl (0, .ofNat 14))]),
    (7, none, (1, [], [], [], [], [1, 2, 3, 4, 5, 6, 7]), [(0, .inr (some (some 327))), (1, .inl (0, .ofNat 1)), (2, .inl (0, .ofNat 15))]),
    (6, none, (1, [], [], [], [], [1, 2, 3, 4, 5, 6, 7]), [(0, .inr (some (some 327))), (1, .inl (0, .ofNat 1)), (2, .inl (0, .ofNat 16))]),
    (5, none, (1, [], [], [], [], [1, 2, 3, 4, 5, 6, 7]), [(0, .inr (some (some 327))), (1, .inl (0, .ofNat 1)), (2, .inl (0, .ofNat 17))]),
    (4, none, (1, [], [], [], [], [1, 2, 3, 4, 5, 6, 7]), [(0, .inr (some (some 327))), (1, .inl (0, .ofNat 1)), (2, .inl (0, .ofNat 18))]),
    (3, none, (1, [], [], [], [], [1, 2, 3, 4, 5, 6, 7]), [(0, .inr (some (some 327))), (1, .inl (0, .ofNat 1)), (2, .inl (0, .ofNat 19))]),
    (2, none, (1, [], [], [], [], [1, 2, 3, 4, 5, 6, 7]), [(0, .inr (some (some 327))), (1, .inl (0, .ofNat 1)), (2, .inl (0, .ofNat 20))]),
    (1, none, (1, [], [], [], [], [1, 2, 3, 4, 5, 6, 7]), [(0, .inr (some (some 327))), (1, .inl (0, .ofNat 1)), (2, .inl (0, .ofNat 21))])]), none, none, none, none, none, none]]
set_option maxRecDepth 1000000 in
theorem jxb_c213_ok (hX : jc_Xo jxb X) : jc_Con jP jxb X jxb_c213 := jc_mth_ok (Z := (jxb, [], jT, [], jxb_SP, jxb_c213_N, .ofNat 100000)) (f := 100000) jxb_ok hX jT_ok jc_c0 (by decide +kernel)
-- A._settleWay1
def jxb_c214 : jc_Cn := (21, 1, [.inr (some (some 327)), .inl (0, .ofNat 1)], (2, [(1, .ofNat 2, .ofNat 5)], [(2678789, .inl (1, .ofNat 0))], [], [], [1, 2, 3, 4, 5, 6, 7]), [(341, 0, 30), (342, 0, 5), (340, 0, 35)], [((2, [(1, .ofNat 2, .ofNat 5)], [(2678789, .inl (1, .ofNat 0))], [], [], [1, 2, 3, 4, 5, 6, 7]), none)])
def jxb_c214_N : jc_Nt := [some [none, none, some ([(22, none, (2, [(1, .ofNat 2, .ofNat 5)], [(2678789, .inl (1, .ofNat 0))], [], [], [1, 2, 3, 4, 5, 6, 7]), [(0, .inr (some (some 327))), (1, .inl (0, .ofNat 1)), (2, .inl (0, .ofNat 0))]),
    (21, none, (2, [(1, .ofNat 2, .ofNat 5)], [(2678789, .inl (1, .ofNat 0))], [], [], [1, 2, 3, 4, 5, 6, 7]), [(0, .inr (some (some 327))), (1, .inl (0, .ofNat 1)), (2, .inl (0, .ofNat 1))]),
    (20, none, (2, [(1, .ofNat 2, .ofNat 5)], [(2678789, .inl (1, .ofNat 0))], [], [], [1, 2, 3, 4, 5, 6, 7]), [(0, .inr (some (some 327))), (1, .inl (0, .ofNat 1)), (2, .inl (0, .ofNat 2))]),
    (19, none, (2, [(1, .ofNat 2, .ofNat 5)], [(2678789, .inl (1, .ofNat 0))], [], [], [1, 2, 3, 4, 5, 6, 7]), [(0, .inr (some (some 327))), (1, .inl (0, .ofNat 1)), (2, .inl (0, .ofNat 3))]),
    (18, none, (2, [(1, .ofNat 2, .ofNat 5)], [(2678789, .inl (1, .ofNat 0))], [], [], [1, 2, 3, 4, 5, 6, 7]), [(0, .inr (some (some 327))), (1, .inl (0, .ofNat 1)), (2, .inl (0, .ofNat 4))]),
    (17, none, (2, [(1, .ofNat 2, .ofNat 5)], [(2678789, .inl (1, .ofNat 0))], [], [], [1, 2, 3, 4, 5, 6, 7]), [(0, .inr (some (some 327))), (1, .inl (0, .ofNat 1)), (2, .inl (0, .ofNat 5))]),
    (16, none, (2, [(1, .ofNat 2, .ofNat 5)], [(2678789, .inl (1, .ofNat 0))], [], [], [1, 2, 3, 4, 5, 6, 7]), [(0, .inr (some (some 327))), (1, .inl (0, .ofNat 1)), (2, .inl (0, .ofNat 6))])]), none, none, none, none, none, none, none, none, none, none, none, none, none],
  none,
  none,
  none,
  some [none, none, none, none, none, some ([(15, none, (2, [(1, .ofNat 2, .ofNat 5)], [(2678789, .inl (1, .ofNat 0))], [], [], [1, 2, 3, 4, 5, 6, 7]), [(0, .inr (some (some 327))), (1, .inl (0, .ofNat 1)), (2, .inl (0, .ofNat 0))]),
    (13, none, (4, [(1, .negSucc 2147483647, .ofNat 2147483647), (2, .ofNat 1, .ofNat 6), (3, .ofNat 2, .ofNat 5)], [(2678789, .inl (3, .ofNat 0))], [], [], [1, 2, 3, 4, 5, 6, 7]), [(0, .inr (some (some 327))), (1, .inl (0, .ofNat 1)), (2, .inl (0, .ofNat 1)), (3, .inl (1, .ofNat 0)), (4, .inl (2, .ofNat 0))]),
    (11, none, (4, [(1, .negSucc 2147483647, .ofNat 2147483647), (2, .ofNat 1, .ofNat 6), (3, .ofNat 2, .ofNat 5)], [(2678789, .inl (3, .ofNat 0))], [], [], [1, 2, 3, 4, 5, 6, 7]), [(0, .inr (some (some 327))), (1, .inl (0, .ofNat 1)), (2, .inl (0, .ofNat 2)), (3, .inl (1, .ofNat 0)), (4, .inl (2, .ofNat 0))]),
    (9, none, (4, [(1, .negSucc 2147483647, .ofNat 2147483647), (2, .ofNat 2, .ofNat 6), (3, .ofNat 2, .ofNat 5)], [(2678789, .inl (3, .ofNat 0))], [], [], [1, 2, 3, 4, 5, 6, 7]), [(0, .inr (some (some 327))), (1, .inl (0, .ofNat 1)), (2, .inl (0, .ofNat 3)), (3, .inl (1, .ofNat 0)), (4, .inl (2, .ofNat 0))]),
    (7, none, (4, [(1, .negSucc 2147483647, .ofNat 2147483647), (2, .ofNat 3, .ofNat 6), (3, .ofNat 2, .ofNat 5)], [(2678789, .inl (3, .ofNat 0))], [], [], [1, 2, 3, 4, 5, 6, 7]), [(0, .inr (some (some 327))), (1, .inl (0, .ofNat 1)), (2, .inl (0, .ofNat 4)), (3, .inl (1, .ofNat 0)), (4, .inl (2, .ofNat 0))]),
    (5, none, (4, [(1, .negSucc 2147483647, .ofNat 2147483647), (2, .ofNat 4, .ofNat 6), (3, .ofNat 2, .ofNat 5)], [(2678789, .inl (3, .ofNat 0))], [], [], [1, 2, 3, 4, 5, 6, 7]), [(0, .inr (some (some 327))), (1, .inl (0, .ofNat 1)), (2, .inl (0, .ofNat 5)), (3, .inl (1, .ofNat 0)), (4, .inl (2, .ofNat 0))]),
    (3, none, (4, [(1, .negSucc 2147483647, .ofNat 2147483647), (2, .ofNat 5, .ofNat 6), (3, .ofNat 2, .ofNat 5)], [(2678789, .inl (3, .ofNat 0))], [], [], [1, 2, 3, 4, 5, 6, 7]), [(0, .inr (some (some 327))), (1, .inl (0, .ofNat 1)), (2, .inl (0, .ofNat 6)), (3, .inl (1, .ofNat 0)), (4, .inl (2, .ofNat 0))]),
    (1, none, (4, [(1, .negSucc 2147483647, .ofNat 2147483647), (2, .ofNat 6, .ofNat 7), (3, .ofNat 2, .ofNat 5)], [(2678789, .inl (3, .ofNat 0))], [], [], [1, 2, 3, 4, 5, 6, 7]), [(0, .inr (some (some 327))), (1, .inl (0, .ofNat 1)), (2, .inl (0, .ofNat 7)), (3, .inl (1, .ofNat 0)), (4, .inl (2, .ofNat 0))])]), none, none, none, none, none, none, none, none, none, none],
  some [none, none, none, none, none, none, none, none, none, none, none, none, none, some ([(14, some 2, (4, [(1, .negSucc 2147483647, .ofNat 2147483647), (2, .ofNat 1, .ofNat 6), (3, .ofNat 2, .ofNat 5)], [(2678789, .inl (3, .ofNat 0))], [], [], [1, 2, 3, 4, 5, 6, 7]), [(0, .inr (some (some 327))), (1, .inl (0, .ofNat 1)), (2, .inl (0, .ofNat 0)), (3, .inl (1, .ofNat 0)), (4, .inl (2, .ofNat 0))]),
    (12, some 2, (4, [(1, .negSucc 2147483647, .ofNat 2147483647), (2, .ofNat 1, .ofNat 6), (3, .ofNat 2, .ofNat 5)], [(2678789, .inl (3, .ofNat 0))], [], [], [1, 2, 3, 4, 5, 6, 7]), [(0, .inr (some (some 327))), (1, .inl (0, .ofNat 1)), (2, .inl (0, .ofNat 1)), (3, .inl (1, .ofNat 0)), (4, .inl (2, .ofNat 0))]),
    (10, some 2, (4, [(1, .negSucc 2147483647, .ofNat 2147483647), (2, .ofNat 1, .ofNat 6), (3, .ofNat 2, .ofNat 5)], [(2678789, .inl (3, .ofNat 0))], [], [], [1, 2, 3, 4, 5, 6, 7]), [(0, .inr (some (some 327))), (1, .inl (0, .ofNat 1)), (2, .inl (0, .ofNat 2)), (3, .inl (1, .ofNat 0)), (4, .inl (2, .ofNat 0))]),
    (8, some 2, (4, [(1, .negSucc 2147483647, .ofNat 2147483647), (2, .ofNat 1, .ofNat 6), (3, .ofNat 2, .ofNat 5)], [(2678789, .inl (3, .ofNat 0))], [], [], [1, 2, 3, 4, 5, 6, 7]), [(0, .inr (some (some 327))), (1, .inl (0, .ofNat 1)), (2, .inl (0, .ofNat 3)), (3, .inl (1, .ofNat 0)), (4, .inl (2, .ofNat 0))]),
    (6, some 2, (4, [(1, .negSucc 2147483647, .ofNat 2147483647), (2, .ofNat 1, .ofNat 6), (3, .ofNat 2, .ofNat 5)], [(2678789, .inl (3, .ofNat 0))], [], [], [1, 2, 3, 4, 5, 6, 7]), [(0, .inr (some (some 327))), (1, .inl (0, .ofNat 1)), (2, .inl (0, .ofNat 4)), (3, .inl (1, .ofNat 0)), (4, .inl (2, .ofNat 0))]),
    (4, some 2, (4, [(1, .negSucc 2147483647, .ofNat 2147483647), (2, .ofNat 1, .ofNat 6), (3, .ofNat 2, .ofNat 5)], [(2678789, .inl (3, .ofNat 0))], [], [], [1, 2, 3, 4, 5, 6, 7]), [(0, .inr (some (some 327))), (1, .inl (0, .ofNat 1)), (2, .inl (0, .ofNat 5)), (3, .inl (1, .ofNat 0)), (4, .inl (2, .ofNat 0))]),
    (2, some 2, (4, [(1, .negSucc 2147483647, .ofNat 2147483647), (2, .ofNat 1, .ofNat 7), (3, .ofNat 2, .ofNat 5)], [(2678789, .inl (3, .ofNat 0))], [], [], [1, 2, 3, 4, 5, 6, 7]), [(0, .inr (some (some 327))), (1, .inl (0, .ofNat 1)), (2, .inl (0, .ofNat 6)), (3, .inl (1, .ofNat 0)), (4, .inl (2, .ofNat 0))])]), none, none]]
set_option maxRecDepth 1000000 in
theorem jxb_c214_ok (hX : jc_Xo jxb X) : jc_Con jP jxb X jxb_c214 := jc_mth_ok (Z := (jxb, [], jT, [], jxb_SP, jxb_c214_N, .ofNat 100000)) (f := 100000) jxb_ok hX jT_ok jc_c0 (by decide +kernel)
-- A._settleFit2
def jxb_c215 : jc_Cn := (20, 0, [.inr (some (some 327)), .inl (0, .ofNat 2)], (1, [], [], [], [], [1, 2, 3, 4, 5, 6, 7]), [(339, 0, 5)], [((1, [], [], [], [], [1, 2, 3, 4, 5, 6, 7]), none)])
def jxb_c215_N : jc_Nt := [some [none, none, none, none, none, none, none, none, none, some ([(22, none, (1, [], [], [], [], [1, 2, 3, 4, 5, 6, 7]), [(0, .inr (some (some 327))), (1, .inl (0, .ofNat 2)), (2, .inl (0, .ofNat 0))]),
    (21, none, (1, [], [], [], [], [1, 2, 3, 4, 5, 6, 7]), [(0, .inr (some (some 327))), (1, .inl (0, .ofNat 2)), (2, .inl (0, .ofNat 1))]),
    (20, none, (1, [], [], [], [], [1, 2, 3, 4, 5, 6, 7]), [(0, .inr (some (some 327))), (1, .inl (0, .ofNat 2)), (2, .inl (0, .ofNat 2))]),
    (19, none, (1, [], [], [], [], [1, 2, 3, 4, 5, 6, 7]), [(0, .inr (some (some 327))), (1, .inl (0, .ofNat 2)), (2, .inl (0, .ofNat 3))]),
    (18, none, (1, [], [], [], [], [1, 2, 3, 4, 5, 6, 7]), [(0, .inr (some (some 327))), (1, .inl (0, .ofNat 2)), (2, .inl (0, .ofNat 4))]),
    (17, none, (1, [], [], [], [], [1, 2, 3, 4, 5, 6, 7]), [(0, .inr (some (some 327))), (1, .inl (0, .ofNat 2)), (2, .inl (0, .ofNat 5))]),
    (16, none, (1, [], [], [], [], [1, 2, 3, 4, 5, 6, 7]), [(0, .inr (some (some 327))), (1, .inl (0, .ofNat 2)), (2, .inl (0, .ofNat 6))]),
    (15, none, (1, [], [], [], [], [1, 2, 3, 4, 5, 6, 7]), [(0, .inr (some (some 327))), (1, .inl (0, .ofNat 2)), (2, .inl (0, .ofNat 7))]),
    (14, none, (1, [], [], [], [], [1, 2, 3, 4, 5, 6, 7]), [(0, .inr (some (some 327))), (1, .inl (0, .ofNat 2)), (2, .inl (0, .ofNat 8))]),
    (13, none, (1, [], [], [], [], [1, 2, 3, 4, 5, 6, 7]), [(0, .inr (some (some 327))), (1, .inl (0, .ofNat 2)), (2, .inl (0, .ofNat 9))]),
    (12, none, (1, [], [], [], [], [1, 2, 3, 4, 5, 6, 7]), [(0, .inr (some (some 327))), (1, .inl (0, .ofNat 2)), (2, .inl (0, .ofNat 10))]),
    (11, none, (1, [], [], [], [], [1, 2, 3, 4, 5, 6, 7]), [(0, .inr (some (some 327))), (1, .inl (0, .ofNat 2)), (2, .inl (0, .ofNat 11))]),
    (10, none, (1, [], [], [], [], [1, 2, 3, 4, 5, 6, 7]), [(0, .inr (some (some 327))), (1, .inl (0, .ofNat 2)), (2, .inl (0, .ofNat 12))]),
    (9, none, (1, [], [], [], [], [1, 2, 3, 4, 5, 6, 7]), [(0, .inr (some (some 327))), (1, .inl (0, .ofNat 2)), (2, .inl (0, .ofNat 13))]),
    (8, none, (1, [], [], [], [], [1, 2, 3, 4, 5, 6, 7]), [(0, .inr (some (some 327))), (1, .inl (0, .ofNat 2)), (2, .inl (0, .ofNat 14))]),
    (7, none, (1, [], [], [], [], [1, 2, 3, 4, 5, 6, 7]), [(0, .inr (some (some 327))), (1, .inl (0, .ofNat 2)), (2, .inl (0, .ofNat 15))]),
    (6, none, (1, [], [], [], [], [1, 2, 3, 4, 5, 6, 7]), [(0, .inr (some (some 327))), (1, .inl (0, .ofNat 2)), (2, .inl (0, .ofNat 16))]),
    (5, none, (1, [], [], [], [], [1, 2, 3, 4, 5, 6, 7]), [(0, .inr (some (some 327))), (1, .inl (0, .ofNat 2)), (2, .inl (0, .ofNat 17))]),
    (4, none, (1, [], [], [], [], [1, 2, 3, 4, 5, 6, 7]), [(0, .inr (some (some 327))), (1, .inl (0, .ofNat 2)), (2, .inl (0, .ofNat 18))]),
    (3, none, (1, [], [], [], [], [1, 2, 3, 4, 5, 6, 7]), [(0, .inr (some (some 327))), (1, .inl (0, .ofNat 2)), (2, .inl (0, .ofNat 19))]),
    (2, none, (1, [], [], [], [], [1, 2, 3, 4, 5, 6, 7]), [(0, .inr (some (some 327))), (1, .inl (0, .ofNat 2)), (2, .inl (0, .ofNat 20))]),
    (1, none, (1, [], [], [], [], [1, 2, 3, 4, 5, 6, 7]), [(0, .inr (some (some 327))), (1, .inl (0, .ofNat 2)), (2, .inl (0, .ofNat 21))])]), none, none, none, none, none, none]]
set_option maxRecDepth 1000000 in
theorem jxb_c215_ok (hX : jc_Xo jxb X) : jc_Con jP jxb X jxb_c215 := jc_mth_ok (Z := (jxb, [], jT, [], jxb_SP, jxb_c215_N, .ofNat 100000)) (f := 100000) jxb_ok hX jT_ok jc_c0 (by decide +kernel)
-- A._settleWay2
def jxb_c216 : jc_Cn := (21, 1, [.inr (some (some 327)), .inl (0, .ofNat 2)], (2, [(1, .ofNat 3, .ofNat 5)], [(2678789, .inl (1, .ofNat 0))], [], [], [1, 2, 3, 4, 5, 6, 7]), [(341, 0, 30), (342, 0, 5), (340, 0, 35)], [((2, [(1, .ofNat 3, .ofNat 5)], [(2678789, .inl (1, .ofNat 0))], [], [], [1, 2, 3, 4, 5, 6, 7]), none)])
def jxb_c216_N : jc_Nt := [some [none, none, some ([(22, none, (2, [(1, .ofNat 3, .ofNat 5)], [(2678789, .inl (1, .ofNat 0))], [], [], [1, 2, 3, 4, 5, 6, 7]), [(0, .inr (some (some 327))), (1, .inl (0, .ofNat 2)), (2, .inl (0, .ofNat 0))]),
    (21, none, (2, [(1, .ofNat 3, .ofNat 5)], [(2678789, .inl (1, .ofNat 0))], [], [], [1, 2, 3, 4, 5, 6, 7]), [(0, .inr (some (some 327))), (1, .inl (0, .ofNat 2)), (2, .inl (0, .ofNat 1))]),
    (20, none, (2, [(1, .ofNat 3, .ofNat 5)], [(2678789, .inl (1, .ofNat 0))], [], [], [1, 2, 3, 4, 5, 6, 7]), [(0, .inr (some (some 327))), (1, .inl (0, .ofNat 2)), (2, .inl (0, .ofNat 2))]),
    (19, none, (2, [(1, .ofNat 3, .ofNat 5)], [(2678789, .inl (1, .ofNat 0))], [], [], [1, 2, 3, 4, 5, 6, 7]), [(0, .inr (some (some 327))), (1, .inl (0, .ofNat 2)), (2, .inl (0, .ofNat 3))]),
    (18, none, (2, [(1, .ofNat 3, .ofNat 5)], [(2678789, .inl (1, .ofNat 0))], [], [], [1, 2, 3, 4, 5, 6, 7]), [(0, .inr (some (some 327))), (1, .inl (0, .ofNat 2)), (2, .inl (0, .ofNat 4))]),
    (17, none, (2, [(1, .ofNat 3, .ofNat 5)], [(2678789, .inl (1, .ofNat 0))], [], [], [1, 2, 3, 4, 5, 6, 7]), [(0, .inr (some (some 327))), (1, .inl (0, .ofNat 2)), (2, .inl (0, .ofNat 5))]),
    (16, none, (2, [(1, .ofNat 3, .ofNat 5)], [(2678789, .inl (1, .ofNat 0))], [], [], [1, 2, 3, 4, 5, 6, 7]), [(0, .inr (some (some 327))), (1, .inl (0, .ofNat 2)), (2, .inl (0, .ofNat 6))])]), none, none, none, none, none, none, none, none, none, none, none, none, none],
  none,
  none,
  none,
  some [none, none, none, none, none, some ([(15, none, (2, [(1, .ofNat 3, .ofNat 5)], [(2678789, .inl (1, .ofNat 0))], [], [], [1, 2, 3, 4, 5, 6, 7]), [(0, .inr (some (some 327))), (1, .inl (0, .ofNat 2)), (2, .inl (0, .ofNat 0))]),
    (13, none, (4, [(1, .negSucc 2147483647, .ofNat 2147483647), (2, .ofNat 1, .ofNat 6), (3, .ofNat 3, .ofNat 5)], [(2678789, .inl (3, .ofNat 0))], [], [], [1, 2, 3, 4, 5, 6, 7]), [(0, .inr (some (some 327))), (1, .inl (0, .ofNat 2)), (2, .inl (0, .ofNat 1)), (3, .inl (1, .ofNat 0)), (4, .inl (2, .ofNat 0))]),
    (11, none, (4, [(1, .negSucc 2147483647, .ofNat 2147483647), (2, .ofNat 1, .ofNat 6), (3, .ofNat 3, .ofNat 5)], [(2678789, .inl (3, .ofNat 0))], [], [], [1, 2, 3, 4, 5, 6, 7]), [(0, .inr (some (some 327))), (1, .inl (0, .ofNat 2)), (2, .inl (0, .ofNat 2)), (3, .inl (1, .ofNat 0)), (4, .inl (2, .ofNat 0))]),
    (9, none, (4, [(1, .negSucc 2147483647, .ofNat 2147483647), (2, .ofNat 2, .ofNat 6), (3, .ofNat 3, .ofNat 5)], [(2678789, .inl (3, .ofNat 0))], [], [], [1, 2, 3, 4, 5, 6, 7]), [(0, .inr (some (some 327))), (1, .inl (0, .ofNat 2)), (2, .inl (0, .ofNat 3)), (3, .inl (1, .ofNat 0)), (4, .inl (2, .ofNat 0))]),
    (7, none, (4, [(1, .negSucc 2147483647, .ofNat 2147483647), (2, .ofNat 3, .ofNat 6), (3, .ofNat 3, .ofNat 5)], [(2678789, .inl (3, .ofNat 0))], [], [], [1, 2, 3, 4, 5, 6, 7]), [(0, .inr (some (some 327))), (1, .inl (0, .ofNat 2)), (2, .inl (0, .ofNat 4)), (3, .inl (1, .ofNat 0)), (4, .inl (2, .ofNat 0))]),
    (5, none, (4, [(1, .negSucc 2147483647, .ofNat 2147483647), (2, .ofNat 4, .ofNat 6), (3, .ofNat 3, .ofNat 5)], [(2678789, .inl (3, .ofNat 0))], [], [], [1, 2, 3, 4, 5, 6, 7]), [(0, .inr (some (some 327))), (1, .inl (0, .ofNat 2)), (2, .inl (0, .ofNat 5)), (3, .inl (1, .ofNat 0)), (4, .inl (2, .ofNat 0))]),
    (3, none, (4, [(1, .negSucc 2147483647, .ofNat 2147483647), (2, .ofNat 5, .ofNat 6), (3, .ofNat 3, .ofNat 5)], [(2678789, .inl (3, .ofNat 0))], [], [], [1, 2, 3, 4, 5, 6, 7]), [(0, .inr (some (some 327))), (1, .inl (0, .ofNat 2)), (2, .inl (0, .ofNat 6)), (3, .inl (1, .ofNat 0)), (4, .inl (2, .ofNat 0))]),
    (1, none, (4, [(1, .negSucc 2147483647, .ofNat 2147483647), (2, .ofNat 6, .ofNat 7), (3, .ofNat 3, .ofNat 5)], [(2678789, .inl (3, .ofNat 0))], [], [], [1, 2, 3, 4, 5, 6, 7]), [(0, .inr (some (some 327))), (1, .inl (0, .ofNat 2)), (2, .inl (0, .ofNat 7)), (3, .inl (1, .ofNat 0)), (4, .inl (2, .ofNat 0))])]), none, none, none, none, none, none, none, none, none, none],
  some [none, none, none, none, none, none, none, none, none, none, none, none, none, some ([(14, some 2, (4, [(1, .negSucc 2147483647, .ofNat 2147483647), (2, .ofNat 1, .ofNat 6), (3, .ofNat 3, .ofNat 5)], [(2678789, .inl (3, .ofNat 0))], [], [], [1, 2, 3, 4, 5, 6, 7]), [(0, .inr (some (some 327))), (1, .inl (0, .ofNat 2)), (2, .inl (0, .ofNat 0)), (3, .inl (1, .ofNat 0)), (4, .inl (2, .ofNat 0))]),
    (12, some 2, (4, [(1, .negSucc 2147483647, .ofNat 2147483647), (2, .ofNat 1, .ofNat 6), (3, .ofNat 3, .ofNat 5)], [(2678789, .inl (3, .ofNat 0))], [], [], [1, 2, 3, 4, 5, 6, 7]), [(0, .inr (some (some 327))), (1, .inl (0, .ofNat 2)), (2, .inl (0, .ofNat 1)), (3, .inl (1, .ofNat 0)), (4, .inl (2, .ofNat 0))]),
    (10, some 2, (4, [(1, .negSucc 2147483647, .ofNat 2147483647), (2, .ofNat 1, .ofNat 6), (3, .ofNat 3, .ofNat 5)], [(2678789, .inl (3, .ofNat 0))], [], [], [1, 2, 3, 4, 5, 6, 7]), [(0, .inr (some (some 327))), (1, .inl (0, .ofNat 2)), (2, .inl (0, .ofNat 2)), (3, .inl (1, .ofNat 0)), (4, .inl (2, .ofNat 0))]),
    (8, some 2, (4, [(1, .negSucc 2147483647, .ofNat 2147483647), (2, .ofNat 1, .ofNat 6), (3, .ofNat 3, .ofNat 5)], [(2678789, .inl (3, .ofNat 0))], [], [], [1, 2, 3, 4, 5, 6, 7]), [(0, .inr (some (some 327))), (1, .inl (0, .ofNat 2)), (2, .inl (0, .ofNat 3)), (3, .inl (1, .ofNat 0)), (4, .inl (2, .ofNat 0))]),
    (6, some 2, (4, [(1, .negSucc 2147483647, .ofNat 2147483647), (2, .ofNat 1, .ofNat 6), (3, .ofNat 3, .ofNat 5)], [(2678789, .inl (3, .ofNat 0))], [], [], [1, 2, 3, 4, 5, 6, 7]), [(0, .inr (some (some 327))), (1, .inl (0, .ofNat 2)), (2, .inl (0, .ofNat 4)), (3, .inl (1, .ofNat 0)), (4, .inl (2, .ofNat 0))]),
    (4, some 2, (4, [(1, .negSucc 2147483647, .ofNat 2147483647), (2, .ofNat 1, .ofNat 6), (3, .ofNat 3, .ofNat 5)], [(2678789, .inl (3, .ofNat 0))], [], [], [1, 2, 3, 4, 5, 6, 7]), [(0, .inr (some (some 327))), (1, .inl (0, .ofNat 2)), (2, .inl (0, .ofNat 5)), (3, .inl (1, .ofNat 0)), (4, .inl (2, .ofNat 0))]),
    (2, some 2, (4, [(1, .negSucc 2147483647, .ofNat 2147483647), (2, .ofNat 1, .ofNat 7), (3, .ofNat 3, .ofNat 5)], [(2678789, .inl (3, .ofNat 0))], [], [], [1, 2, 3, 4, 5, 6, 7]), [(0, .inr (some (some 327))), (1, .inl (0, .ofNat 2)), (2, .inl (0, .ofNat 6)), (3, .inl (1, .ofNat 0)), (4, .inl (2, .ofNat 0))])]), none, none]]
set_option maxRecDepth 1000000 in
theorem jxb_c216_ok (hX : jc_Xo jxb X) : jc_Con jP jxb X jxb_c216 := jc_mth_ok (Z := (jxb, [], jT, [], jxb_SP, jxb_c216_N, .ofNat 100000)) (f := 100000) jxb_ok hX jT_ok jc_c0 (by decide +kernel)
-- A._settleFit3
def jxb_c217 : jc_Cn := (20, 0, [.inr (some (some 327)), .inl (0, .ofNat 3)], (1, [], [], [], [], [1, 2, 3, 4, 5, 6, 7]), [(339, 0, 5)], [((1, [], [], [], [], [1, 2, 3, 4, 5, 6, 7]), none)])
def jxb_c217_N : jc_Nt := [some [none, none, none, none, none, none, none, none, none, some ([(22, none, (1, [], [], [], [], [1, 2, 3, 4, 5, 6, 7]), [(0, .inr (some (some 327))), (1, .inl (0, .ofNat 3)), (2, .inl (0, .ofNat 0))]),
    (21, none, (1, [], [], [], [], [1, 2, 3, 4, 5, 6, 7]), [(0, .inr (some (some 327))), (1, .inl (0, .ofNat 3)), (2, .inl (0, .ofNat 1))]),
    (20, none, (1, [], [], [], [], [1, 2, 3, 4, 5, 6, 7]), [(0, .inr (some (some 327))), (1, .inl (0, .ofNat 3)), (2, .inl (0, .ofNat 2))]),
    (19, none, (1, [], [], [], [], [1, 2, 3, 4, 5, 6, 7]), [(0, .inr (some (some 327))), (1, .inl (0, .ofNat 3)), (2, .inl (0, .ofNat 3))]),
    (18, none, (1, [], [], [], [], [1, 2, 3, 4, 5, 6, 7]), [(0, .inr (some (some 327))), (1, .inl (0, .ofNat 3)), (2, .inl (0, .ofNat 4))]),
    (17, none, (1, [], [], [], [], [1, 2, 3, 4, 5, 6, 7]), [(0, .inr (some (some 327))), (1, .inl (0, .ofNat 3)), (2, .inl (0, .ofNat 5))]),
    (16, none, (1, [], [], [], [], [1, 2, 3, 4, 5, 6, 7]), [(0, .inr (some (some 327))), (1, .inl (0, .ofNat 3)), (2, .inl (0, .ofNat 6))]),
    (15, none, (1, [], [], [], [], [1, 2, 3, 4, 5, 6, 7]), [(0, .inr (some (some 327))), (1, .inl (0, .ofNat 3)), (2, .inl (0, .ofNat 7))]),
    (14, none, (1, [], [], [], [], [1, 2, 3, 4, 5, 6, 7]), [(0, .inr (some (some 327))), (1, .inl (0, .ofNat 3)), (2, .inl (0, .ofNat 8))]),
    (13, none, (1, [], [], [], [], [1, 2, 3, 4, 5, 6, 7]), [(0, .inr (some (some 327))), (1, .inl (0, .ofNat 3)), (2, .inl (0, .ofNat 9))]),
    (12, none, (1, [], [], [], [], [1, 2, 3, 4, 5, 6, 7]), [(0, .inr (some (some 327))), (1, .inl (0, .ofNat 3)), (2, .inl (0, .ofNat 10))]),
    (11, none, (1, [], [], [], [], [1, 2, 3, 4, 5, 6, 7]), [(0, .inr (some (some 327))), (1, .inl (0, .ofNat 3)), (2, .inl (0, .ofNat 11))]),
    (10, none, (1, [], [], [], [], [1, 2, 3, 4, 5, 6, 7]), [(0, .inr (some (some 327))), (1, .inl (0, .ofNat 3)), (2, .inl (0, .ofNat 12))]),
    (9, none, (1, [], [], [], [], [1, 2, 3, 4, 5, 6, 7]), [(0, .inr (some (some 327))), (1, .inl (0, .ofNat 3)), (2, .inl (0, .ofNat 13))]),
    (8, none, (1, [], [], [], [], [1, 2, 3, 4, 5, 6, 7]), [(0, .inr (some (some 327))), (1, .inl (0, .ofNat 3)), (2, .inl (0, .ofNat 14))]),
    (7, none, (1, [], [], [], [], [1, 2, 3, 4, 5, 6, 7]), [(0, .inr (some (some 327))), (1, .inl (0, .ofNat 3)), (2, .inl (0, .ofNat 15))]),
    (6, none, (1, [], [], [], [], [1, 2, 3, 4, 5, 6, 7]), [(0, .inr (some (some 327))), (1, .inl (0, .ofNat 3)), (2, .inl (0, .ofNat 16))]),
    (5, none, (1, [], [], [], [], [1, 2, 3, 4, 5, 6, 7]), [(0, .inr (some (some 327))), (1, .inl (0, .ofNat 3)), (2, .inl (0, .ofNat 17))]),
    (4, none, (1, [], [], [], [], [1, 2, 3, 4, 5, 6, 7]), [(0, .inr (some (some 327))), (1, .inl (0, .ofNat 3)), (2, .inl (0, .ofNat 18))]),
    (3, none, (1, [], [], [], [], [1, 2, 3, 4, 5, 6, 7]), [(0, .inr (some (some 327))), (1, .inl (0, .ofNat 3)), (2, .inl (0, .ofNat 19))]),
    (2, none, (1, [], [], [], [], [1, 2, 3, 4, 5, 6, 7]), [(0, .inr (some (some 327))), (1, .inl (0, .ofNat 3)), (2, .inl (0, .ofNat 20))]),
    (1, none, (1, [], [], [], [], [1, 2, 3, 4, 5, 6, 7]), [(0, .inr (some (some 327))), (1, .inl (0, .ofNat 3)), (2, .inl (0, .ofNat 21))])]), none, none, none, none, none, none]]
set_option maxRecDepth 1000000 in
theorem jxb_c217_ok (hX : jc_Xo jxb X) : jc_Con jP jxb X jxb_c217 := jc_mth_ok (Z := (jxb, [], jT, [], jxb_SP, jxb_c217_N, .ofNat 100000)) (f := 100000) jxb_ok hX jT_ok jc_c0 (by decide +kernel)
-- A._settleWay3
def jxb_c218 : jc_Cn := (21, 1, [.inr (some (some 327)), .inl (0, .ofNat 3)], (2, [(1, .ofNat 4, .ofNat 5)], [(2678789, .inl (1, .ofNat 0))], [], [], [1, 2, 3, 4, 5, 6, 7]), [(341, 0, 30), (342, 0, 5), (340, 0, 35)], [((2, [(1, .ofNat 4, .ofNat 5)], [(2678789, .inl (1, .ofNat 0))], [], [], [1, 2, 3, 4, 5, 6, 7]), none)])
def jxb_c218_N : jc_Nt := [some [none, none, some ([(22, none, (2, [(1, .ofNat 4, .ofNat 5)], [(2678789, .inl (1, .ofNat 0))], [], [], [1, 2, 3, 4, 5, 6, 7]), [(0, .inr (some (some 327))), (1, .inl (0, .ofNat 3)), (2, .inl (0, .ofNat 0))]),
    (21, none, (2, [(1, .ofNat 4, .ofNat 5)], [(2678789, .inl (1, .ofNat 0))], [], [], [1, 2, 3, 4, 5, 6, 7]), [(0, .inr (some (some 327))), (1, .inl (0, .ofNat 3)), (2, .inl (0, .ofNat 1))]),
    (20, none, (2, [(1, .ofNat 4, .ofNat 5)], [(2678789, .inl (1, .ofNat 0))], [], [], [1, 2, 3, 4, 5, 6, 7]), [(0, .inr (some (some 327))), (1, .inl (0, .ofNat 3)), (2, .inl (0, .ofNat 2))]),
    (19, none, (2, [(1, .ofNat 4, .ofNat 5)], [(2678789, .inl (1, .ofNat 0))], [], [], [1, 2, 3, 4, 5, 6, 7]), [(0, .inr (some (some 327))), (1, .inl (0, .ofNat 3)), (2, .inl (0, .ofNat 3))]),
    (18, none, (2, [(1, .ofNat 4, .ofNat 5)], [(2678789, .inl (1, .ofNat 0))], [], [], [1, 2, 3, 4, 5, 6, 7]), [(0, .inr (some (some 327))), (1, .inl (0, .ofNat 3)), (2, .inl (0, .ofNat 4))]),
    (17, none, (2, [(1, .ofNat 4, .ofNat 5)], [(2678789, .inl (1, .ofNat 0))], [], [], [1, 2, 3, 4, 5, 6, 7]), [(0, .inr (some (some 327))), (1, .inl (0, .ofNat 3)), (2, .inl (0, .ofNat 5))]),
    (16, none, (2, [(1, .ofNat 4, .ofNat 5)], [(2678789, .inl (1, .ofNat 0))], [], [], [1, 2, 3, 4, 5, 6, 7]), [(0, .inr (some (some 327))), (1, .inl (0, .ofNat 3)), (2, .inl (0, .ofNat 6))])]), none, none, none, none, none, none, none, none, none, none, none, none, none],
  none,
  none,
  none,
  some [none, none, none, none, none, some ([(15, none, (2, [(1, .ofNat 4, .ofNat 5)], [(2678789, .inl (1, .ofNat 0))], [], [], [1, 2, 3, 4, 5, 6, 7]), [(0, .inr (some (some 327))), (1, .inl (0, .ofNat 3)), (2, .inl (0, .ofNat 0))]),
    (13, none, (4, [(1, .negSucc 2147483647, .ofNat 2147483647), (2, .ofNat 1, .ofNat 6), (3, .ofNat 4, .ofNat 5)], [(2678789, .inl (3, .ofNat 0))], [], [], [1, 2, 3, 4, 5, 6, 7]), [(0, .inr (some (some 327))), (1, .inl (0, .ofNat 3)), (2, .inl (0, .ofNat 1)), (3, .inl (1, .ofNat 0)), (4, .inl (2, .ofNat 0))]),
    (11, none, (4, [(1, .negSucc 2147483647, .ofNat 2147483647), (2, .ofNat 1, .ofNat 6), (3, .ofNat 4, .ofNat 5)], [(2678789, .inl (3, .ofNat 0))], [], [], [1, 2, 3, 4, 5, 6, 7]), [(0, .inr (some (some 327))), (1, .inl (0, .ofNat 3)), (2, .inl (0, .ofNat 2)), (3, .inl (1, .ofNat 0)), (4, .inl (2, .ofNat 0))]),
    (9, none, (4, [(1, .negSucc 2147483647, .ofNat 2147483647), (2, .ofNat 2, .ofNat 6), (3, .ofNat 4, .ofNat 5)], [(2678789, .inl (3, .ofNat 0))], [], [], [1, 2, 3, 4, 5, 6, 7]), [(0, .inr (some (some 327))), (1, .inl (0, .ofNat 3)), (2, .inl (0, .ofNat 3)), (3, .inl (1, .ofNat 0)), (4, .inl (2, .ofNat 0))]),
    (7, none, (4, [(1, .negSucc 2147483647, .ofNat 2147483647), (2, .ofNat 3, .ofNat 6), (3, .ofNat 4, .ofNat 5)], [(2678789, .inl (3, .ofNat 0))], [], [], [1, 2, 3, 4, 5, 6, 7]), [(0, .inr (some (some 327))), (1, .inl (0, .ofNat 3)), (2, .inl (0, .ofNat 4)), (3, .inl (1, .ofNat 0)), (4, .inl (2, .ofNat 0))]),
    (5, none, (4, [(1, .negSucc 2147483647, .ofNat 2147483647), (2, .ofNat 4, .ofNat 6), (3, .ofNat 4, .ofNat 5)], [(2678789, .inl (3, .ofNat 0))], [], [], [1, 2, 3, 4, 5, 6, 7]), [(0, .inr (some (some 327))), (1, .inl (0, .ofNat 3)), (2, .inl (0, .ofNat 5)), (3, .inl (1, .ofNat 0)), (4, .inl (2, .ofNat 0))]),
    (3, none, (4, [(1, .negSucc 2147483647, .ofNat 2147483647), (2, .ofNat 5, .ofNat 6), (3, .ofNat 4, .ofNat 5)], [(2678789, .inl (3, .ofNat 0))], [], [], [1, 2, 3, 4, 5, 6, 7]), [(0, .inr (some (some 327))), (1, .inl (0, .ofNat 3)), (2, .inl (0, .ofNat 6)), (3, .inl (1, .ofNat 0)), (4, .inl (2, .ofNat 0))]),
    (1, none, (4, [(1, .negSucc 2147483647, .ofNat 2147483647), (2, .ofNat 6, .ofNat 7), (3, .ofNat 4, .ofNat 5)], [(2678789, .inl (3, .ofNat 0))], [], [], [1, 2, 3, 4, 5, 6, 7]), [(0, .inr (some (some 327))), (1, .inl (0, .ofNat 3)), (2, .inl (0, .ofNat 7)), (3, .inl (1, .ofNat 0)), (4, .inl (2, .ofNat 0))])]), none, none, none, none, none, none, none, none, none, none],
  some [none, none, none, none, none, none, none, none, none, none, none, none, none, some ([(14, some 2, (4, [(1, .negSucc 2147483647, .ofNat 2147483647), (2, .ofNat 1, .ofNat 6), (3, .ofNat 4, .ofNat 5)], [(2678789, .inl (3, .ofNat 0))], [], [], [1, 2, 3, 4, 5, 6, 7]), [(0, .inr (some (some 327))), (1, .inl (0, .ofNat 3)), (2, .inl (0, .ofNat 0)), (3, .inl (1, .ofNat 0)), (4, .inl (2, .ofNat 0))]),
    (12, some 2, (4, [(1, .negSucc 2147483647, .ofNat 2147483647), (2, .ofNat 1, .ofNat 6), (3, .ofNat 4, .ofNat 5)], [(2678789, .inl (3, .ofNat 0))], [], [], [1, 2, 3, 4, 5, 6, 7]), [(0, .inr (some (some 327))), (1, .inl (0, .ofNat 3)), (2, .inl (0, .ofNat 1)), (3, .inl (1, .ofNat 0)), (4, .inl (2, .ofNat 0))]),
    (10, some 2, (4, [(1, .negSucc 2147483647, .ofNat 2147483647), (2, .ofNat 1, .ofNat 6), (3, .ofNat 4, .ofNat 5)], [(2678789, .inl (3, .ofNat 0))], [], [], [1, 2, 3, 4, 5, 6, 7]), [(0, .inr (some (some 327))), (1, .inl (0, .ofNat 3)), (2, .inl (0, .ofNat 2)), (3, .inl (1, .ofNat 0)), (4, .inl (2, .ofNat 0))]),
    (8, some 2, (4, [(1, .negSucc 2147483647, .ofNat 2147483647), (2, .ofNat 1, .ofNat 6), (3, .ofNat 4, .ofNat 5)], [(2678789, .inl (3, .ofNat 0))], [], [], [1, 2, 3, 4, 5, 6, 7]), [(0, .inr (some (some 327))), (1, .inl (0, .ofNat 3)), (2, .inl (0, .ofNat 3)), (3, .inl (1, .ofNat 0)), (4, .inl (2, .ofNat 0))]),
    (6, some 2, (4, [(1, .negSucc 2147483647, .ofNat 2147483647), (2, .ofNat 1, .ofNat 6), (3, .ofNat 4, .ofNat 5)], [(2678789, .inl (3, .ofNat 0))], [], [], [1, 2, 3, 4, 5, 6, 7]), [(0, .inr (some (some 327))), (1, .inl (0, .ofNat 3)), (2, .inl (0, .ofNat 4)), (3, .inl (1, .ofNat 0)), (4, .inl (2, .ofNat 0))]),
    (4, some 2, (4, [(1, .negSucc 2147483647, .ofNat 2147483647), (2, .ofNat 1, .ofNat 6), (3, .ofNat 4, .ofNat 5)], [(2678789, .inl (3, .ofNat 0))], [], [], [1, 2, 3, 4, 5, 6, 7]), [(0, .inr (some (some 327))), (1, .inl (0, .ofNat 3)), (2, .inl (0, .ofNat 5)), (3, .inl (1, .ofNat 0)), (4, .inl (2, .ofNat 0))]),
    (2, some 2, (4, [(1, .negSucc 2147483647, .ofNat 2147483647), (2, .ofNat 1, .ofNat 7), (3, .ofNat 4, .ofNat 5)], [(2678789, .inl (3, .ofNat 0))], [], [], [1, 2, 3, 4, 5, 6, 7]), [(0, .inr (some (some 327))), (1, .inl (0, .ofNat 3)), (2, .inl (0, .ofNat 6)), (3, .inl (1, .ofNat 0)), (4, .inl (2, .ofNat 0))])]), none, none]]
set_option maxRecDepth 1000000 in
theorem jxb_c218_ok (hX : jc_Xo jxb X) : jc_Con jP jxb X jxb_c218 := jc_mth_ok (Z := (jxb, [], jT, [], jxb_SP, jxb_c218_N, .ofNat 100000)) (f := 100000) jxb_ok hX jT_ok jc_c0 (by decide +kernel)
-- A._settleFit4
def jxb_c219 : jc_Cn := (20, 0, [.inr (some (some 327)), .inl (0, .ofNat 4)], (1, [], [], [], [], [1, 2, 3, 4, 5, 6, 7]), [(339, 0, 5)], [((1, [], [], [], [], [1, 2, 3, 4, 5, 6, 7]), none)])
def jxb_c219_N : jc_Nt := [some [none, none, none, none, none, none, none, none, none, some ([(22, none, (1, [], [], [], [], [1, 2, 3, 4, 5, 6, 7]), [(0, .inr (some (some 327))), (1, .inl (0, .ofNat 4)), (2, .inl (0, .ofNat 0))]),
    (21, none, (1, [], [], [], [], [1, 2, 3, 4, 5, 6, 7]), [(0, .inr (some (some 327))), (1, .inl (0, .ofNat 4)), (2, .inl (0, .ofNat 1))]),
    (20, none, (1, [], [], [], [], [1, 2, 3, 4, 5, 6, 7]), [(0, .inr (some (some 327))), (1, .inl (0, .ofNat 4)), (2, .inl (0, .ofNat 2))]),
    (19, none, (1, [], [], [], [], [1, 2, 3, 4, 5, 6, 7]), [(0, .inr (some (some 327))), (1, .inl (0, .ofNat 4)), (2, .inl (0, .ofNat 3))]),
    (18, none, (1, [], [], [], [], [1, 2, 3, 4, 5, 6, 7]), [(0, .inr (some (some 327))), (1, .inl (0, .ofNat 4)), (2, .inl (0, .ofNat 4))]),
    (17, none, (1, [], [], [], [], [1, 2, 3, 4, 5, 6, 7]), [(0, .inr (some (some 327))), (1, .inl (0, .ofNat 4)), (2, .inl (0, .ofNat 5))]),
    (16, none, (1, [], [], [], [], [1, 2, 3, 4, 5, 6, 7]), [(0, .inr (some (some 327))), (1, .inl (0, .ofNat 4)), (2, .inl (0, .ofNat 6))]),
    (15, none, (1, [], [], [], [], [1, 2, 3, 4, 5, 6, 7]), [(0, .inr (some (some 327))), (1, .inl (0, .ofNat 4)), (2, .inl (0, .ofNat 7))]),
    (14, none, (1, [], [], [], [], [1, 2, 3, 4, 5, 6, 7]), [(0, .inr (some (some 327))), (1, .inl (0, .ofNat 4)), (2, .inl (0, .ofNat 8))]),
    (13, none, (1, [], [], [], [], [1, 2, 3, 4, 5, 6, 7]), [(0, .inr (some (some 327))), (1, .inl (0, .ofNat 4)), (2, .inl (0, .ofNat 9))]),
    (12, none, (1, [], [], [], [], [1, 2, 3, 4, 5, 6, 7]), [(0, .inr (some (some 327))), (1, .inl (0, .ofNat 4)), (2, .inl (0, .ofNat 10))]),
    (11, none, (1, [], [], [], [], [1, 2, 3, 4, 5, 6, 7]), [(0, .inr (some (some 327))), (1, .inl (0, .ofNat 4)), (2, .inl (0, .ofNat 11))]),
    (10, none, (1, [], [], [], [], [1, 2, 3, 4, 5, 6, 7]), [(0, .inr (some (some 327))), (1, .inl (0, .ofNat 4)), (2, .inl (0, .ofNat 12))]),
    (9, none, (1, [], [], [], [], [1, 2, 3, 4, 5, 6, 7]), [(0, .inr (some (some 327))), (1, .inl (0, .ofNat 4)), (2, .inl (0, .ofNat 13))]),
    (8, none, (1, [], [], [], [], [1, 2, 3, 4, 5, 6, 7]), [(0, .inr (some (some 327))), (1, .inl (0, .ofNat 4)), (2, .inl (0, .ofNat 14))]),
    (7, none, (1, [], [], [], [], [1, 2, 3, 4, 5, 6, 7]), [(0, .inr (some (some 327))), (1, .inl (0, .ofNat 4)), (2, .inl (0, .ofNat 15))]),
    (6, none, (1, [], [], [], [], [1, 2, 3, 4, 5, 6, 7]), [(0, .inr (some (some 327))), (1, .inl (0, .ofNat 4)), (2, .inl (0, .ofNat 16))]),
    (5, none, (1, [], [], [], [], [1, 2, 3, 4, 5, 6, 7]), [(0, .inr (some (some 327))), (1, .inl (0, .ofNat 4)), (2, .inl (0, .ofNat 17))]),
    (4, none, (1, [], [], [], [], [1, 2, 3, 4, 5, 6, 7]), [(0, .inr (some (some 327))), (1, .inl (0, .ofNat 4)), (2, .inl (0, .ofNat 18))]),
    (3, none, (1, [], [], [], [], [1, 2, 3, 4, 5, 6, 7]), [(0, .inr (some (some 327))), (1, .inl (0, .ofNat 4)), (2, .inl (0, .ofNat 19))]),
    (2, none, (1, [], [], [], [], [1, 2, 3, 4, 5, 6, 7]), [(0, .inr (some (some 327))), (1, .inl (0, .ofNat 4)), (2, .inl (0, .ofNat 20))]),
    (1, none, (1, [], [], [], [], [1, 2, 3, 4, 5, 6, 7]), [(0, .inr (some (some 327))), (1, .inl (0, .ofNat 4)), (2, .inl (0, .ofNat 21))])]), none, none, none, none, none, none]]
set_option maxRecDepth 1000000 in
theorem jxb_c219_ok (hX : jc_Xo jxb X) : jc_Con jP jxb X jxb_c219 := jc_mth_ok (Z := (jxb, [], jT, [], jxb_SP, jxb_c219_N, .ofNat 100000)) (f := 100000) jxb_ok hX jT_ok jc_c0 (by decide +kernel)
-- A._settleWay4
def jxb_c220 : jc_Cn := (21, 1, [.inr (some (some 327)), .inl (0, .ofNat 4)], (2, [(1, .ofNat 5, .ofNat 5)], [(2678789, .inl (1, .ofNat 0))], [], [], [1, 2, 3, 4, 5, 6, 7]), [(341, 0, 30), (342, 0, 5), (340, 0, 35)], [((1, [], [(2678789, .inl (0, .ofNat 5))], [], [], [1, 2, 3, 4, 5, 6, 7]), none)])
def jxb_c220_N : jc_Nt := [some [none, none, some ([(22, none, (1, [], [(2678789, .inl (0, .ofNat 5))], [], [], [1, 2, 3, 4, 5, 6, 7]), [(0, .inr (some (some 327))), (1, .inl (0, .ofNat 4)), (2, .inl (0, .ofNat 0))]),
    (21, none, (1, [], [(2678789, .inl (0, .ofNat 5))], [], [], [1, 2, 3, 4, 5, 6, 7]), [(0, .inr (some (some 327))), (1, .inl (0, .ofNat 4)), (2, .inl (0, .ofNat 1))]),
    (20, none, (1, [], [(2678789, .inl (0, .ofNat 5))], [], [], [1, 2, 3, 4, 5, 6, 7]), [(0, .inr (some (some 327))), (1, .inl (0, .ofNat 4)), (2, .inl (0, .ofNat 2))]),
    (19, none, (1, [], [(2678789, .inl (0, .ofNat 5))], [], [], [1, 2, 3, 4, 5, 6, 7]), [(0, .inr (some (some 327))), (1, .inl (0, .ofNat 4)), (2, .inl (0, .ofNat 3))]),
    (18, none, (1, [], [(2678789, .inl (0, .ofNat 5))], [], [], [1, 2, 3, 4, 5, 6, 7]), [(0, .inr (some (some 327))), (1, .inl (0, .ofNat 4)), (2, .inl (0, .ofNat 4))]),
    (17, none, (1, [], [(2678789, .inl (0, .ofNat 5))], [], [], [1, 2, 3, 4, 5, 6, 7]), [(0, .inr (some (some 327))), (1, .inl (0, .ofNat 4)), (2, .inl (0, .ofNat 5))]),
    (16, none, (1, [], [(2678789, .inl (0, .ofNat 5))], [], [], [1, 2, 3, 4, 5, 6, 7]), [(0, .inr (some (some 327))), (1, .inl (0, .ofNat 4)), (2, .inl (0, .ofNat 6))])]), none, none, none, none, none, none, none, none, none, none, none, none, none],
  none,
  none,
  none,
  some [none, none, none, none, none, some ([(15, none, (1, [], [(2678789, .inl (0, .ofNat 5))], [], [], [1, 2, 3, 4, 5, 6, 7]), [(0, .inr (some (some 327))), (1, .inl (0, .ofNat 4)), (2, .inl (0, .ofNat 0))]),
    (13, none, (3, [(1, .negSucc 2147483647, .ofNat 2147483647), (2, .ofNat 1, .ofNat 6)], [(2678789, .inl (0, .ofNat 5))], [], [], [1, 2, 3, 4, 5, 6, 7]), [(0, .inr (some (some 327))), (1, .inl (0, .ofNat 4)), (2, .inl (0, .ofNat 1)), (3, .inl (1, .ofNat 0)), (4, .inl (2, .ofNat 0))]),
    (11, none, (3, [(1, .negSucc 2147483647, .ofNat 2147483647), (2, .ofNat 1, .ofNat 6)], [(2678789, .inl (0, .ofNat 5))], [], [], [1, 2, 3, 4, 5, 6, 7]), [(0, .inr (some (some 327))), (1, .inl (0, .ofNat 4)), (2, .inl (0, .ofNat 2)), (3, .inl (1, .ofNat 0)), (4, .inl (2, .ofNat 0))]),
    (9, none, (3, [(1, .negSucc 2147483647, .ofNat 2147483647), (2, .ofNat 2, .ofNat 6)], [(2678789, .inl (0, .ofNat 5))], [], [], [1, 2, 3, 4, 5, 6, 7]), [(0, .inr (some (some 327))), (1, .inl (0, .ofNat 4)), (2, .inl (0, .ofNat 3)), (3, .inl (1, .ofNat 0)), (4, .inl (2, .ofNat 0))]),
    (7, none, (3, [(1, .negSucc 2147483647, .ofNat 2147483647), (2, .ofNat 3, .ofNat 6)], [(2678789, .inl (0, .ofNat 5))], [], [], [1, 2, 3, 4, 5, 6, 7]), [(0, .inr (some (some 327))), (1, .inl (0, .ofNat 4)), (2, .inl (0, .ofNat 4)), (3, .inl (1, .ofNat 0)), (4, .inl (2, .ofNat 0))]),
    (5, none, (3, [(1, .negSucc 2147483647, .ofNat 2147483647), (2, .ofNat 4, .ofNat 6)], [(2678789, .inl (0, .ofNat 5))], [], [], [1, 2, 3, 4, 5, 6, 7]), [(0, .inr (some (some 327))), (1, .inl (0, .ofNat 4)), (2, .inl (0, .ofNat 5)), (3, .inl (1, .ofNat 0)), (4, .inl (2, .ofNat 0))]),
    (3, none, (3, [(1, .negSucc 2147483647, .ofNat 2147483647), (2, .ofNat 5, .ofNat 6)], [(2678789, .inl (0, .ofNat 5))], [], [], [1, 2, 3, 4, 5, 6, 7]), [(0, .inr (some (some 327))), (1, .inl (0, .ofNat 4)), (2, .inl (0, .ofNat 6)), (3, .inl (1, .ofNat 0)), (4, .inl (2, .ofNat 0))]),
    (1, none, (3, [(1, .negSucc 2147483647, .ofNat 2147483647), (2, .ofNat 6, .ofNat 7)], [(2678789, .inl (0, .ofNat 5))], [], [], [1, 2, 3, 4, 5, 6, 7]), [(0, .inr (some (some 327))), (1, .inl (0, .ofNat 4)), (2, .inl (0, .ofNat 7)), (3, .inl (1, .ofNat 0)), (4, .inl (2, .ofNat 0))])]), none, none, none, none, none, none, none, none, none, none],
  some [none, none, none, none, none, none, none, none, none, none, none, none, none, some ([(14, some 2, (3, [(1, .negSucc 2147483647, .ofNat 2147483647), (2, .ofNat 1, .ofNat 6)], [(2678789, .inl (0, .ofNat 5))], [], [], [1, 2, 3, 4, 5, 6, 7]), [(0, .inr (some (some 327))), (1, .inl (0, .ofNat 4)), (2, .inl (0, .ofNat 0)), (3, .inl (1, .ofNat 0)), (4, .inl (2, .ofNat 0))]),
    (12, some 2, (3, [(1, .negSucc 2147483647, .ofNat 2147483647), (2, .ofNat 1, .ofNat 6)], [(2678789, .inl (0, .ofNat 5))], [], [], [1, 2, 3, 4, 5, 6, 7]), [(0, .inr (some (some 327))), (1, .inl (0, .ofNat 4)), (2, .inl (0, .ofNat 1)), (3, .inl (1, .ofNat 0)), (4, .inl (2, .ofNat 0))]),
    (10, some 2, (3, [(1, .negSucc 2147483647, .ofNat 2147483647), (2, .ofNat 1, .ofNat 6)], [(2678789, .inl (0, .ofNat 5))], [], [], [1, 2, 3, 4, 5, 6, 7]), [(0, .inr (some (some 327))), (1, .inl (0, .ofNat 4)), (2, .inl (0, .ofNat 2)), (3, .inl (1, .ofNat 0)), (4, .inl (2, .ofNat 0))]),
    (8, some 2, (3, [(1, .negSucc 2147483647, .ofNat 2147483647), (2, .ofNat 1, .ofNat 6)], [(2678789, .inl (0, .ofNat 5))], [], [], [1, 2, 3, 4, 5, 6, 7]), [(0, .inr (some (some 327))), (1, .inl (0, .ofNat 4)), (2, .inl (0, .ofNat 3)), (3, .inl (1, .ofNat 0)), (4, .inl (2, .ofNat 0))]),
    (6, some 2, (3, [(1, .negSucc 2147483647, .ofNat 2147483647), (2, .ofNat 1, .ofNat 6)], [(2678789, .inl (0, .ofNat 5))], [], [], [1, 2, 3, 4, 5, 6, 7]), [(0, .inr (some (some 327))), (1, .inl (0, .ofNat 4)), (2, .inl (0, .ofNat 4)), (3, .inl (1, .ofNat 0)), (4, .inl (2, .ofNat 0))]),
    (4, some 2, (3, [(1, .negSucc 2147483647, .ofNat 2147483647), (2, .ofNat 1, .ofNat 6)], [(2678789, .inl (0, .ofNat 5))], [], [], [1, 2, 3, 4, 5, 6, 7]), [(0, .inr (some (some 327))), (1, .inl (0, .ofNat 4)), (2, .inl (0, .ofNat 5)), (3, .inl (1, .ofNat 0)), (4, .inl (2, .ofNat 0))]),
    (2, some 2, (3, [(1, .negSucc 2147483647, .ofNat 2147483647), (2, .ofNat 1, .ofNat 7)], [(2678789, .inl (0, .ofNat 5))], [], [], [1, 2, 3, 4, 5, 6, 7]), [(0, .inr (some (some 327))), (1, .inl (0, .ofNat 4)), (2, .inl (0, .ofNat 6)), (3, .inl (1, .ofNat 0)), (4, .inl (2, .ofNat 0))])]), none, none]]
set_option maxRecDepth 1000000 in
theorem jxb_c220_ok (hX : jc_Xo jxb X) : jc_Con jP jxb X jxb_c220 := jc_mth_ok (Z := (jxb, [], jT, [], jxb_SP, jxb_c220_N, .ofNat 100000)) (f := 100000) jxb_ok hX jT_ok jc_c0 (by decide +kernel)
end Jjxb13

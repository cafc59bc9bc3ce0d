/-! contracts of the class, told in B (14); written by wip/jc/e4.py -/
section Jjxb14
variable {X : J_H → Prop}
-- A._settle
def jxb_c221 : jc_Cn := (19, 2, [.inr (some (some 327))], (1, [], [], [], [], [1, 2, 3, 4, 5, 6, 7]), [(339, 0, 5), (341, 0, 30), (342, 0, 5), (340, 0, 35), (327, 13, 14)], [((1, [], [], [], [], [1, 2, 3, 4, 5, 6, 7]), none)])
def jxb_c221_N : jc_Nt := [some [none, none, none, none, none, none, none, some ([(14, none, (1, [], [], [], [], [1, 2, 3, 4, 5, 6, 7]), [(0, .inr (some (some 327))), (1, .inl (0, .ofNat 0))]),
    (13, none, (1, [], [], [], [], [1, 2, 3, 4, 5, 6, 7]), [(0, .inr (some (some 327))), (1, .inl (0, .ofNat 1))]),
    (12, none, (1, [], [], [], [], [1, 2, 3, 4, 5, 6, 7]), [(0, .inr (some (some 327))), (1, .inl (0, .ofNat 2))]),
    (11, none, (1, [], [], [], [], [1, 2, 3, 4, 5, 6, 7]), [(0, .inr (some (some 327))), (1, .inl (0, .ofNat 3))]),
    (10, none, (1, [], [], [], [], [1, 2, 3, 4, 5, 6, 7]), [(0, .inr (some (some 327))), (1, .inl (0, .ofNat 4))]),
    (9, none, (1, [], [], [], [], [1, 2, 3, 4, 5, 6, 7]), [(0, .inr (some (some 327))), (1, .inl (0, .ofNat 5))]),
    (8, none, (1, [], [], [], [], [1, 2, 3, 4, 5, 6, 7]), [(0, .inr (some (some 327))), (1, .inl (0, .ofNat 6))]),
    (7, none, (1, [], [], [], [], [1, 2, 3, 4, 5, 6, 7]), [(0, .inr (some (some 327))), (1, .inl (0, .ofNat 7))])]), none, none, none, none, none, none, none, none],
  none,
  some [none, none, none, none, none, some ([(6, none, (1, [], [], [], [], [1, 2, 3, 4, 5, 6, 7]), [(0, .inr (some (some 327))), (1, .inl (0, .ofNat 0))]),
    (5, none, (1, [], [], [], [], [1, 2, 3, 4, 5, 6, 7]), [(0, .inr (some (some 327))), (1, .inl (0, .ofNat 1))]),
    (4, none, (1, [], [], [], [], [1, 2, 3, 4, 5, 6, 7]), [(0, .inr (some (some 327))), (1, .inl (0, .ofNat 2))]),
    (3, none, (1, [], [], [], [], [1, 2, 3, 4, 5, 6, 7]), [(0, .inr (some (some 327))), (1, .inl (0, .ofNat 3))]),
    (2, none, (1, [], [], [], [], [1, 2, 3, 4, 5, 6, 7]), [(0, .inr (some (some 327))), (1, .inl (0, .ofNat 4))]),
    (1, none, (1, [], [], [], [], [1, 2, 3, 4, 5, 6, 7]), [(0, .inr (some (some 327))), (1, .inl (0, .ofNat 5))])]), none, none, none, none, none, none, none, none, none, none]]
set_option maxRecDepth 1000000 in
theorem jxb_c221_ok (hX : jc_Xo jxb X) : jc_Con jP jxb X jxb_c221 := jc_mth_ok (Z := (jxb, [], jT, [jxb_c211, jxb_c213, jxb_c215, jxb_c217, jxb_c219, jxb_c212, jxb_c214, jxb_c216, jxb_c218, jxb_c220], jxb_SP, jxb_c221_N, .ofNat 100000)) (f := 100000) jxb_ok hX jT_ok (jc_c1 (jxb_c211_ok hX) (jc_c1 (jxb_c213_ok hX) (jc_c1 (jxb_c215_ok hX) (jc_c1 (jxb_c217_ok hX) (jc_c1 (jxb_c219_ok hX) (jc_c1 (jxb_c212_ok hX) (jc_c1 (jxb_c214_ok hX) (jc_c1 (jxb_c216_ok hX) (jc_c1 (jxb_c218_ok hX) (jc_c1 (jxb_c220_ok hX) jc_c0)))))))))) (by decide +kernel)
-- W._longest
def jxb_c222 : jc_Cn := (24, 0, [.inr (some (some 307)), .inl (1, .ofNat 0)], (2, [(1, .ofNat 0, .ofNat 6)], [], [], [], [1, 2, 3, 4, 5, 6, 7]), [], [((2, [(1, .ofNat 0, .ofNat 2147483647)], [], [], [], [1, 2, 3, 4, 5, 6, 7]), some (.inl (1, .ofNat 0)))])
def jxb_c222_N : jc_Nt := [some [none, none, none, none, some ([(4, none, (2, [(1, .ofNat 0, .ofNat 6)], [], [], [], [1, 2, 3, 4, 5, 6, 7]), [(0, .inr (some (some 307))), (1, .inl (1, .ofNat 0)), (2, .inl (0, .ofNat 0)), (3, .inl (0, .ofNat 0))]),
    (3, none, (3, [(1, .ofNat 0, .ofNat 6), (2, .ofNat 0, .ofNat 2147483647)], [], [], [], [1, 2, 3, 4, 5, 6, 7]), [(0, .inr (some (some 307))), (1, .inl (1, .ofNat 0)), (2, .inl (2, .ofNat 0)), (3, .inl (0, .ofNat 1))]),
    (2, none, (3, [(1, .ofNat 0, .ofNat 6), (2, .ofNat 0, .ofNat 2147483647)], [], [], [], [1, 2, 3, 4, 5, 6, 7]), [(0, .inr (some (some 307))), (1, .inl (1, .ofNat 0)), (2, .inl (2, .ofNat 0)), (3, .inl (0, .ofNat 2))]),
    (1, none, (3, [(1, .ofNat 0, .ofNat 6), (2, .ofNat 0, .ofNat 2147483647)], [], [], [], [1, 2, 3, 4, 5, 6, 7]), [(0, .inr (some (some 307))), (1, .inl (1, .ofNat 0)), (2, .inl (2, .ofNat 0)), (3, .inl (0, .ofNat 3))])]), none, none, none, none, none, none, none, none, none, none, none]]
set_option maxRecDepth 1000000 in
theorem jxb_c222_ok (hX : jc_Xo jxb X) : jc_Con jP jxb X jxb_c222 := jc_mth_ok (Z := (jxb, [], jT, [], jxb_SP, jxb_c222_N, .ofNat 100000)) (f := 100000) jxb_ok hX jT_ok jc_c0 (by decide +kernel)
-- W._settleFit0
def jxb_c223 : jc_Cn := (20, 0, [.inr (some (some 307)), .inl (0, .ofNat 0)], (1, [], [], [], [], [1, 2, 3, 4, 5, 6, 7]), [(319, 0, 5)], [((1, [], [], [], [], [1, 2, 3, 4, 5, 6, 7]), none)])
def jxb_c223_N : jc_Nt := [some [none, none, none, none, none, none, none, none, none, some ([(22, none, (1, [], [], [], [], [1, 2, 3, 4, 5, 6, 7]), [(0, .inr (some (some 307))), (1, .inl (0, .ofNat 0)), (2, .inl (0, .ofNat 0))]),
    (21, none, (1, [], [], [], [], [1, 2, 3, 4, 5, 6, 7]), [(0, .inr (some (some 307))), (1, .inl (0, .ofNat 0)), (2, .inl (0, .ofNat 1))]),
    (20, none, (1, [], [], [], [], [1, 2, 3, 4, 5, 6, 7]), [(0, .inr (some (some 307))), (1, .inl (0, .ofNat 0)), (2, .inl (0, .ofNat 2))]),
    (19, none, (1, [], [], [], [], [1, 2, 3, 4, 5, 6, 7]), [(0, .inr (some (some 307))), (1, .inl (0, .ofNat 0)), (2, .inl (0, .ofNat 3))]),
    (18, none, (1, [], [], [], [], [1, 2, 3, 4, 5, 6, 7]), [(0, .inr (some (some 307))), (1, .inl (0, .ofNat 0)), (2, .inl (0, .ofNat 4))]),
    (17, none, (1, [], [], [], [], [1, 2, 3, 4, 5, 6, 7]), [(0, .inr (some (some 307))), (1, .inl (0, .ofNat 0)), (2, .inl (0, .ofNat 5))]),
    (16, none, (1, [], [], [], [], [1, 2, 3, 4, 5, 6, 7]), [(0, .inr (some (some 307))), (1, .inl (0, .ofNat 0)), (2, .inl (0, .ofNat 6))]),
    (15, none, (1, [], [], [], [], [1, 2, 3, 4, 5, 6, 7]), [(0, .inr (some (some 307))), (1, .inl (0, .ofNat 0)), (2, .inl (0, .ofNat 7))]),
    (14, none, (1, [], [], [], [], [1, 2, 3, 4, 5, 6, 7]), [(0, .inr (some (some 307))), (1, .inl (0, .ofNat 0)), (2, .inl (0, .ofNat 8))]),
    (13, none, (1, [], [], [], [], [1, 2, 3, 4, 5, 6, 7]), [(0, .inr (some (some 307))), (1, .inl (0, .ofNat 0)), (2, .inl (0, .ofNat 9))]),
    (12, none, (1, [], [], [], [], [1, 2, 3, 4, 5, 6, 7]), [(0, .inr (some (some 307))), (1, .inl (0, .ofNat 0)), (2, .inl (0, .ofNat 10))]),
    (11, none, (1, [], [], [], [], [1, 2, 3, 4, 5, 6, 7]), [(0, .inr (some (some 307))), (1, .inl (0, .ofNat 0)), (2, .inl (0, .ofNat 11))]),
    (10, none, (1, [], [], [], [], [1, 2, 3, 4, 5, 6, 7]), [(0, .inr (some (some 307))), (1, .inl (0, .ofNat 0)), (2, .inl (0, .ofNat 12))]),
    (9, none, (1, [], [], [], [], [1, 2, 3, 4, 5, 6, 7]), [(0, .inr (some (some 307))), (1, .inl (0, .ofNat 0)), (2, .inl (0, .ofNat 13))]),
    (8, none, (1, [], [], [], [], [1, 2, 3, 4, 5, 6, 7]), [(0, .inr (some (some 307))), (1, .inl (0, .ofNat 0)), (2, .inl (0, .ofNat 14))]),
    (7, none, (1, [], [], [], [], [1, 2, 3, 4, 5, 6, 7]), [(0, .inr (some (some 307))), (1, .inl (0, .ofNat 0)), (2, .inl (0, .ofNat 15))]),
    (6, none, (1, [], [], [], [], [1, 2, 3, 4, 5, 6, 7]), [(0, .inr (some (some 307))), (1, .inl (0, .ofNat 0)), (2, .inl (0, .ofNat 16))]),
    (5, none, (1, [], [], [], [], [1, 2, 3, 4, 5, 6, 7]), [(0, .inr (some (some 307))), (1, .inl (0, .ofNat 0)), (2, .inl (0, .ofNat 17))]),
    (4, none, (1, [], [], [], [], [1, 2, 3, 4, 5, 6, 7]), [(0, .inr (some (some 307))), (1, .inl (0, .ofNat 0)), (2, .inl (0, .ofNat 18))]),
    (3, none, (1, [], [], [], [], [1, 2, 3, 4, 5, 6, 7]), [(0, .inr (some (some 307))), (1, .inl (0, .ofNat 0)), (2, .inl (0, .ofNat 19))]),
    (2, none, (1, [], [], [], [], [1, 2, 3, 4, 5, 6, 7]), [(0, .inr (some (some 307))), (1, .inl (0, .ofNat 0)), (2, .inl (0, .ofNat 20))]),
    (1, none, (1, [], [], [], [], [1, 2, 3, 4, 5, 6, 7]), [(0, .inr (some (some 307))), (1, .inl (0, .ofNat 0)), (2, .inl (0, .ofNat 21))])]), none, none, none, none, none, none]]
set_option maxRecDepth 1000000 in
theorem jxb_c223_ok (hX : jc_Xo jxb X) : jc_Con jP jxb X jxb_c223 := jc_mth_ok (Z := (jxb, [], jT, [], jxb_SP, jxb_c223_N, .ofNat 100000)) (f := 100000) jxb_ok hX jT_ok jc_c0 (by decide +kernel)
-- W._settleWay0
def jxb_c224 : jc_Cn := (21, 1, [.inr (some (some 307)), .inl (0, .ofNat 0)], (2, [(1, .ofNat 1, .ofNat 5)], [(2514949, .inl (1, .ofNat 0))], [], [], [1, 2, 3, 4, 5, 6, 7]), [(321, 0, 30), (322, 0, 5), (320, 0, 35)], [((2, [(1, .ofNat 1, .ofNat 5)], [(2514949, .inl (1, .ofNat 0))], [], [], [1, 2, 3, 4, 5, 6, 7]), none)])
def jxb_c224_N : jc_Nt := [some [none, none, some ([(22, none, (2, [(1, .ofNat 1, .ofNat 5)], [(2514949, .inl (1, .ofNat 0))], [], [], [1, 2, 3, 4, 5, 6, 7]), [(0, .inr (some (some 307))), (1, .inl (0, .ofNat 0)), (2, .inl (0, .ofNat 0))]),
    (21, none, (2, [(1, .ofNat 1, .ofNat 5)], [(2514949, .inl (1, .ofNat 0))], [], [], [1, 2, 3, 4, 5, 6, 7]), [(0, .inr (some (some 307))), (1, .inl (0, .ofNat 0)), (2, .inl (0, .ofNat 1))]),
    (20, none, (2, [(1, .ofNat 1, .ofNat 5)], [(2514949, .inl (1, .ofNat 0))], [], [], [1, 2, 3, 4, 5, 6, 7]), [(0, .inr (some (some 307))), (1, .inl (0, .ofNat 0)), (2, .inl (0, .ofNat 2))]),
    (19, none, (2, [(1, .ofNat 1, .ofNat 5)], [(2514949, .inl (1, .ofNat 0))], [], [], [1, 2, 3, 4, 5, 6, 7]), [(0, .inr (some (some 307))), (1, .inl (0, .ofNat 0)), (2, .inl (0, .ofNat 3))]),
    (18, none, (2, [(1, .ofNat 1, .ofNat 5)], [(2514949, .inl (1, .ofNat 0))], [], [], [1, 2, 3, 4, 5, 6, 7]), [(0, .inr (some (some 307))), (1, .inl (0, .ofNat 0)), (2, .inl (0, .ofNat 4))]),
    (17, none, (2, [(1, .ofNat 1, .ofNat 5)], [(2514949, .inl (1, .ofNat 0))], [], [], [1, 2, 3, 4, 5, 6, 7]), [(0, .inr (some (some 307))), (1, .inl (0, .ofNat 0)), (2, .inl (0, .ofNat 5))]),
    (16, none, (2, [(1, .ofNat 1, .ofNat 5)], [(2514949, .inl (1, .ofNat 0))], [], [], [1, 2, 3, 4, 5, 6, 7]), [(0, .inr (some (some 307))), (1, .inl (0, .ofNat 0)), (2, .inl (0, .ofNat 6))])]), none, none, none, none, none, none, none, none, none, none, none, none, none],
  none,
  none,
  none,
  some [none, none, none, none, none, some ([(15, none, (2, [(1, .ofNat 1, .ofNat 5)], [(2514949, .inl (1, .ofNat 0))], [], [], [1, 2, 3, 4, 5, 6, 7]), [(0, .inr (some (some 307))), (1, .inl (0, .ofNat 0)), (2, .inl (0, .ofNat 0))]),
    (13, none, (4, [(1, .negSucc 2147483647, .ofNat 2147483647), (2, .ofNat 1, .ofNat 6), (3, .ofNat 1, .ofNat 5)], [(2514949, .inl (3, .ofNat 0))], [], [], [1, 2, 3, 4, 5, 6, 7]), [(0, .inr (some (some 307))), (1, .inl (0, .ofNat 0)), (2, .inl (0, .ofNat 1)), (3, .inl (1, .ofNat 0)), (4, .inl (2, .ofNat 0))]),
    (11, none, (4, [(1, .negSucc 2147483647, .ofNat 2147483647), (2, .ofNat 1, .ofNat 6), (3, .ofNat 1, .ofNat 5)], [(2514949, .inl (3, .ofNat 0))], [], [], [1, 2, 3, 4, 5, 6, 7]), [(0, .inr (some (some 307))), (1, .inl (0, .ofNat 0)), (2, .inl (0, .ofNat 2)), (3, .inl (1, .ofNat 0)), (4, .inl (2, .ofNat 0))]),
    (9, none, (4, [(1, .negSucc 2147483647, .ofNat 2147483647), (2, .ofNat 2, .ofNat 6), (3, .ofNat 1, .ofNat 5)], [(2514949, .inl (3, .ofNat 0))], [], [], [1, 2, 3, 4, 5, 6, 7]), [(0, .inr (some (some 307))), (1, .inl (0, .ofNat 0)), (2, .inl (0, .ofNat 3)), (3, .inl (1, .ofNat 0)), (4, .inl (2, .ofNat 0))]),
    (7, none, (4, [(1, .negSucc 2147483647, .ofNat 2147483647), (2, .ofNat 3, .ofNat 6), (3, .ofNat 1, .ofNat 5)], [(2514949, .inl (3, .ofNat 0))], [], [], [1, 2, 3, 4, 5, 6, 7]), [(0, .inr (some (some 307))), (1, .inl (0, .ofNat 0)), (2, .inl (0, .ofNat 4)), (3, .inl (1, .ofNat 0)), (4, .inl (2, .ofNat 0))]),
    (5, none, (4, [(1, .negSucc 2147483647, .ofNat 2147483647), (2, .ofNat 4, .ofNat 6), (3, .ofNat 1, .ofNat 5)], [(2514949, .inl (3, .ofNat 0))], [], [], [1, 2, 3, 4, 5, 6, 7]), [(0, .inr (some (some 307))), (1, .inl (0, .ofNat 0)), (2, .inl (0, .ofNat 5)), (3, .inl (1, .ofNat 0)), (4, .inl (2, .ofNat 0))]),
    (3, none, (4, [(1, .negSucc 2147483647, .ofNat 2147483647), (2, .ofNat 5, .ofNat 6), (3, .ofNat 1, .ofNat 5)], [(2514949, .inl (3, .ofNat 0))], [], [], [1, 2, 3, 4, 5, 6, 7]), [(0, .inr (some (some 307))), (1, .inl (0, .ofNat 0)), (2, .inl (0, .ofNat 6)), (3, .inl (1, .ofNat 0)), (4, .inl (2, .ofNat 0))]),
    (1, none, (4, [(1, .negSucc 2147483647, .ofNat 2147483647), (2, .ofNat 6, .ofNat 7), (3, .ofNat 1, .ofNat 5)], [(2514949, .inl (3, .ofNat 0))], [], [], [1, 2, 3, 4, 5, 6, 7]), [(0, .inr (some (some 307))), (1, .inl (0, .ofNat 0)), (2, .inl (0, .ofNat 7)), (3, .inl (1, .ofNat 0)), (4, .inl (2, .ofNat 0))])]), none, none, none, none, none, none, none, none, none, none],
  some [none, none, none, none, none, none, none, none, none, none, none, none, none, some ([(14, some 2, (4, [(1, .negSucc 2147483647, .ofNat 2147483647), (2, .ofNat 1, .ofNat 6), (3, .ofNat 1, .ofNat 5)], [(2514949, .inl (3, .ofNat 0))], [], [], [1, 2, 3, 4, 5, 6, 7]), [(0, .inr (some (some 307))), (1, .inl (0, .ofNat 0)), (2, .inl (0, .ofNat 0)), (3, .inl (1, .ofNat 0)), (4, .inl (2, .ofNat 0))]),
    (12, some 2, (4, [(1, .negSucc 2147483647, .ofNat 2147483647), (2, .ofNat 1, .ofNat 6), (3, .ofNat 1, .ofNat 5)], [(2514949, .inl (3, .ofNat 0))], [], [], [1, 2, 3, 4, 5, 6, 7]), [(0, .inr (some (some 307))), (1, .inl (0, .ofNat 0)), (2, .inl (0, .ofNat 1)), (3, .inl (1, .ofNat 0)), (4, .inl (2, .ofNat 0))]),
    (10, some 2, (4, [(1, .negSucc 2147483647, .ofNat 2147483647), (2, .ofNat 1, .ofNat 6), (3, .ofNat 1, .ofNat 5)], [(2514949, .inl (3, .ofNat 0))], [], [], [1, 2, 3, 4, 5, 6, 7]), [(0, .inr (some (some 307))), (1, .inl (0, .ofNat 0)), (2, .inl (0, .ofNat 2)), (3, .inl (1, .ofNat 0)), (4, .inl (2, .ofNat 0))]),
    (8, some 2, (4, [(1, .negSucc 2147483647, .ofNat 2147483647), (2, .ofNat 1, .ofNat 6), (3, .ofNat 1, .ofNat 5)], [(2514949, .inl (3, .ofNat 0))], [], [], [1, 2, 3, 4, 5, 6, 7]), [(0, .inr (some (some 307))), (1, .inl (0, .ofNat 0)), (2, .inl (0, .ofNat 3)), (3, .inl (1, .ofNat 0)), (4, .inl (2, .ofNat 0))]),
    (6, some 2, (4, [(1, .negSucc 2147483647, .ofNat 2147483647), (2, .ofNat 1, .ofNat 6), (3, .ofNat 1, .ofNat 5)], [(2514949, .inl (3, .ofNat 0))], [], [], [1, 2, 3, 4, 5, 6, 7]), [(0, .inr (some (some 307))), (1, .inl (0, .ofNat 0)), (2, .inl (0, .ofNat 4)), (3, .inl (1, .ofNat 0)), (4, .inl (2, .ofNat 0))]),
    (4, some 2, (4, [(1, .negSucc 2147483647, .ofNat 2147483647), (2, .ofNat 1, .ofNat 6), (3, .ofNat 1, .ofNat 5)], [(2514949, .inl (3, .ofNat 0))], [], [], [1, 2, 3, 4, 5, 6, 7]), [(0, .inr (some (some 307))), (1, .inl (0, .ofNat 0)), (2, .inl (0, .ofNat 5)), (3, .inl (1, .ofNat 0)), (4, .inl (2, .ofNat 0))]),
    (2, some 2, (4, [(1, .negSucc 2147483647, .ofNat 2147483647), (2, .ofNat 1, .ofNat 7), (3, .ofNat 1, .ofNat 5)], [(2514949, .inl (3, .ofNat 0))], [], [], [1, 2, 3, 4, 5, 6, 7]), [(0, .inr (some (some 307))), (1, .inl (0, .ofNat 0)), (2, .inl (0, .ofNat 6)), (3, .inl (1, .ofNat 0)), (4, .inl (2, .ofNat 0))])]), none, none]]
set_option maxRecDepth 1000000 in
theorem jxb_c224_ok (hX : jc_Xo jxb X) : jc_Con jP jxb X jxb_c224 := jc_mth_ok (Z := (jxb, [], jT, [], jxb_SP, jxb_c224_N, .ofNat 100000)) (f := 100000) jxb_ok hX jT_ok jc_c0 (by decide +kernel)
-- W._settleFit1
def jxb_c225 : jc_Cn := (20, 0, [.inr (some (some 307)), .inl (0, .ofNat 1)], (1, [], [], [], [], [1, 2, 3, 4, 5, 6, 7]), [(319, 0, 5)], [((1, [], [], [], [], [1, 2, 3, 4, 5, 6, 7]), none)])
def jxb_c225_N : jc_Nt := [some [none, none, none, none, none, none, none, none, none, some ([(22, none, (1, [], [], [], [], [1, 2, 3, 4, 5, 6, 7]), [(0, .inr (some (some 307))), (1, .inl (0, .ofNat 1)), (2, .inl (0, .ofNat 0))]),
    (21, none, (1, [], [], [], [], [1, 2, 3, 4, 5, 6, 7]), [(0, .inr (some (some 307))), (1, .inl (0, .ofNat 1)), (2, .inl (0, .ofNat 1))]),
    (20, none, (1, [], [], [], [], [1, 2, 3, 4, 5, 6, 7]), [(0, .inr (some (some 307))), (1, .inl (0, .ofNat 1)), (2, .inl (0, .ofNat 2))]),
    (19, none, (1, [], [], [], [], [1, 2, 3, 4, 5, 6, 7]), [(0, .inr (some (some 307))), (1, .inl (0, .ofNat 1)), (2, .inl (0, .ofNat 3))]),
    (18, none, (1, [], [], [], [], [1, 2, 3, 4, 5, 6, 7]), [(0, .inr (some (some 307))), (1, .inl (0, .ofNat 1)), (2, .inl (0, .ofNat 4))]),
    (17, none, (1, [], [], [], [], [1, 2, 3, 4, 5, 6, 7]), [(0, .inr (some (some 307))), (1, .inl (0, .ofNat 1)), (2, .inl (0, .ofNat 5))]),
    (16, none, (1, [], [], [], [], [1, 2, 3, 4, 5, 6, 7]), [(0, .inr (some (some 307))), (1, .inl (0, .ofNat 1)), (2, .inl (0, .ofNat 6))]),
    (15, none, (1, [], [], [], [], [1, 2, 3, 4, 5, 6, 7]), [(0, .inr (some (some 307))), (1, .inl (0, .ofNat 1)), (2, .inl (0, .ofNat 7))]),
    (14, none, (1, [], [], [], [], [1, 2, 3, 4, 5, 6, 7]), [(0, .inr (some (some 307))), (1, .inl (0, .ofNat 1)), (2, .inl (0, .ofNat 8))]),
    (13, none, (1, [], [], [], [], [1, 2, 3, 4, 5, 6, 7]), [(0, .inr (some (some 307))), (1, .inl (0, .ofNat 1)), (2, .inl (0, .ofNat 9))]),
    (12, none, (1, [], [], [], [], [1, 2, 3, 4, 5, 6, 7]), [(0, .inr (some (some 307))), (1, .inl (0, .ofNat 1)), (2, .inl (0, .ofNat 10))]),
    (11, none, (1, [], [], [], [], [1, 2, 3, 4, 5, 6, 7]), [(0, .inr (some (some 307))), (1, .inl (0, .ofNat 1)), (2, .inl (0, .ofNat 11))]),
    (10, none, (1, [], [], [], [], [1, 2, 3, 4, 5, 6, 7]), [(0, .inr (some (some 307))), (1, .inl (0, .ofNat 1)), (2, .inl (0, .ofNat 12))]),
    (9, none, (1, [], [], [], [], [1, 2, 3, 4, 5, 6, 7]), [(0, .inr (some (some 307))), (1, .inl (0, .ofNat 1)), (2, .inl (0, .ofNat 13))]),
    (8, none, (1, [], [], [], [], [1, 2, 3, 4, 5, 6, 7]), [(0, .inr (some (some 307))), (1, .inl (0, .ofNat 1)), (2, .inl (0, .ofNat 14))]),
    (7, none, (1, [], [], [], [], [1, 2, 3, 4, 5, 6, 7]), [(0, .inr (some (some 307))), (1, .inl (0, .ofNat 1)), (2, .inl (0, .ofNat 15))]),
    (6, none, (1, [], [], [], [], [1, 2, 3, 4, 5, 6, 7]), [(0, .inr (some (some 307))), (1, .inl (0, .ofNat 1)), (2, .inl (0, .ofNat 16))]),
    (5, none, (1, [], [], [], [], [1, 2, 3, 4, 5, 6, 7]), [(0, .inr (some (some 307))), (1, .inl (0, .ofNat 1)), (2, .inl (0, .ofNat 17))]),
    (4, none, (1, [], [], [], [], [1, 2, 3, 4, 5, 6, 7]), [(0, .inr (some (some 307))), (1, .inl (0, .ofNat 1)), (2, .inl (0, .ofNat 18))]),
    (3, none, (1, [], [], [], [], [1, 2, 3, 4, 5, 6, 7]), [(0, .inr (some (some 307))), (1, .inl (0, .ofNat 1)), (2, .inl (0, .ofNat 19))]),
    (2, none, (1, [], [], [], [], [1, 2, 3, 4, 5, 6, 7]), [(0, .inr (some (some 307))), (1, .inl (0, .ofNat 1)), (2, .inl (0, .ofNat 20))]),
    (1, none, (1, [], [], [], [], [1, 2, 3, 4, 5, 6, 7]), [(0, .inr (some (some 307))), (1, .inl (0, .ofNat 1)), (2, .inl (0, .ofNat 21))])]), none, none, none, none, none, none]]
set_option maxRecDepth 1000000 in
theorem jxb_c225_ok (hX : jc_Xo jxb X) : jc_Con jP jxb X jxb_c225 := jc_mth_ok (Z := (jxb, [], jT, [], jxb_SP, jxb_c225_N, .ofNat 100000)) (f := 100000) jxb_ok hX jT_ok jc_c0 (by decide +kernel)
-- W._settleWay1
def jxb_c226 : jc_Cn := (21, 1, [.inr (some (some 307)), .inl (0, .ofNat 1)], (2, [(1, .ofNat 2, .ofNat 5)], [(2514949, .inl (1, .ofNat 0))], [], [], [1, 2, 3, 4, 5, 6, 7]), [(321, 0, 30), (322, 0, 5), (320, 0, 35)], [((2, [(1, .ofNat 2, .ofNat 5)], [(2514949, .inl (1, .ofNat 0))], [], [], [1, 2, 3, 4, 5, 6, 7]), none)])
def jxb_c226_N : jc_Nt := [some [none, none, some ([(22, none, (2, [(1, .ofNat 2, .ofNat 5)], [(2514949, .inl (1, .ofNat 0))], [], [], [1, 2, 3, 4, 5, 6, 7]), [(0, .inr (some (some 307))), (1, .inl (0, .ofNat 1)), (2, .inl (0, .ofNat 0))]),
    (21, none, (2, [(1, .ofNat 2, .ofNat 5)], [(2514949, .inl (1, .ofNat 0))], [], [], [1, 2, 3, 4, 5, 6, 7]), [(0, .inr (some (some 307))), (1, .inl (0, .ofNat 1)), (2, .inl (0, .ofNat 1))]),
    (20, none, (2, [(1, .ofNat 2, .ofNat 5)], [(2514949, .inl (1, .ofNat 0))], [], [], [1, 2, 3, 4, 5, 6, 7]), [(0, .inr (some (some 307))), (1, .inl (0, .ofNat 1)), (2, .inl (0, .ofNat 2))]),
    (19, none, (2, [(1, .ofNat 2, .ofNat 5)], [(2514949, .inl (1, .ofNat 0))], [], [], [1, 2, 3, 4, 5, 6, 7]), [(0, .inr (some (some 307))), (1, .inl (0, .ofNat 1)), (2, .inl (0, .ofNat 3))]),
    (18, none, (2, [(1, .ofNat 2, .ofNat 5)], [(2514949, .inl (1, .ofNat 0))], [], [], [1, 2, 3, 4, 5, 6, 7]), [(0, .inr (some (some 307))), (1, .inl (0, .ofNat 1)), (2, .inl (0, .ofNat 4))]),
    (17, none, (2, [(1, .ofNat 2, .ofNat 5)], [(2514949, .inl (1, .ofNat 0))], [], [], [1, 2, 3, 4, 5, 6, 7]), [(0, .inr (some (some 307))), (1, .inl (0, .ofNat 1)), (2, .inl (0, .ofNat 5))]),
    (16, none, (2, [(1, .ofNat 2, .ofNat 5)], [(2514949, .inl (1, .ofNat 0))], [], [], [1, 2, 3, 4, 5, 6, 7]), [(0, .inr (some (some 307))), (1, .inl (0, .ofNat 1)), (2, .inl (0, .ofNat 6))])]), none, none, none, none, none, none, none, none, none, none, none, none, none],
  none,
  none,
  none,
  some [none, none, none, none, none, some ([(15, none, (2, [(1, .ofNat 2, .ofNat 5)], [(2514949, .inl (1, .ofNat 0))], [], [], [1, 2, 3, 4, 5, 6, 7]), [(0, .inr (some (some 307))), (1, .inl (0, .ofNat 1)), (2, .inl (0, .ofNat 0))]),
    (13, none, (4, [(1, .negSucc 2147483647, .ofNat 2147483647), (2, .ofNat 1, .ofNat 6), (3, .ofNat 2, .ofNat 5)], [(2514949, .inl (3, .ofNat 0))], [], [], [1, 2, 3, 4, 5, 6, 7]), [(0, .inr (some (some 307))), (1, .inl (0, .ofNat 1)), (2, .inl (0, .ofNat 1)), (3, .inl (1, .ofNat 0)), (4, .inl (2, .ofNat 0))]),
    (11, none, (4, [(1, .negSucc 2147483647, .ofNat 2147483647), (2, .ofNat 1, .ofNat 6), (3, .ofNat 2, .ofNat 5)], [(2514949, .inl (3, .ofNat 0))], [], [], [1, 2, 3, 4, 5, 6, 7]), [(0, .inr (some (some 307))), (1, .inl (0, .ofNat 1)), (2, .inl (0, .ofNat 2)), (3, .inl (1, .ofNat 0)), (4, .inl (2, .ofNat 0))]),
    (9, none, (4, [(1, .negSucc 2147483647, .ofNat 2147483647), (2, .ofNat 2, .ofNat 6), (3, .ofNat 2, .ofNat 5)], [(2514949, .inl (3, .ofNat 0))], [], [], [1, 2, 3, 4, 5, 6, 7]), [(0, .inr (some (some 307))), (1, .inl (0, .ofNat 1)), (2, .inl (0, .ofNat 3)), (3, .inl (1, .ofNat 0)), (4, .inl (2, .ofNat 0))]),
    (7, none, (4, [(1, .negSucc 2147483647, .ofNat 2147483647), (2, .ofNat 3, .ofNat 6), (3, .ofNat 2, .ofNat 5)], [(2514949, .inl (3, .ofNat 0))], [], [], [1, 2, 3, 4, 5, 6, 7]), [(0, .inr (some (some 307))), (1, .inl (0, .ofNat 1)), (2, .inl (0, .ofNat 4)), (3, .inl (1, .ofNat 0)), (4, .inl (2, .ofNat 0))]),
    (5, none, (4, [(1, .negSucc 2147483647, .ofNat 2147483647), (2, .ofNat 4, .ofNat 6), (3, .ofNat 2, .ofNat 5)], [(2514949, .inl (3, .ofNat 0))], [], [], [1, 2, 3, 4, 5, 6, 7]), [(0, .inr (some (some 307))), (1, .inl (0, .ofNat 1)), (2, .inl (0, .ofNat 5)), (3, .inl (1, .ofNat 0)), (4, .inl (2, .ofNat 0))]),
    (3, none, (4, [(1, .negSucc 2147483647, .ofNat 2147483647), (2, .ofNat 5, .ofNat 6), (3, .ofNat 2, .ofNat 5)], [(2514949, .inl (3, .ofNat 0))], [], [], [1, 2, 3, 4, 5, 6, 7]), [(0, .inr (some (some 307))), (1, .inl (0, .ofNat 1)), (2, .inl (0, .ofNat 6)), (3, .inl (1, .ofNat 0)), (4, .inl (2, .ofNat 0))]),
    (1, none, (4, [(1, .negSucc 2147483647, .ofNat 2147483647), (2, .ofNat 6, .ofNat 7), (3, .ofNat 2, .ofNat 5)], [(2514949, .inl (3, .ofNat 0))], [], [], [1, 2, 3, 4, 5, 6, 7]), [(0, .inr (some (some 307))), (1, .inl (0, .ofNat 1)), (2, .inl (0, .ofNat 7)), (3, .inl (1, .ofNat 0)), (4, .inl (2, .ofNat 0))])]), none, none, none, none, none, none, none, none, none, none],
  some [none, none, none, none, none, none, none, none, none, none, none, none, none, some ([(14, some 2, (4, [(1, .negSucc 2147483647, .ofNat 2147483647), (2, .ofNat 1, .ofNat 6), (3, .ofNat 2, .ofNat 5)], [(2514949, .inl (3, .ofNat 0))], [], [], [1, 2, 3, 4, 5, 6, 7]), [(0, .inr (some (some 307))), (1, .inl (0, .ofNat 1)), (2, .inl (0, .ofNat 0)), (3, .inl (1, .ofNat 0)), (4, .inl (2, .ofNat 0))]),
    (12, some 2, (4, [(1, .negSucc 2147483647, .ofNat 2147483647), (2, .ofNat 1, .ofNat 6), (3, .ofNat 2, .ofNat 5)], [(2514949, .inl (3, .ofNat 0))], [], [], [1, 2, 3, 4, 5, 6, 7]), [(0, .inr (some (some 307))), (1, .inl (0, .ofNat 1)), (2, .inl (0, .ofNat 1)), (3, .inl (1, .ofNat 0)), (4, .inl (2, .ofNat 0))]),
    (10, some 2, (4, [(1, .negSucc 2147483647, .ofNat 2147483647), (2, .ofNat 1, .ofNat 6), (3, .ofNat 2, .ofNat 5)], [(2514949, .inl (3, .ofNat 0))], [], [], [1, 2, 3, 4, 5, 6, 7]), [(0, .inr (some (some 307))), (1, .inl (0, .ofNat 1)), (2, .inl (0, .ofNat 2)), (3, .inl (1, .ofNat 0)), (4, .inl (2, .ofNat 0))]),
    (8, some 2, (4, [(1, .negSucc 2147483647, .ofNat 2147483647), (2, .ofNat 1, .ofNat 6), (3, .ofNat 2, .ofNat 5)], [(2514949, .inl (3, .ofNat 0))], [], [], [1, 2, 3, 4, 5, 6, 7]), [(0, .inr (some (some 307))), (1, .inl (0, .ofNat 1)), (2, .inl (0, .ofNat 3)), (3, .inl (1, .ofNat 0)), (4, .inl (2, .ofNat 0))]),
    (6, some 2, (4, [(1, .negSucc 2147483647, .ofNat 2147483647), (2, .ofNat 1, .ofNat 6), (3, .ofNat 2, .ofNat 5)], [(2514949, .inl (3, .ofNat 0))], [], [], [1, 2, 3, 4, 5, 6, 7]), [(0, .inr (some (some 307))), (1, .inl (0, .ofNat 1)), (2, .inl (0, .ofNat 4)), (3, .inl (1, .ofNat 0)), (4, .inl (2, .ofNat 0))]),
    (4, some 2, (4, [(1, .negSucc 2147483647, .ofNat 2147483647), (2, .ofNat 1, .ofNat 6), (3, .ofNat 2, .ofNat 5)], [(2514949, .inl (3, .ofNat 0))], [], [], [1, 2, 3, 4, 5, 6, 7]), [(0, .inr (some (some 307))), (1, .inl (0, .ofNat 1)), (2, .inl (0, .ofNat 5)), (3, .inl (1, .ofNat 0)), (4, .inl (2, .ofNat 0))]),
    (2, some 2, (4, [(1, .negSucc 2147483647, .ofNat 2147483647), (2, .ofNat 1, .ofNat 7), (3, .ofNat 2, .ofNat 5)], [(2514949, .inl (3, .ofNat 0))], [], [], [1, 2, 3, 4, 5, 6, 7]), [(0, .inr (some (some 307))), (1, .inl (0, .ofNat 1)), (2, .inl (0, .ofNat 6)), (3, .inl (1, .ofNat 0)), (4, .inl (2, .ofNat 0))])]), none, none]]
set_option maxRecDepth 1000000 in
theorem jxb_c226_ok (hX : jc_Xo jxb X) : jc_Con jP jxb X jxb_c226 := jc_mth_ok (Z := (jxb, [], jT, [], jxb_SP, jxb_c226_N, .ofNat 100000)) (f := 100000) jxb_ok hX jT_ok jc_c0 (by decide +kernel)
-- W._settleFit2
def jxb_c227 : jc_Cn := (20, 0, [.inr (some (some 307)), .inl (0, .ofNat 2)], (1, [], [], [], [], [1, 2, 3, 4, 5, 6, 7]), [(319, 0, 5)], [((1, [], [], [], [], [1, 2, 3, 4, 5, 6, 7]), none)])
def jxb_c227_N : jc_Nt := [some [none, none, none, none, none, none, none, none, none, some ([(22, none, (1, [], [], [], [], [1, 2, 3, 4, 5, 6, 7]), [(0, .inr (some (some 307))), (1, .inl (0, .ofNat 2)), (2, .inl (0, .ofNat 0))]),
    (21, none, (1, [], [], [], [], [1, 2, 3, 4, 5, 6, 7]), [(0, .inr (some (some 307))), (1, .inl (0, .ofNat 2)), (2, .inl (0, .ofNat 1))]),
    (20, none, (1, [], [], [], [], [1, 2, 3, 4, 5, 6, 7]), [(0, .inr (some (some 307))), (1, .inl (0, .ofNat 2)), (2, .inl (0, .ofNat 2))]),
    (19, none, (1, [], [], [], [], [1, 2, 3, 4, 5, 6, 7]), [(0, .inr (some (some 307))), (1, .inl (0, .ofNat 2)), (2, .inl (0, .ofNat 3))]),
    (18, none, (1, [], [], [], [], [1, 2, 3, 4, 5, 6, 7]), [(0, .inr (some (some 307))), (1, .inl (0, .ofNat 2)), (2, .inl (0, .ofNat 4))]),
    (17, none, (1, [], [], [], [], [1, 2, 3, 4, 5, 6, 7]), [(0, .inr (some (some 307))), (1, .inl (0, .ofNat 2)), (2, .inl (0, .ofNat 5))]),
    (16, none, (1, [], [], [], [], [1, 2, 3, 4, 5, 6, 7]), [(0, .inr (some (some 307))), (1, .inl (0, .ofNat 2)), (2, .inl (0, .ofNat 6))]),
    (15, none, (1, [], [], [], [], [1, 2, 3, 4, 5, 6, 7]), [(0, .inr (some (some 307))), (1, .inl (0, .ofNat 2)), (2, .inl (0, .ofNat 7))]),
    (14, none, (1, [], [], [], [], [1, 2, 3, 4, 5, 6, 7]), [(0, .inr (some (some 307))), (1, .inl (0, .ofNat 2)), (2, .inl (0, .ofNat 8))]),
    (13, none, (1, [], [], [], [], [1, 2, 3, 4, 5, 6, 7]), [(0, .inr (some (some 307))), (1, .inl (0, .ofNat 2)), (2, .inl (0, .ofNat 9))]),
    (12, none, (1, [], [], [], [], [1, 2, 3, 4, 5, 6, 7]), [(0, .inr (some (some 307))), (1, .inl (0, .ofNat 2)), (2, .inl (0, .ofNat 10))]),
    (11, none, (1, [], [], [], [], [1, 2, 3, 4, 5, 6, 7]), [(0, .inr (some (some 307))), (1, .inl (0, .ofNat 2)), (2, .inl (0, .ofNat 11))]),
    (10, none, (1, [], [], [], [], [1, 2, 3, 4, 5, 6, 7]), [(0, .inr (some (some 307))), (1, .inl (0, .ofNat 2)), (2, .inl (0, .ofNat 12))]),
    (9, none, (1, [], [], [], [], [1, 2, 3, 4, 5, 6, 7]), [(0, .inr (some (some 307))), (1, .inl (0, .ofNat 2)), (2, .inl (0, .ofNat 13))]),
    (8, none, (1, [], [], [], [], [1, 2, 3, 4, 5, 6, 7]), [(0, .inr (some (some 307))), (1, .inl (0, .ofNat 2)), (2, .inl (0, .ofNat 14))]),
    (7, none, (1, [], [], [], [], [1, 2, 3, 4, 5, 6, 7]), [(0, .inr (some (some 307))), (1, .inl (0, .ofNat 2)), (2, .inl (0, .ofNat 15))]),
    (6, none, (1, [], [], [], [], [1, 2, 3, 4, 5, 6, 7]), [(0, .inr (some (some 307))), (1, .inl (0, .ofNat 2)), (2, .inl (0, .ofNat 16))]),
    (5, none, (1, [], [], [], [], [1, 2, 3, 4, 5, 6, 7]), [(0, .inr (some (some 307))), (1, .inl (0, .ofNat 2)), (2, .inl (0, .ofNat 17))]),
    (4, none, (1, [], [], [], [], [1, 2, 3, 4, 5, 6, 7]), [(0, .inr (some (some 307))), (1, .inl (0, .ofNat 2)), (2, .inl (0, .ofNat 18))]),
    (3, none, (1, [], [], [], [], [1, 2, 3, 4, 5, 6, 7]), [(0, .inr (some (some 307))), (1, .inl (0, .ofNat 2)), (2, .inl (0, .ofNat 19))]),
    (2, none, (1, [], [], [], [], [1, 2, 3, 4, 5, 6, 7]), [(0, .inr (some (some 307))), (1, .inl (0, .ofNat 2)), (2, .inl (0, .ofNat 20))]),
    (1, none, (1, [], [], [], [], [1, 2, 3, 4, 5, 6, 7]), [(0, .inr (some (some 307))), (1, .inl (0, .ofNat 2)), (2, .inl (0, .ofNat 21))])]), none, none, none, none, none, none]]
set_option maxRecDepth 1000000 in
theorem jxb_c227_ok (hX : jc_Xo jxb X) : jc_Con jP jxb X jxb_c227 := jc_mth_ok (Z := (jxb, [], jT, [], jxb_SP, jxb_c227_N, .ofNat 100000)) (f := 100000) jxb_ok hX jT_ok jc_c0 (by decide +kernel)
-- W._settleWay2
def jxb_c228 : jc_Cn := (21, 1, [.inr (some (some 307)), .inl (0, .ofNat 2)], (2, [(1, .ofNat 3, .ofNat 5)], [(2514949, .inl (1, .ofNat 0))], [], [], [1, 2, 3, 4, 5, 6, 7]), [(321, 0, 30), (322, 0, 5), (320, 0, 35)], [((2, [(1, .ofNat 3, .ofNat 5)], [(2514949, .inl (1, .ofNat 0))], [], [], [1, 2, 3, 4, 5, 6, 7]), none)])
def jxb_c228_N : jc_Nt := [some [none, none, some ([(22, none, (2, [(1, .ofNat 3, .ofNat 5)], [(2514949, .inl (1, .ofNat 0))], [], [], [1, 2, 3, 4, 5, 6, 7]), [(0, .inr (some (some 307))), (1, .inl (0, .ofNat 2)), (2, .inl (0, .ofNat 0))]),
    (21, none, (2, [(1, .ofNat 3, .ofNat 5)], [(2514949, .inl (1, .ofNat 0))], [], [], [1, 2, 3, 4, 5, 6, 7]), [(0, .inr (some (some 307))), (1, .inl (0, .ofNat 2)), (2, .inl (0, .ofNat 1))]),
    (20, none, (2, [(1, .ofNat 3, .ofNat 5)], [(2514949, .inl (1, .ofNat 0))], [], [], [1, 2, 3, 4, 5, 6, 7]), [(0, .inr (some (some 307))), (1, .inl (0, .ofNat 2)), (2, .inl (0, .ofNat 2))]),
    (19, none, (2, [(1, .ofNat 3, .ofNat 5)], [(2514949, .inl (1, .ofNat 0))], [], [], [1, 2, 3, 4, 5, 6, 7]), [(0, .inr (some (some 307))), (1, .inl (0, .ofNat 2)), (2, .inl (0, .ofNat 3))]),
    (18, none, (2, [(1, .ofNat 3, .ofNat 5)], [(2514949, .inl (1, .ofNat 0))], [], [], [1, 2, 3, 4, 5, 6, 7]), [(0, .inr (some (some 307))), (1, .inl (0, .ofNat 2)), (2, .inl (0, .ofNat 4))]),
    (17, none, (2, [(1, .ofNat 3, .ofNat 5)], [(2514949, .inl (1, .ofNat 0))], [], [], [1, 2, 3, 4, 5, 6, 7]), [(0, .inr (some (some 307))), (1, .inl (0, .ofNat 2)), (2, .inl (0, .ofNat 5))]),
    (16, none, (2, [(1, .ofNat 3, .ofNat 5)], [(2514949, .inl (1, .ofNat 0))], [], [], [1, 2, 3, 4, 5, 6, 7]), [(0, .inr (some (some 307))), (1, .inl (0, .ofNat 2)), (2, .inl (0, .ofNat 6))])]), none, none, none, none, none, none, none, none, none, none, none, none, none],
  none,
  none,
  none,
  some [none, none, none, none, none, some ([(15, none, (2, [(1, .ofNat 3, .ofNat 5)], [(2514949, .inl (1, .ofNat 0))], [], [], [1, 2, 3, 4, 5, 6, 7]), [(0, .inr (some (some 307))), (1, .inl (0, .ofNat 2)), (2, .inl (0, .ofNat 0))]),
    (13, none, (4, [(1, .negSucc 2147483647, .ofNat 2147483647), (2, .ofNat 1, .ofNat 6), (3, .ofNat 3, .ofNat 5)], [(2514949, .inl (3, .ofNat 0))], [], [], [1, 2, 3, 4, 5, 6, 7]), [(0, .inr (some (some 307))), (1, .inl (0, .ofNat 2)), (2, .inl (0, .ofNat 1)), (3, .inl (1, .ofNat 0)), (4, .inl (2, .ofNat 0))]),
    (11, none, (4, [(1, .negSucc 2147483647, .ofNat 2147483647), (2, .ofNat 1, .ofNat 6), (3, .ofNat 3, .ofNat 5)], [(2514949, .inl (3, .ofNat 0))], [], [], [1, 2, 3, 4, 5, 6, 7]), [(0, .inr (some (some 307))), (1, .inl (0, .ofNat 2)), (2, .inl (0, .ofNat 2)), (3, .inl (1, .ofNat 0)), (4, .inl (2, .ofNat 0))]),
    (9, none, (4, [(1, .negSucc 2147483647, .ofNat 2147483647), (2, .ofNat 2, .ofNat 6), (3, .ofNat 3, .ofNat 5)], [(2514949, .inl (3, .ofNat 0))], [], [], [1, 2, 3, 4, 5, 6, 7]), [(0, .inr (some (some 307))), (1, .inl (0, .ofNat 2)), (2, .inl (0, .ofNat 3)), (3, .inl (1, .ofNat 0)), (4, .inl (2, .ofNat 0))]),
    (7, none, (4, [(1, .negSucc 2147483647, .ofNat 2147483647), (2, .ofNat 3, .ofNat 6), (3, .ofNat 3, .ofNat 5)], [(2514949, .inl (3, .ofNat 0))], [], [], [1, 2, 3, 4, 5, 6, 7]), [(0, .inr (some (some 307))), (1, .inl (0, .ofNat 2)), (2, .inl (0, .ofNat 4)), (3, .inl (1, .ofNat 0)), (4, .inl (2, .ofNat 0))]),
    (5, none, (4, [(1, .negSucc 2147483647, .ofNat 2147483647), (2, .ofNat 4, .ofNat 6), (3, .ofNat 3, .ofNat 5)], [(2514949, .inl (3, .ofNat 0))], [], [], [1, 2, 3, 4, 5, 6, 7]), [(0, .inr (some (some 307))), (1, .inl (0, .ofNat 2)), (2, .inl (0, .ofNat 5)), (3, .inl (1, .ofNat 0)), (4, .inl (2, .ofNat 0))]),
    (3, none, (4, [(1, .negSucc 2147483647, .ofNat 2147483647), (2, .ofNat 5, .ofNat 6), (3, .ofNat 3, .ofNat 5)], [(2514949, .inl (3, .ofNat 0))], [], [], [1, 2, 3, 4, 5, 6, 7]), [(0, .inr (some (some 307))), (1, .inl (0, .ofNat 2)), (2, .inl (0, .ofNat 6)), (3, .inl (1, .ofNat 0)), (4, .inl (2, .ofNat 0))]),
    (1, none, (4, [(1, .negSucc 2147483647, .ofNat 2147483647), (2, .ofNat 6, .ofNat 7), (3, .ofNat 3, .ofNat 5)], [(2514949, .inl (3, .ofNat 0))], [], [], [1, 2, 3, 4, 5, 6, 7]), [(0, .inr (some (some 307))), (1, .inl (0, .ofNat 2)), (2, .inl (0, .ofNat 7)), (3, .inl (1, .ofNat 0)), (4, .inl (2, .ofNat 0))])]), none, none, none, none, none, none, none, none, none, none],
  some [none, none, none, none, none, none, none, none, none, none, none, none, none, some ([(14, some 2, (4, [(1, .negSucc 2147483647, .ofNat 2147483647), (2, .ofNat 1, .ofNat 6), (3, .ofNat 3, .ofNat 5)], [(2514949, .inl (3, .ofNat 0))], [], [], [1, 2, 3, 4, 5, 6, 7]), [(0, .inr (some (some 307))), (1, .inl (0, .ofNat 2)), (2, .inl (0, .ofNat 0)), (3, .inl (1, .ofNat 0)), (4, .inl (2, .ofNat 0))]),
    (12, some 2, (4, [(1, .negSucc 2147483647, .ofNat 2147483647), (2, .ofNat 1, .ofNat 6), (3, .ofNat 3, .ofNat 5)], [(2514949, .inl (3, .ofNat 0))], [], [], [1, 2, 3, 4, 5, 6, 7]), [(0, .inr (some (some 307))), (1, .inl (0, .ofNat 2)), (2, .inl (0, .ofNat 1)), (3, .inl (1, .ofNat 0)), (4, .inl (2, .ofNat 0))]),
    (10, some 2, (4, [(1, .negSucc 2147483647, .ofNat 2147483647), (2, .ofNat 1, .ofNat 6), (3, .ofNat 3, .ofNat 5)], [(2514949, .inl (3, .ofNat 0))], [], [], [1, 2, 3, 4, 5, 6, 7]), [(0, .inr (some (some 307))), (1, .inl (0, .ofNat 2)), (2, .inl (0, .ofNat 2)), (3, .inl (1, .ofNat 0)), (4, .inl (2, .ofNat 0))]),
    (8, some 2, (4, [(1, .negSucc 2147483647, .ofNat 2147483647), (2, .ofNat 1, .ofNat 6), (3, .ofNat 3, .ofNat 5)], [(2514949, .inl (3, .ofNat 0))], [], [], [1, 2, 3, 4, 5, 6, 7]), [(0, .inr (some (some 307))), (1, .inl (0, .ofNat 2)), (2, .inl (0, .ofNat 3)), (3, .inl (1, .ofNat 0)), (4, .inl (2, .ofNat 0))]),
    (6, some 2, (4, [(1, .negSucc 2147483647, .ofNat 2147483647), (2, .ofNat 1, .ofNat 6), (3, .ofNat 3, .ofNat 5)], [(2514949, .inl (3, .ofNat 0))], [], [], [1, 2, 3, 4, 5, 6, 7]), [(0, .inr (some (some 307))), (1, .inl (0, .ofNat 2)), (2, .inl (0, .ofNat 4)), (3, .inl (1, .ofNat 0)), (4, .inl (2, .ofNat 0))]),
    (4, some 2, (4, [(1, .negSucc 2147483647, .ofNat 2147483647), (2, .ofNat 1, .ofNat 6), (3, .ofNat 3, .ofNat 5)], [(2514949, .inl (3, .ofNat 0))], [], [], [1, 2, 3, 4, 5, 6, 7]), [(0, .inr (some (some 307))), (1, .inl (0, .ofNat 2)), (2, .inl (0, .ofNat 5)), (3, .inl (1, .ofNat 0)), (4, .inl (2, .ofNat 0))]),
    (2, some 2, (4, [(1, .negSucc 2147483647, .ofNat 2147483647), (2, .ofNat 1, .ofNat 7), (3, .ofNat 3, .ofNat 5)], [(2514949, .inl (3, .ofNat 0))], [], [], [1, 2, 3, 4, 5, 6, 7]), [(0, .inr (some (some 307))), (1, .inl (0, .ofNat 2)), (2, .inl (0, .ofNat 6)), (3, .inl (1, .ofNat 0)), (4, .inl (2, .ofNat 0))])]), none, none]]
set_option maxRecDepth 1000000 in
theorem jxb_c228_ok (hX : jc_Xo jxb X) : jc_Con jP jxb X jxb_c228 := jc_mth_ok (Z := (jxb, [], jT, [], jxb_SP, jxb_c228_N, .ofNat 100000)) (f := 100000) jxb_ok hX jT_ok jc_c0 (by decide +kernel)
-- W._settleFit3
def jxb_c229 : jc_Cn := (20, 0, [.inr (some (some 307)), .inl (0, .ofNat 3)], (1, [], [], [], [], [1, 2, 3, 4, 5, 6, 7]), [(319, 0, 5)], [((1, [], [], [], [], [1, 2, 3, 4, 5, 6, 7]), none)])
def jxb_c229_N : jc_Nt := [some [none, none, none, none, none, none, none, none, none, some ([(22, none, (1, [], [], [], [], [1, 2, 3, 4, 5, 6, 7]), [(0, .inr (some (some 307))), (1, .inl (0, .ofNat 3)), (2, .inl (0, .ofNat 0))]),
    (21, none, (1, [], [], [], [], [1, 2, 3, 4, 5, 6, 7]), [(0, .inr (some (some 307))), (1, .inl (0, .ofNat 3)), (2, .inl (0, .ofNat 1))]),
    (20, none, (1, [], [], [], [], [1, 2, 3, 4, 5, 6, 7]), [(0, .inr (some (some 307))), (1, .inl (0, .ofNat 3)), (2, .inl (0, .ofNat 2))]),
    (19, none, (1, [], [], [], [], [1, 2, 3, 4, 5, 6, 7]), [(0, .inr (some (some 307))), (1, .inl (0, .ofNat 3)), (2, .inl (0, .ofNat 3))]),
    (18, none, (1, [], [], [], [], [1, 2, 3, 4, 5, 6, 7]), [(0, .inr (some (some 307))), (1, .inl (0, .ofNat 3)), (2, .inl (0, .ofNat 4))]),
    (17, none, (1, [], [], [], [], [1, 2, 3, 4, 5, 6, 7]), [(0, .inr (some (some 307))), (1, .inl (0, .ofNat 3)), (2, .inl (0, .ofNat 5))]),
    (16, none, (1, [], [], [], [], [1, 2, 3, 4, 5, 6, 7]), [(0, .inr (some (some 307))), (1, .inl (0, .ofNat 3)), (2, .inl (0, .ofNat 6))]),
    (15, none, (1, [], [], [], [], [1, 2, 3, 4, 5, 6, 7]), [(0, .inr (some (some 307))), (1, .inl (0, .ofNat 3)), (2, .inl (0, .ofNat 7))]),
    (14, none, (1, [], [], [], [], [1, 2, 3, 4, 5, 6, 7]), [(0, .inr (some (some 307))), (1, .inl (0, .ofNat 3)), (2, .inl (0, .ofNat 8))]),
    (13, none, (1, [], [], [], [], [1, 2, 3, 4, 5, 6, 7]), [(0, .inr (some (some 307))), (1, .inl (0, .ofNat 3)), (2, .inl (0, .ofNat 9))]),
    (12, none, (1, [], [], [], [], [1, 2, 3, 4, 5, 6, 7]), [(0, .inr (some (some 307))), (1, .inl (0, .ofNat 3)), (2, .inl (0, .ofNat 10))]),
    (11, none, (1, [], [], [], [], [1, 2, 3, 4, 5, 6, 7]), [(0, .inr (some (some 307))), (1, .inl (0, .ofNat 3)), (2, .inl (0, .ofNat 11))]),
    (10, none, (1, [], [], [], [], [1, 2, 3, 4, 5, 6, 7]), [(0, .inr (some (some 307))), (1, .inl (0, .ofNat 3)), (2, .inl (0, .ofNat 12))]),
    (9, none, (1, [], [], [], [], [1, 2, 3, 4, 5, 6, 7]), [(0, .inr (some (some 307))), (1, .inl (0, .ofNat 3)), (2, .inl (0, .ofNat 13))]),
    (8, none, (1, [], [], [], [], [1, 2, 3, 4, 5, 6, 7]), [(0, .inr (some (some 307))), (1, .inl (0, .ofNat 3)), (2, .inl (0, .ofNat 14))]),
    (7, none, (1, [], [], [], [], [1, 2, 3, 4, 5, 6, 7]), [(0, .inr (some (some 307))), (1, .inl (0, .ofNat 3)), (2, .inl (0, .ofNat 15))]),
    (6, none, (1, [], [], [], [], [1, 2, 3, 4, 5, 6, 7]), [(0, .inr (some (some 307))), (1, .inl (0, .ofNat 3)), (2, .inl (0, .ofNat 16))]),
    (5, none, (1, [], [], [], [], [1, 2, 3, 4, 5, 6, 7]), [(0, .inr (some (some 307))), (1, .inl (0, .ofNat 3)), (2, .inl (0, .ofNat 17))]),
    (4, none, (1, [], [], [], [], [1, 2, 3, 4, 5, 6, 7]), [(0, .inr (some (some 307))), (1, .inl (0, .ofNat 3)), (2, .inl (0, .ofNat 18))]),
    (3, none, (1, [], [], [], [], [1, 2, 3, 4, 5, 6, 7]), [(0, .inr (some (some 307))), (1, .inl (0, .ofNat 3)), (2, .inl (0, .ofNat 19))]),
    (2, none, (1, [], [], [], [], [1, 2, 3, 4, 5, 6, 7]), [(0, .inr (some (some 307))), (1, .inl (0, .ofNat 3)), (2, .inl (0, .ofNat 20))]),
    (1, none, (1, [], [], [], [], [1, 2, 3, 4, 5, 6, 7]), [(0, .inr (some (some 307))), (1, .inl (0, .ofNat 3)), (2, .inl (0, .ofNat 21))])]), none, none, none, none, none, none]]
set_option maxRecDepth 1000000 in
theorem jxb_c229_ok (hX : jc_Xo jxb X) : jc_Con jP jxb X jxb_c229 := jc_mth_ok (Z := (jxb, [], jT, [], jxb_SP, jxb_c229_N, .ofNat 100000)) (f := 100000) jxb_ok hX jT_ok jc_c0 (by decide +kernel)
-- W._settleWay3
def jxb_c230 : jc_Cn := (21, 1, [.inr (some (some 307)), .inl (0, .ofNat 3)], (2, [(1, .ofNat 4, .ofNat 5)], [(2514949, .inl (1, .ofNat 0))], [], [], [1, 2, 3, 4, 5, 6, 7]), [(321, 0, 30), (322, 0, 5), (320, 0, 35)], [((2, [(1, .ofNat 4, .ofNat 5)], [(2514949, .inl (1, .ofNat 0))], [], [], [1, 2, 3, 4, 5, 6, 7]), none)])
def jxb_c230_N : jc_Nt := [some [none, none, some ([(22, none, (2, [(1, .ofNat 4, .ofNat 5)], [(2514949, .inl (1, .ofNat 0))], [], [], [1, 2, 3, 4, 5, 6, 7]), [(0, .inr (some (some 307))), (1, .inl (0, .ofNat 3)), (2, .inl (0, .ofNat 0))]),
    (21, none, (2, [(1, .ofNat 4, .ofNat 5)], [(2514949, .inl (1, .ofNat 0))], [], [], [1, 2, 3, 4, 5, 6, 7]), [(0, .inr (some (some 307))), (1, .inl (0, .ofNat 3)), (2, .inl (0, .ofNat 1))]),
    (20, none, (2, [(1, .ofNat 4, .ofNat 5)], [(2514949, .inl (1, .ofNat 0))], [], [], [1, 2, 3, 4, 5, 6, 7]), [(0, .inr (some (some 307))), (1, .inl (0, .ofNat 3)), (2, .inl (0, .ofNat 2))]),
    (19, none, (2, [(1, .ofNat 4, .ofNat 5)], [(2514949, .inl (1, .ofNat 0))], [], [], [1, 2, 3, 4, 5, 6, 7]), [(0, .inr (some (some 307))), (1, .inl (0, .ofNat 3)), (2, .inl (0, .ofNat 3))]),
    (18, none, (2, [(1, .ofNat 4, .ofNat 5)], [(2514949, .inl (1, .ofNat 0))], [], [], [1, 2, 3, 4, 5, 6, 7]), [(0, .inr (some (some 307))), (1, .inl (0, .ofNat 3)), (2, .inl (0, .ofNat 4))]),
    (17, none, (2, [(1, .ofNat 4, .ofNat 5)], [(2514949, .inl (1, .ofNat 0))], [], [], [1, 2, 3, 4, 5, 6, 7]), [(0, .inr (some (some 307))), (1, .inl (0, .ofNat 3)), (2, .inl (0, .ofNat 5))]),
    (16, none, (2, [(1, .ofNat 4, .ofNat 5)], [(2514949, .inl (1, .ofNat 0))], [], [], [1, 2, 3, 4, 5, 6, 7]), [(0, .inr (some (some 307))), (1, .inl (0, .ofNat 3)), (2, .inl (0, .ofNat 6))])]), none, none, none, none, none, none, none, none, none, none, none, none, none],
  none,
  none,
  none,
  some [none, none, none, none, none, some ([(15, none, (2, [(1, .ofNat 4, .ofNat 5)], [(2514949, .inl (1, .ofNat 0))], [], [], [1, 2, 3, 4, 5, 6, 7]), [(0, .inr (some (some 307))), (1, .inl (0, .ofNat 3)), (2, .inl (0, .ofNat 0))]),
    (13, none, (4, [(1, .negSucc 2147483647, .ofNat 2147483647), (2, .ofNat 1, .ofNat 6), (3, .ofNat 4, .ofNat 5)], [(2514949, .inl (3, .ofNat 0))], [], [], [1, 2, 3, 4, 5, 6, 7]), [(0, .inr (some (some 307))), (1, .inl (0, .ofNat 3)), (2, .inl (0, .ofNat 1)), (3, .inl (1, .ofNat 0)), (4, .inl (2, .ofNat 0))]),
    (11, none, (4, [(1, .negSucc 2147483647, .ofNat 2147483647), (2, .ofNat 1, .ofNat 6), (3, .ofNat 4, .ofNat 5)], [(2514949, .inl (3, .ofNat 0))], [], [], [1, 2, 3, 4, 5, 6, 7]), [(0, .inr (some (some 307))), (1, .inl (0, .ofNat 3)), (2, .inl (0, .ofNat 2)), (3, .inl (1, .ofNat 0)), (4, .inl (2, .ofNat 0))]),
    (9, none, (4, [(1, .negSucc 2147483647, .ofNat 2147483647), (2, .ofNat 2, .ofNat 6), (3, .ofNat 4, .ofNat 5)], [(2514949, .inl (3, .ofNat 0))], [], [], [1, 2, 3, 4, 5, 6, 7]), [(0, .inr (some (some 307))), (1, .inl (0, .ofNat 3)), (2, .inl (0, .ofNat 3)), (3, .inl (1, .ofNat 0)), (4, .inl (2, .ofNat 0))]),
    (7, none, (4, [(1, .negSucc 2147483647, .ofNat 2147483647), (2, .ofNat 3, .ofNat 6), (3, .ofNat 4, .ofNat 5)], [(2514949, .inl (3, .ofNat 0))], [], [], [1, 2, 3, 4, 5, 6, 7]), [(0, .inr (some (some 307))), (1, .inl (0, .ofNat 3)), (2, .inl (0, .ofNat 4)), (3, .inl (1, .ofNat 0)), (4, .inl (2, .ofNat 0))]),
    (5, none, (4, [(1, .negSucc 2147483647, .ofNat 2147483647), (2, .ofNat 4, .ofNat 6), (3, .ofNat 4, .ofNat 5)], [(2514949, .inl (3, .ofNat 0))], [], [], [1, 2, 3, 4, 5, 6, 7]), [(0, .inr (some (some 307))), (1, .inl (0, .ofNat 3)), (2, .inl (0, .ofNat 5)), (3, .inl (1, .ofNat 0)), (4, .inl (2, .ofNat 0))]),
    (3, none, (4, [(1, .negSucc 2147483647, .ofNat 2147483647), (2, .ofNat 5, .ofNat 6), (3, .ofNat 4, .ofNat 5)], [(2514949, .inl (3, .ofNat 0))], [], [], [1, 2, 3, 4, 5, 6, 7]), [(0, .inr (some (some 307))), (1, .inl (0, .ofNat 3)), (2, .inl (0, .ofNat 6)), (3, .inl (1, .ofNat 0)), (4, .inl (2, .ofNat 0))]),
    (1, none, (4, [(1, .negSucc 2147483647, .ofNat 2147483647), (2, .ofNat 6, .ofNat 7), (3, .ofNat 4, .ofNat 5)], [(2514949, .inl (3, .ofNat 0))], [], [], [1, 2, 3, 4, 5, 6, 7]), [(0, .inr (some (some 307))), (1, .inl (0, .ofNat 3)), (2, .inl (0, .ofNat 7)), (3, .inl (1, .ofNat 0)), (4, .inl (2, .ofNat 0))])]), none, none, none, none, none, none, none, none, none, none],
  some [none, none, none, none, none, none, none, none, none, none, none, none, none, some ([(14, some 2, (4, [(1, .negSucc 2147483647, .ofNat 2147483647), (2, .ofNat 1, .ofNat 6), (3, .ofNat 4, .ofNat 5)], [(2514949, .inl (3, .ofNat 0))], [], [], [1, 2, 3, 4, 5, 6, 7]), [(0, .inr (some (some 307))), (1, .inl (0, .ofNat 3)), (2, .inl (0, .ofNat 0)), (3, .inl (1, .ofNat 0)), (4, .inl (2, .ofNat 0))]),
    (12, some 2, (4, [(1, .negSucc 2147483647, .ofNat 2147483647), (2, .ofNat 1, .ofNat 6), (3, .ofNat 4, .ofNat 5)], [(2514949, .inl (3, .ofNat 0))], [], [], [1, 2, 3, 4, 5, 6, 7]), [(0, .inr (some (some 307))), (1, .inl (0, .ofNat 3)), (2, .inl (0, .ofNat 1)), (3, .inl (1, .ofNat 0)), (4, .inl (2, .ofNat 0))]),
    (10, some 2, (4, [(1, .negSucc 2147483647, .ofNat 2147483647), (2, .ofNat 1, .ofNat 6), (3, .ofNat 4, .ofNat 5)], [(2514949, .inl (3, .ofNat 0))], [], [], [1, 2, 3, 4, 5, 6, 7]), [(0, .inr (some (some 307))), (1, .inl (0, .ofNat 3)), (2, .inl (0, .ofNat 2)), (3, .inl (1, .ofNat 0)), (4, .inl (2, .ofNat 0))]),
    (8, some 2, (4, [(1, .negSucc 2147483647, .ofNat 2147483647), (2, .ofNat 1, .ofNat 6), (3, .ofNat 4, .ofNat 5)], [(2514949, .inl (3, .ofNat 0))], [], [], [1, 2, 3, 4, 5, 6, 7]), [(0, .inr (some (some 307))), (1, .inl (0, .ofNat 3)), (2, .inl (0, .ofNat 3)), (3, .inl (1, .ofNat 0)), (4, .inl (2, .ofNat 0))]),
    (6, some 2, (4, [(1, .negSucc 2147483647, .ofNat 2147483647), (2, .ofNat 1, .ofNat 6), (3, .ofNat 4, .ofNat 5)], [(2514949, .inl (3, .ofNat 0))], [], [], [1, 2, 3, 4, 5, 6, 7]), [(0, .inr (some (some 307))), (1, .inl (0, .ofNat 3)), (2, .inl (0, .ofNat 4)), (3, .inl (1, .ofNat 0)), (4, .inl (2, .ofNat 0))]),
    (4, some 2, (4, [(1, .negSucc 2147483647, .ofNat 2147483647), (2, .ofNat 1, .ofNat 6), (3, .ofNat 4, .ofNat 5)], [(2514949, .inl (3, .ofNat 0))], [], [], [1, 2, 3, 4, 5, 6, 7]), [(0, .inr (some (some 307))), (1, .inl (0, .ofNat 3)), (2, .inl (0, .ofNat 5)), (3, .inl (1, .ofNat 0)), (4, .inl (2, .ofNat 0))]),
    (2, some 2, (4, [(1, .negSucc 2147483647, .ofNat 2147483647), (2, .ofNat 1, .ofNat 7), (3, .ofNat 4, .ofNat 5)], [(2514949, .inl (3, .ofNat 0))], [], [], [1, 2, 3, 4, 5, 6, 7]), [(0, .inr (some (some 307))), (1, .inl (0, .ofNat 3)), (2, .inl (0, .ofNat 6)), (3, .inl (1, .ofNat 0)), (4, .inl (2, .ofNat 0))])]), none, none]]
set_option maxRecDepth 1000000 in
theorem jxb_c230_ok (hX : jc_Xo jxb X) : jc_Con jP jxb X jxb_c230 := jc_mth_ok (Z := (jxb, [], jT, [], jxb_SP, jxb_c230_N, .ofNat 100000)) (f := 100000) jxb_ok hX jT_ok jc_c0 (by decide +kernel)
-- W._settleFit4
def jxb_c231 : jc_Cn := (20, 0, [.inr (some (some 307)), .inl (0, .ofNat 4)], (1, [], [], [], [], [1, 2, 3, 4, 5, 6, 7]), [(319, 0, 5)], [((1, [], [], [], [], [1, 2, 3, 4, 5, 6, 7]), none)])
def jxb_c231_N : jc_Nt := [some [none, none, none, none, none, none, none, none, none, some ([(22, none, (1, [], [], [], [], [1, 2, 3, 4, 5, 6, 7]), [(0, .inr (some (some 307))), (1, .inl (0, .ofNat 4)), (2, .inl (0, .ofNat 0))]),
    (21, none, (1, [], [], [], [], [1, 2, 3, 4, 5, 6, 7]), [(0, .inr (some (some 307))), (1, .inl (0, .ofNat 4)), (2, .inl (0, .ofNat 1))]),
    (20, none, (1, [], [], [], [], [1, 2, 3, 4, 5, 6, 7]), [(0, .inr (some (some 307))), (1, .inl (0, .ofNat 4)), (2, .inl (0, .ofNat 2))]),
    (19, none, (1, [], [], [], [], [1, 2, 3, 4, 5, 6, 7]), [(0, .inr (some (some 307))), (1, .inl (0, .ofNat 4)), (2, .inl (0, .ofNat 3))]),
    (18, none, (1, [], [], [], [], [1, 2, 3, 4, 5, 6, 7]), [(0, .inr (some (some 307))), (1, .inl (0, .ofNat 4)), (2, .inl (0, .ofNat 4))]),
    (17, none, (1, [], [], [], [], [1, 2, 3, 4, 5, 6, 7]), [(0, .inr (some (some 307))), (1, .inl (0, .ofNat 4)), (2, .inl (0, .ofNat 5))]),
    (16, none, (1, [], [], [], [], [1, 2, 3, 4, 5, 6, 7]), [(0, .inr (some (some 307))), (1, .inl (0, .ofNat 4)), (2, .inl (0, .ofNat 6))]),
    (15, none, (1, [], [], [], [], [1, 2, 3, 4, 5, 6, 7]), [(0, .inr (some (some 307))), (1, .inl (0, .ofNat 4)), (2, .inl (0, .ofNat 7))]),
    (14, none, (1, [], [], [], [], [1, 2, 3, 4, 5, 6, 7]), [(0, .inr (some (some 307))), (1, .inl (0, .ofNat 4)), (2, .inl (0, .ofNat 8))]),
    (13, none, (1, [], [], [], [], [1, 2, 3, 4, 5, 6, 7]), [(0, .inr (some (some 307))), (1, .inl (0, .ofNat 4)), (2, .inl (0, .ofNat 9))]),
    (12, none, (1, [], [], [], [], [1, 2, 3, 4, 5, 6, 7]), [(0, .inr (some (some 307))), (1, .inl (0, .ofNat 4)), (2, .inl (0, .ofNat 10))]),
    (11, none, (1, [], [], [], [], [1, 2, 3, 4, 5, 6, 7]), [(0, .inr (some (some 307))), (1, .inl (0, .ofNat 4)), (2, .inl (0, .ofNat 11))]),
    (10, none, (1, [], [], [], [], [1, 2, 3, 4, 5, 6, 7]), [(0, .inr (some (some 307))), (1, .inl (0, .ofNat 4)), (2, .inl (0, .ofNat 12))]),
    (9, none, (1, [], [], [], [], [1, 2, 3, 4, 5, 6, 7]), [(0, .inr (some (some 307))), (1, .inl (0, .ofNat 4)), (2, .inl (0, .ofNat 13))]),
    (8, none, (1, [], [], [], [], [1, 2, 3, 4, 5, 6, 7]), [(0, .inr (some (some 307))), (1, .inl (0, .ofNat 4)), (2, .inl (0, .ofNat 14))]),
    (7, none, (1, [], [], [], [], [1, 2, 3, 4, 5, 6, 7]), [(0, .inr (some (some 307))), (1, .inl (0, .ofNat 4)), (2, .inl (0, .ofNat 15))]),
    (6, none, (1, [], [], [], [], [1, 2, 3, 4, 5, 6, 7]), [(0, .inr (some (some 307))), (1, .inl (0, .ofNat 4)), (2, .inl (0, .ofNat 16))]),
    (5, none, (1, [], [], [], [], [1, 2, 3, 4, 5, 6, 7]), [(0, .inr (some (some 307))), (1, .inl (0, .ofNat 4)), (2, .inl (0, .ofNat 17))]),
    (4, none, (1, [], [], [], [], [1, 2, 3, 4, 5, 6, 7]), [(0, .inr (some (some 307))), (1, .inl (0, .ofNat 4)), (2, .inl (0, .ofNat 18))]),
    (3, none, (1, [], [], [], [], [1, 2, 3, 4, 5, 6, 7]), [(0, .inr (some (some 307))), (1, .inl (0, .ofNat 4)), (2, .inl (0, .ofNat 19))]),
    (2, none, (1, [], [], [], [], [1, 2, 3, 4, 5, 6, 7]), [(0, .inr (some (some 307))), (1, .inl (0, .ofNat 4)), (2, .inl (0, .ofNat 20))]),
    (1, none, (1, [], [], [], [], [1, 2, 3, 4, 5, 6, 7]), [(0, .inr (some (some 307))), (1, .inl (0, .ofNat 4)), (2, .inl (0, .ofNat 21))])]), none, none, none, none, none, none]]
set_option maxRecDepth 1000000 in
theorem jxb_c231_ok (hX : jc_Xo jxb X) : jc_Con jP jxb X jxb_c231 := jc_mth_ok (Z := (jxb, [], jT, [], jxb_SP, jxb_c231_N, .ofNat 100000)) (f := 100000) jxb_ok hX jT_ok jc_c0 (by decide +kernel)
-- W._settleWay4
def jxb_c232 : jc_Cn := (21, 1, [.inr (some (some 307)), .inl (0, .ofNat 4)], (2, [(1, .ofNat 5, .ofNat 5)], [(2514949, .inl (1, .ofNat 0))], [], [], [1, 2, 3, 4, 5, 6, 7]), [(321, 0, 30), (322, 0, 5), (320, 0, 35)], [((1, [], [(2514949, .inl (0, .ofNat 5))], [], [], [1, 2, 3, 4, 5, 6, 7]), none)])
def jxb_c232_N : jc_Nt := [some [none, none, some ([(22, none, (1, [], [(2514949, .inl (0, .ofNat 5))], [], [], [1, 2, 3, 4, 5, 6, 7]), [(0, .inr (some (some 307))), (1, .inl (0, .ofNat 4)), (2, .inl (0, .ofNat 0))]),
    (21, none, (1, [], [(2514949, .inl (0, .ofNat 5))], [], [], [1, 2, 3, 4, 5, 6, 7]), [(0, .inr (some (some 307))), (1, .inl (0, .ofNat 4)), (2, .inl (0, .ofNat 1))]),
    (20, none, (1, [], [(2514949, .inl (0, .ofNat 5))], [], [], [1, 2, 3, 4, 5, 6, 7]), [(0, .inr (some (some 307))), (1, .inl (0, .ofNat 4)), (2, .inl (0, .ofNat 2))]),
    (19, none, (1, [], [(2514949, .inl (0, .ofNat 5))], [], [], [1, 2, 3, 4, 5, 6, 7]), [(0, .inr (some (some 307))), (1, .inl (0, .ofNat 4)), (2, .inl (0, .ofNat 3))]),
    (18, none, (1, [], [(2514949, .inl (0, .ofNat 5))], [], [], [1, 2, 3, 4, 5, 6, 7]), [(0, .inr (some (some 307))), (1, .inl (0, .ofNat 4)), (2, .inl (0, .ofNat 4))]),
    (17, none, (1, [], [(2514949, .inl (0, .ofNat 5))], [], [], [1, 2, 3, 4, 5, 6, 7]), [(0, .inr (some (some 307))), (1, .inl (0, .ofNat 4)), (2, .inl (0, .ofNat 5))]),
    (16, none, (1, [], [(2514949, .inl (0, .ofNat 5))], [], [], [1, 2, 3, 4, 5, 6, 7]), [(0, .inr (some (some 307))), (1, .inl (0, .ofNat 4)), (2, .inl (0, .ofNat 6))])]), none, none, none, none, none, none, none, none, none, none, none, none, none],
  none,
  none,
  none,
  some [none, none, none, none, none, some ([(15, none, (1, [], [(2514949, .inl (0, .ofNat 5))], [], [], [1, 2, 3, 4, 5, 6, 7]), [(0, .inr (some (some 307))), (1, .inl (0, .ofNat 4)), (2, .inl (0, .ofNat 0))]),
    (13, none, (3, [(1, .negSucc 2147483647, .ofNat 2147483647), (2, .ofNat 1, .ofNat 6)], [(2514949, .inl (0, .ofNat 5))], [], [], [1, 2, 3, 4, 5, 6, 7]), [(0, .inr (some (some 307))), (1, .inl (0, .ofNat 4)), (2, .inl (0, .ofNat 1)), (3, .inl (1, .ofNat 0)), (4, .inl (2, .ofNat 0))]),
    (11, none, (3, [(1, .negSucc 2147483647, .ofNat 2147483647), (2, .ofNat 1, .ofNat 6)], [(2514949, .inl (0, .ofNat 5))], [], [], [1, 2, 3, 4, 5, 6, 7]), [(0, .inr (some (some 307))), (1, .inl (0, .ofNat 4)), (2, .inl (0, .ofNat 2)), (3, .inl (1, .ofNat 0)), (4, .inl (2, .ofNat 0))]),
    (9, none, (3, [(1, .negSucc 2147483647, .ofNat 2147483647), (2, .ofNat 2, .ofNat 6)], [(2514949, .inl (0, .ofNat 5))], [], [], [1, 2, 3, 4, 5, 6, 7]), [(0, .inr (some (some 307))), (1, .inl (0, .ofNat 4)), (2, .inl (0, .ofNat 3)), (3, .inl (1, .ofNat 0)), (4, .inl (2, .ofNat 0))]),
    (7, none, (3, [(1, .negSucc 2147483647, .ofNat 2147483647), (2, .ofNat 3, .ofNat 6)], [(2514949, .inl (0, .ofNat 5))], [], [], [1, 2, 3, 4, 5, 6, 7]), [(0, .inr (some (some 307))), (1, .inl (0, .ofNat 4)), (2, .inl (0, .ofNat 4)), (3, .inl (1, .ofNat 0)), (4, .inl (2, .ofNat 0))]),
    (5, none, (3, [(1, .negSucc 2147483647, .ofNat 2147483647), (2, .ofNat 4, .ofNat 6)], [(2514949, .inl (0, .ofNat 5))], [], [], [1, 2, 3, 4, 5, 6, 7]), [(0, .inr (some (some 307))), (1, .inl (0, .ofNat 4)), (2, .inl (0, .ofNat 5)), (3, .inl (1, .ofNat 0)), (4, .inl (2, .ofNat 0))]),
    (3, none, (3, [(1, .negSucc 2147483647, .ofNat 2147483647), (2, .ofNat 5, .ofNat 6)], [(2514949, .inl (0, .ofNat 5))], [], [], [1, 2, 3, 4, 5, 6, 7]), [(0, .inr (some (some 307))), (1, .inl (0, .ofNat 4)), (2, .inl (0, .ofNat 6)), (3, .inl (1, .ofNat 0)), (4, .inl (2, .ofNat 0))]),
    (1, none, (3, [(1, .negSucc 2147483647, .ofNat 2147483647), (2, .ofNat 6, .ofNat 7)], [(2514949, .inl (0, .ofNat 5))], [], [], [1, 2, 3, 4, 5, 6, 7]), [(0, .inr (some (some 307))), (1, .inl (0, .ofNat 4)), (2, .inl (0, .ofNat 7)), (3, .inl (1, .ofNat 0)), (4, .inl (2, .ofNat 0))])]), none, none, none, none, none, none, none, none, none, none],
  some [none, none, none, none, none, none, none, none, none, none, none, none, none, some ([(14, some 2, (3, [(1, .negSucc 2147483647, .ofNat 2147483647), (2, .ofNat 1, .ofNat 6)], [(2514949, .inl (0, .ofNat 5))], [], [], [1, 2, 3, 4, 5, 6, 7]), [(0, .inr (some (some 307))), (1, .inl (0, .ofNat 4)), (2, .inl (0, .ofNat 0)), (3, .inl (1, .ofNat 0)), (4, .inl (2, .ofNat 0))]),
    (12, some 2, (3, [(1, .negSucc 2147483647, .ofNat 2147483647), (2, .ofNat 1, .ofNat 6)], [(2514949, .inl (0, .ofNat 5))], [], [], [1, 2, 3, 4, 5, 6, 7]), [(0, .inr (some (some 307))), (1, .inl (0, .ofNat 4)), (2, .inl (0, .ofNat 1)), (3, .inl (1, .ofNat 0)), (4, .inl (2, .ofNat 0))]),
    (10, some 2, (3, [(1, .negSucc 2147483647, .ofNat 2147483647), (2, .ofNat 1, .ofNat 6)], [(2514949, .inl (0, .ofNat 5))], [], [], [1, 2, 3, 4, 5, 6, 7]), [(0, .inr (some (some 307))), (1, .inl (0, .ofNat 4)), (2, .inl (0, .ofNat 2)), (3, .inl (1, .ofNat 0)), (4, .inl (2, .ofNat 0))]),
    (8, some 2, (3, [(1, .negSucc 2147483647, .ofNat 2147483647), (2, .ofNat 1, .ofNat 6)], [(2514949, .inl (0, .ofNat 5))], [], [], [1, 2, 3, 4, 5, 6, 7]), [(0, .inr (some (some 307))), (1, .inl (0, .ofNat 4)), (2, .inl (0, .ofNat 3)), (3, .inl (1, .ofNat 0)), (4, .inl (2, .ofNat 0))]),
    (6, some 2, (3, [(1, .negSucc 2147483647, .ofNat 2147483647), (2, .ofNat 1, .ofNat 6)], [(2514949, .inl (0, .ofNat 5))], [], [], [1, 2, 3, 4, 5, 6, 7]), [(0, .inr (some (some 307))), (1, .inl (0, .ofNat 4)), (2, .inl (0, .ofNat 4)), (3, .inl (1, .ofNat 0)), (4, .inl (2, .ofNat 0))]),
    (4, some 2, (3, [(1, .negSucc 2147483647, .ofNat 2147483647), (2, .ofNat 1, .ofNat 6)], [(2514949, .inl (0, .ofNat 5))], [], [], [1, 2, 3, 4, 5, 6, 7]), [(0, .inr (some (some 307))), (1, .inl (0, .ofNat 4)), (2, .inl (0, .ofNat 5)), (3, .inl (1, .ofNat 0)), (4, .inl (2, .ofNat 0))]),
    (2, some 2, (3, [(1, .negSucc 2147483647, .ofNat 2147483647), (2, .ofNat 1, .ofNat 7)], [(2514949, .inl (0, .ofNat 5))], [], [], [1, 2, 3, 4, 5, 6, 7]), [(0, .inr (some (some 307))), (1, .inl (0, .ofNat 4)), (2, .inl (0, .ofNat 6)), (3, .inl (1, .ofNat 0)), (4, .inl (2, .ofNat 0))])]), none, none]]
set_option maxRecDepth 1000000 in
theorem jxb_c232_ok (hX : jc_Xo jxb X) : jc_Con jP jxb X jxb_c232 := jc_mth_ok (Z := (jxb, [], jT, [], jxb_SP, jxb_c232_N, .ofNat 100000)) (f := 100000) jxb_ok hX jT_ok jc_c0 (by decide +kernel)
end Jjxb14

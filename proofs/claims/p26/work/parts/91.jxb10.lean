/-! contracts of the class, told in B (10); written by wip/jc/e4.py -/
section Jjxb10
variable {X : J_H → Prop}
-- trial.W.nextDue
def jxb_c150 : jc_Cn := (94, 0, [.inr (some (some 282)), .inl (1, .ofNat 0)], (2, [(1, .negSucc 2147483647, .ofNat 2147483647)], [(2310144, .inr (some (some 307)))], [], [], [1, 2, 3, 4, 5, 6, 7]), [], [((2, [(1, .negSucc 2147483647, .ofNat 2147483647)], [(2310144, .inr (some (some 307)))], [], [], [1, 2, 3, 4, 5, 6, 7]), some (.inl (1, .ofNat 0)))])
def jxb_c150_N : jc_Nt := [some [none, none, none, none, some ([(6, none, (3, [(1, .negSucc 2147483647, .ofNat 2147483647), (2, .negSucc 2147483647, .ofNat 2147483647)], [(2310144, .inr (some (some 307)))], [], [], [1, 2, 3, 4, 5, 6, 7]), [(0, .inr (some (some 282))), (1, .inl (1, .ofNat 0)), (2, .inl (2, .ofNat 0)), (3, .inl (0, .ofNat 0))]),
    (5, none, (3, [(1, .negSucc 2147483647, .ofNat 2147483647), (2, .negSucc 2147483647, .ofNat 2147483647)], [(2310144, .inr (some (some 307)))], [], [], [1, 2, 3, 4, 5, 6, 7]), [(0, .inr (some (some 282))), (1, .inl (1, .ofNat 0)), (2, .inl (2, .ofNat 0)), (3, .inl (0, .ofNat 1))]),
    (4, none, (3, [(1, .negSucc 2147483647, .ofNat 2147483647), (2, .negSucc 2147483647, .ofNat 2147483647)], [(2310144, .inr (some (some 307)))], [], [], [1, 2, 3, 4, 5, 6, 7]), [(0, .inr (some (some 282))), (1, .inl (1, .ofNat 0)), (2, .inl (2, .ofNat 0)), (3, .inl (0, .ofNat 2))]),
    (3, none, (3, [(1, .negSucc 2147483647, .ofNat 2147483647), (2, .negSucc 2147483647, .ofNat 2147483647)], [(2310144, .inr (some (some 307)))], [], [], [1, 2, 3, 4, 5, 6, 7]), [(0, .inr (some (some 282))), (1, .inl (1, .ofNat 0)), (2, .inl (2, .ofNat 0)), (3, .inl (0, .ofNat 3))]),
    (2, none, (3, [(1, .negSucc 2147483647, .ofNat 2147483647), (2, .negSucc 2147483647, .ofNat 2147483647)], [(2310144, .inr (some (some 307)))], [], [], [1, 2, 3, 4, 5, 6, 7]), [(0, .inr (some (some 282))), (1, .inl (1, .ofNat 0)), (2, .inl (2, .ofNat 0)), (3, .inl (0, .ofNat 4))]),
    (1, none, (3, [(1, .negSucc 2147483647, .ofNat 2147483647), (2, .negSucc 2147483647, .ofNat 2147483647)], [(2310144, .inr (some (some 307)))], [], [], [1, 2, 3, 4, 5, 6, 7]), [(0, .inr (some (some 282))), (1, .inl (1, .ofNat 0)), (2, .inl (2, .ofNat 0)), (3, .inl (0, .ofNat 5))])]), none, none, none, none, none, none, none, none, none, none, none]]
set_option maxRecDepth 1000000 in
theorem jxb_c150_ok (hX : jc_Xo jxb X) : jc_Con jP jxb X jxb_c150 := jc_mth_ok (Z := (jxb, [], jT, [], jxb_SP, jxb_c150_N, .ofNat 100000)) (f := 100000) jxb_ok hX jT_ok jc_c0 (by decide +kernel)
-- trial.W.isKept
def jxb_c151 : jc_Cn := (89, 1, [.inr (some (some 282)), .inl (1, .ofNat 0)], (2, [(1, .ofNat 0, .ofNat 4)], [(2310144, .inr (some (some 307)))], [], [], [1, 2, 3, 4, 5, 6, 7]), [], [((2, [(1, .ofNat 0, .ofNat 1)], [(2310144, .inr (some (some 307)))], [], [], [1, 2, 3, 4, 5, 6, 7]), some (.inl (1, .ofNat 0)))])
def jxb_c151_N : jc_Nt := [some [none, none, some ([(5, none, (2, [(1, .ofNat 0, .ofNat 4)], [(2310144, .inr (some (some 307)))], [], [], [1, 2, 3, 4, 5, 6, 7]), [(0, .inr (some (some 282))), (1, .inl (1, .ofNat 0)), (2, .inl (0, .ofNat 0))]),
    (4, none, (2, [(1, .ofNat 0, .ofNat 4)], [(2310144, .inr (some (some 307)))], [], [], [1, 2, 3, 4, 5, 6, 7]), [(0, .inr (some (some 282))), (1, .inl (1, .ofNat 0)), (2, .inl (0, .ofNat 1))]),
    (3, none, (2, [(1, .ofNat 0, .ofNat 4)], [(2310144, .inr (some (some 307)))], [], [], [1, 2, 3, 4, 5, 6, 7]), [(0, .inr (some (some 282))), (1, .inl (1, .ofNat 0)), (2, .inl (0, .ofNat 2))]),
    (2, none, (2, [(1, .ofNat 0, .ofNat 4)], [(2310144, .inr (some (some 307)))], [], [], [1, 2, 3, 4, 5, 6, 7]), [(0, .inr (some (some 282))), (1, .inl (1, .ofNat 0)), (2, .inl (0, .ofNat 3))]),
    (1, none, (2, [(1, .ofNat 0, .ofNat 4)], [(2310144, .inr (some (some 307)))], [], [], [1, 2, 3, 4, 5, 6, 7]), [(0, .inr (some (some 282))), (1, .inl (1, .ofNat 0)), (2, .inl (0, .ofNat 4))])]), none, none, none, none, none, none, none, none, none, none, none, none, none]]
set_option maxRecDepth 1000000 in
theorem jxb_c151_ok (hX : jc_Xo jxb X) : jc_Con jP jxb X jxb_c151 := jc_mth_ok (Z := (jxb, [], jT, [], jxb_SP, jxb_c151_N, .ofNat 100000)) (f := 100000) jxb_ok hX jT_ok jc_c0 (by decide +kernel)
-- trial.W.targetO0
def jxb_c152 : jc_Cn := (85, 1, [.inr (some (some 282)), .inl (0, .ofNat 0)], (2, [(1, .ofNat 1, .ofNat 5)], [(2310144, .inr (some (some 307))), (2334720, .inl (0, .ofNat 0)), (2514949, .inl (1, .ofNat 0))], [], [], [1, 2, 3, 4, 6, 7]), [], [((3, [(1, .negSucc 0, .ofNat 20), (2, .ofNat 1, .ofNat 5)], [(2310144, .inr (some (some 307))), (2334720, .inl (0, .ofNat 0)), (2514949, .inl (2, .ofNat 0))], [], [], [1, 2, 3, 4, 6, 7]), some (.inl (1, .ofNat 0)))])
def jxb_c152_N : jc_Nt := []
set_option maxRecDepth 1000000 in
theorem jxb_c152_ok (hX : jc_Xo jxb X) : jc_Con jP jxb X jxb_c152 := jc_mth_ok (Z := (jxb, [], jT, [jxb_c148], jxb_SP, jxb_c152_N, .ofNat 100000)) (f := 100000) jxb_ok hX jT_ok (jc_c1 (jxb_c148_ok hX) jc_c0) (by decide +kernel)
-- trial.W.targetI0
def jxb_c153 : jc_Cn := (85, 1, [.inr (some (some 282)), .inl (0, .ofNat 0)], (2, [(1, .ofNat 1, .ofNat 5)], [(2310144, .inr (some (some 307))), (2334720, .inl (0, .ofNat 1)), (2514949, .inl (1, .ofNat 0))], [], [], [1, 2, 3, 4, 6, 7]), [], [((3, [(1, .negSucc 1, .ofNat 21), (2, .ofNat 1, .ofNat 5)], [(2310144, .inr (some (some 307))), (2334720, .inl (0, .ofNat 1)), (2514949, .inl (2, .ofNat 0))], [], [], [1, 2, 3, 4, 6, 7]), some (.inl (1, .ofNat 0)))])
def jxb_c153_N : jc_Nt := []
set_option maxRecDepth 1000000 in
theorem jxb_c153_ok (hX : jc_Xo jxb X) : jc_Con jP jxb X jxb_c153 := jc_mth_ok (Z := (jxb, [], jT, [jxb_c148], jxb_SP, jxb_c153_N, .ofNat 100000)) (f := 100000) jxb_ok hX jT_ok (jc_c1 (jxb_c148_ok hX) jc_c0) (by decide +kernel)
-- trial.W.targetB0
def jxb_c154 : jc_Cn := (85, 1, [.inr (some (some 282)), .inl (0, .ofNat 0)], (3, [(1, .ofNat 1, .ofNat 5), (2, .ofNat 0, .ofNat 1)], [(2310144, .inr (some (some 307))), (2334720, .inl (2, .ofNat 0)), (2514949, .inl (1, .ofNat 0))], [], [], [1, 2, 3, 4, 6, 7]), [], [((4, [(1, .negSucc 1, .ofNat 21), (2, .ofNat 0, .ofNat 1), (3, .ofNat 1, .ofNat 5)], [(2310144, .inr (some (some 307))), (2334720, .inl (2, .ofNat 0)), (2514949, .inl (3, .ofNat 0))], [], [], [1, 2, 3, 4, 6, 7]), some (.inl (1, .ofNat 0)))])
def jxb_c154_N : jc_Nt := []
set_option maxRecDepth 1000000 in
theorem jxb_c154_ok (hX : jc_Xo jxb X) : jc_Con jP jxb X jxb_c154 := jc_mth_ok (Z := (jxb, [], jT, [jxb_c148], jxb_SP, jxb_c154_N, .ofNat 100000)) (f := 100000) jxb_ok hX jT_ok (jc_c1 (jxb_c148_ok hX) jc_c0) (by decide +kernel)
-- trial.W.targetO1
def jxb_c155 : jc_Cn := (85, 1, [.inr (some (some 282)), .inl (0, .ofNat 1)], (2, [(1, .ofNat 2, .ofNat 5)], [(2310144, .inr (some (some 307))), (2334721, .inl (0, .ofNat 0)), (2514949, .inl (1, .ofNat 0))], [], [], [1, 2, 3, 4, 6, 7]), [], [((3, [(1, .negSucc 0, .ofNat 20), (2, .ofNat 2, .ofNat 5)], [(2310144, .inr (some (some 307))), (2334721, .inl (0, .ofNat 0)), (2514949, .inl (2, .ofNat 0))], [], [], [1, 2, 3, 4, 6, 7]), some (.inl (1, .ofNat 0)))])
def jxb_c155_N : jc_Nt := []
set_option maxRecDepth 1000000 in
theorem jxb_c155_ok (hX : jc_Xo jxb X) : jc_Con jP jxb X jxb_c155 := jc_mth_ok (Z := (jxb, [], jT, [jxb_c148], jxb_SP, jxb_c155_N, .ofNat 100000)) (f := 100000) jxb_ok hX jT_ok (jc_c1 (jxb_c148_ok hX) jc_c0) (by decide +kernel)
-- trial.W.targetI1
def jxb_c156 : jc_Cn := (85, 1, [.inr (some (some 282)), .inl (0, .ofNat 1)], (2, [(1, .ofNat 2, .ofNat 5)], [(2310144, .inr (some (some 307))), (2334721, .inl (0, .ofNat 1)), (2514949, .inl (1, .ofNat 0))], [], [], [1, 2, 3, 4, 6, 7]), [], [((3, [(1, .negSucc 1, .ofNat 21), (2, .ofNat 2, .ofNat 5)], [(2310144, .inr (some (some 307))), (2334721, .inl (0, .ofNat 1)), (2514949, .inl (2, .ofNat 0))], [], [], [1, 2, 3, 4, 6, 7]), some (.inl (1, .ofNat 0)))])
def jxb_c156_N : jc_Nt := []
set_option maxRecDepth 1000000 in
theorem jxb_c156_ok (hX : jc_Xo jxb X) : jc_Con jP jxb X jxb_c156 := jc_mth_ok (Z := (jxb, [], jT, [jxb_c148], jxb_SP, jxb_c156_N, .ofNat 100000)) (f := 100000) jxb_ok hX jT_ok (jc_c1 (jxb_c148_ok hX) jc_c0) (by decide +kernel)
-- trial.W.targetB1
def jxb_c157 : jc_Cn := (85, 1, [.inr (some (some 282)), .inl (0, .ofNat 1)], (3, [(1, .ofNat 2, .ofNat 5), (2, .ofNat 0, .ofNat 1)], [(2310144, .inr (some (some 307))), (2334721, .inl (2, .ofNat 0)), (2514949, .inl (1, .ofNat 0))], [], [], [1, 2, 3, 4, 6, 7]), [], [((4, [(1, .negSucc 1, .ofNat 21), (2, .ofNat 0, .ofNat 1), (3, .ofNat 2, .ofNat 5)], [(2310144, .inr (some (some 307))), (2334721, .inl (2, .ofNat 0)), (2514949, .inl (3, .ofNat 0))], [], [], [1, 2, 3, 4, 6, 7]), some (.inl (1, .ofNat 0)))])
def jxb_c157_N : jc_Nt := []
set_option maxRecDepth 1000000 in
theorem jxb_c157_ok (hX : jc_Xo jxb X) : jc_Con jP jxb X jxb_c157 := jc_mth_ok (Z := (jxb, [], jT, [jxb_c148], jxb_SP, jxb_c157_N, .ofNat 100000)) (f := 100000) jxb_ok hX jT_ok (jc_c1 (jxb_c148_ok hX) jc_c0) (by decide +kernel)
-- trial.W.targetO2
def jxb_c158 : jc_Cn := (85, 1, [.inr (some (some 282)), .inl (0, .ofNat 2)], (2, [(1, .ofNat 3, .ofNat 5)], [(2310144, .inr (some (some 307))), (2334722, .inl (0, .ofNat 0)), (2514949, .inl (1, .ofNat 0))], [], [], [1, 2, 3, 4, 6, 7]), [], [((3, [(1, .negSucc 0, .ofNat 20), (2, .ofNat 3, .ofNat 5)], [(2310144, .inr (some (some 307))), (2334722, .inl (0, .ofNat 0)), (2514949, .inl (2, .ofNat 0))], [], [], [1, 2, 3, 4, 6, 7]), some (.inl (1, .ofNat 0)))])
def jxb_c158_N : jc_Nt := []
set_option maxRecDepth 1000000 in
theorem jxb_c158_ok (hX : jc_Xo jxb X) : jc_Con jP jxb X jxb_c158 := jc_mth_ok (Z := (jxb, [], jT, [jxb_c148], jxb_SP, jxb_c158_N, .ofNat 100000)) (f := 100000) jxb_ok hX jT_ok (jc_c1 (jxb_c148_ok hX) jc_c0) (by decide +kernel)
-- trial.W.targetI2
def jxb_c159 : jc_Cn := (85, 1, [.inr (some (some 282)), .inl (0, .ofNat 2)], (2, [(1, .ofNat 3, .ofNat 5)], [(2310144, .inr (some (some 307))), (2334722, .inl (0, .ofNat 1)), (2514949, .inl (1, .ofNat 0))], [], [], [1, 2, 3, 4, 6, 7]), [], [((3, [(1, .negSucc 1, .ofNat 21), (2, .ofNat 3, .ofNat 5)], [(2310144, .inr (some (some 307))), (2334722, .inl (0, .ofNat 1)), (2514949, .inl (2, .ofNat 0))], [], [], [1, 2, 3, 4, 6, 7]), some (.inl (1, .ofNat 0)))])
def jxb_c159_N : jc_Nt := []
set_option maxRecDepth 1000000 in
theorem jxb_c159_ok (hX : jc_Xo jxb X) : jc_Con jP jxb X jxb_c159 := jc_mth_ok (Z := (jxb, [], jT, [jxb_c148], jxb_SP, jxb_c159_N, .ofNat 100000)) (f := 100000) jxb_ok hX jT_ok (jc_c1 (jxb_c148_ok hX) jc_c0) (by decide +kernel)
-- trial.W.targetB2
def jxb_c160 : jc_Cn := (85, 1, [.inr (some (some 282)), .inl (0, .ofNat 2)], (3, [(1, .ofNat 3, .ofNat 5), (2, .ofNat 0, .ofNat 1)], [(2310144, .inr (some (some 307))), (2334722, .inl (2, .ofNat 0)), (2514949, .inl (1, .ofNat 0))], [], [], [1, 2, 3, 4, 6, 7]), [], [((4, [(1, .negSucc 1, .ofNat 21), (2, .ofNat 0, .ofNat 1), (3, .ofNat 3, .ofNat 5)], [(2310144, .inr (some (some 307))), (2334722, .inl (2, .ofNat 0)), (2514949, .inl (3, .ofNat 0))], [], [], [1, 2, 3, 4, 6, 7]), some (.inl (1, .ofNat 0)))])
def jxb_c160_N : jc_Nt := []
set_option maxRecDepth 1000000 in
theorem jxb_c160_ok (hX : jc_Xo jxb X) : jc_Con jP jxb X jxb_c160 := jc_mth_ok (Z := (jxb, [], jT, [jxb_c148], jxb_SP, jxb_c160_N, .ofNat 100000)) (f := 100000) jxb_ok hX jT_ok (jc_c1 (jxb_c148_ok hX) jc_c0) (by decide +kernel)
-- trial.W.targetO3
def jxb_c161 : jc_Cn := (85, 1, [.inr (some (some 282)), .inl (0, .ofNat 3)], (2, [(1, .ofNat 4, .ofNat 5)], [(2310144, .inr (some (some 307))), (2334723, .inl (0, .ofNat 0)), (2514949, .inl (1, .ofNat 0))], [], [], [1, 2, 3, 4, 6, 7]), [], [((3, [(1, .negSucc 0, .ofNat 20), (2, .ofNat 4, .ofNat 5)], [(2310144, .inr (some (some 307))), (2334723, .inl (0, .ofNat 0)), (2514949, .inl (2, .ofNat 0))], [], [], [1, 2, 3, 4, 6, 7]), some (.inl (1, .ofNat 0)))])
def jxb_c161_N : jc_Nt := []
set_option maxRecDepth 1000000 in
theorem jxb_c161_ok (hX : jc_Xo jxb X) : jc_Con jP jxb X jxb_c161 := jc_mth_ok (Z := (jxb, [], jT, [jxb_c148], jxb_SP, jxb_c161_N, .ofNat 100000)) (f := 100000) jxb_ok hX jT_ok (jc_c1 (jxb_c148_ok hX) jc_c0) (by decide +kernel)
-- trial.W.targetI3
def jxb_c162 : jc_Cn := (85, 1, [.inr (some (some 282)), .inl (0, .ofNat 3)], (2, [(1, .ofNat 4, .ofNat 5)], [(2310144, .inr (some (some 307))), (2334723, .inl (0, .ofNat 1)), (2514949, .inl (1, .ofNat 0))], [], [], [1, 2, 3, 4, 6, 7]), [], [((3, [(1, .negSucc 1, .ofNat 21), (2, .ofNat 4, .ofNat 5)], [(2310144, .inr (some (some 307))), (2334723, .inl (0, .ofNat 1)), (2514949, .inl (2, .ofNat 0))], [], [], [1, 2, 3, 4, 6, 7]), some (.inl (1, .ofNat 0)))])
def jxb_c162_N : jc_Nt := []
set_option maxRecDepth 1000000 in
theorem jxb_c162_ok (hX : jc_Xo jxb X) : jc_Con jP jxb X jxb_c162 := jc_mth_ok (Z := (jxb, [], jT, [jxb_c148], jxb_SP, jxb_c162_N, .ofNat 100000)) (f := 100000) jxb_ok hX jT_ok (jc_c1 (jxb_c148_ok hX) jc_c0) (by decide +kernel)
-- trial.W.targetB3
def jxb_c163 : jc_Cn := (85, 1, [.inr (some (some 282)), .inl (0, .ofNat 3)], (3, [(1, .ofNat 4, .ofNat 5), (2, .ofNat 0, .ofNat 1)], [(2310144, .inr (some (some 307))), (2334723, .inl (2, .ofNat 0)), (2514949, .inl (1, .ofNat 0))], [], [], [1, 2, 3, 4, 6, 7]), [], [((4, [(1, .negSucc 1, .ofNat 21), (2, .ofNat 0, .ofNat 1), (3, .ofNat 4, .ofNat 5)], [(2310144, .inr (some (some 307))), (2334723, .inl (2, .ofNat 0)), (2514949, .inl (3, .ofNat 0))], [], [], [1, 2, 3, 4, 6, 7]), some (.inl (1, .ofNat 0)))])
def jxb_c163_N : jc_Nt := []
set_option maxRecDepth 1000000 in
theorem jxb_c163_ok (hX : jc_Xo jxb X) : jc_Con jP jxb X jxb_c163 := jc_mth_ok (Z := (jxb, [], jT, [jxb_c148], jxb_SP, jxb_c163_N, .ofNat 100000)) (f := 100000) jxb_ok hX jT_ok (jc_c1 (jxb_c148_ok hX) jc_c0) (by decide +kernel)
-- trial.W.targetO4
def jxb_c164 : jc_Cn := (85, 1, [.inr (some (some 282)), .inl (0, .ofNat 4)], (2, [(1, .ofNat 5, .ofNat 5)], [(2310144, .inr (some (some 307))), (2334724, .inl (0, .ofNat 0)), (2514949, .inl (1, .ofNat 0))], [], [], [1, 2, 3, 4, 6, 7]), [], [((2, [(1, .negSucc 0, .ofNat 20)], [(2310144, .inr (some (some 307))), (2334724, .inl (0, .ofNat 0)), (2514949, .inl (0, .ofNat 5))], [], [], [1, 2, 3, 4, 6, 7]), some (.inl (1, .ofNat 0)))])
def jxb_c164_N : jc_Nt := []
set_option maxRecDepth 1000000 in
theorem jxb_c164_ok (hX : jc_Xo jxb X) : jc_Con jP jxb X jxb_c164 := jc_mth_ok (Z := (jxb, [], jT, [jxb_c148], jxb_SP, jxb_c164_N, .ofNat 100000)) (f := 100000) jxb_ok hX jT_ok (jc_c1 (jxb_c148_ok hX) jc_c0) (by decide +kernel)
-- trial.W.targetI4
def jxb_c165 : jc_Cn := (85, 1, [.inr (some (some 282)), .inl (0, .ofNat 4)], (2, [(1, .ofNat 5, .ofNat 5)], [(2310144, .inr (some (some 307))), (2334724, .inl (0, .ofNat 1)), (2514949, .inl (1, .ofNat 0))], [], [], [1, 2, 3, 4, 6, 7]), [], [((2, [(1, .negSucc 1, .ofNat 21)], [(2310144, .inr (some (some 307))), (2334724, .inl (0, .ofNat 1)), (2514949, .inl (0, .ofNat 5))], [], [], [1, 2, 3, 4, 6, 7]), some (.inl (1, .ofNat 0)))])
def jxb_c165_N : jc_Nt := []
set_option maxRecDepth 1000000 in
theorem jxb_c165_ok (hX : jc_Xo jxb X) : jc_Con jP jxb X jxb_c165 := jc_mth_ok (Z := (jxb, [], jT, [jxb_c148], jxb_SP, jxb_c165_N, .ofNat 100000)) (f := 100000) jxb_ok hX jT_ok (jc_c1 (jxb_c148_ok hX) jc_c0) (by decide +kernel)
-- trial.W.targetB4
def jxb_c166 : jc_Cn := (85, 1, [.inr (some (some 282)), .inl (0, .ofNat 4)], (3, [(1, .ofNat 5, .ofNat 5), (2, .ofNat 0, .ofNat 1)], [(2310144, .inr (some (some 307))), (2334724, .inl (2, .ofNat 0)), (2514949, .inl (1, .ofNat 0))], [], [], [1, 2, 3, 4, 6, 7]), [], [((3, [(1, .negSucc 1, .ofNat 21), (2, .ofNat 0, .ofNat 1)], [(2310144, .inr (some (some 307))), (2334724, .inl (2, .ofNat 0)), (2514949, .inl (0, .ofNat 5))], [], [], [1, 2, 3, 4, 6, 7]), some (.inl (1, .ofNat 0)))])
def jxb_c166_N : jc_Nt := []
set_option maxRecDepth 1000000 in
theorem jxb_c166_ok (hX : jc_Xo jxb X) : jc_Con jP jxb X jxb_c166 := jc_mth_ok (Z := (jxb, [], jT, [jxb_c148], jxb_SP, jxb_c166_N, .ofNat 100000)) (f := 100000) jxb_ok hX jT_ok (jc_c1 (jxb_c148_ok hX) jc_c0) (by decide +kernel)
-- trial.W.waitsFor0
def jxb_c167 : jc_Cn := (81, 3, [.inr (some (some 282)), .inl (0, .ofNat 0)], (2, [(1, .ofNat 1, .ofNat 5)], [(2310144, .inr (some (some 307))), (2514949, .inl (1, .ofNat 0))], [], [], [1, 2, 3, 4, 6, 7]), [], [((3, [(1, .negSucc 2147483647, .ofNat 2147483647), (2, .ofNat 1, .ofNat 5)], [(2310144, .inr (some (some 307))), (2514949, .inl (2, .ofNat 0))], [], [], [1, 2, 3, 4, 6, 7]), some (.inl (1, .ofNat 0)))])
def jxb_c167_N : jc_Nt := [none,
  none,
  none,
  none,
  some [none, none, none, none, none, some ([(6, none, (3, [(1, .negSucc 2147483647, .ofNat 2147483647), (2, .ofNat 1, .ofNat 5)], [(2310144, .inr (some (some 307))), (2514949, .inl (2, .ofNat 0))], [], [], [1, 2, 3, 4, 6, 7]), [(0, .inr (some (some 282))), (1, .inl (0, .ofNat 0)), (2, .inl (0, .negSucc 0)), (3, .inl (1, .ofNat 0)), (4, .inl (0, .ofNat 0)), (5, .inl (0, .ofNat 0))]),
    (5, none, (4, [(1, .negSucc 2147483647, .ofNat 2147483647), (2, .ofNat 0, .ofNat 1), (3, .ofNat 1, .ofNat 5)], [(2310144, .inr (some (some 307))), (2514949, .inl (3, .ofNat 0))], [], [], [1, 2, 3, 4, 6, 7]), [(0, .inr (some (some 282))), (1, .inl (0, .ofNat 0)), (2, .inl (0, .negSucc 0)), (3, .inl (1, .ofNat 0)), (4, .inl (2, .ofNat 0)), (5, .inl (0, .ofNat 1))]),
    (4, none, (4, [(1, .negSucc 2147483647, .ofNat 2147483647), (2, .ofNat 0, .ofNat 127), (3, .ofNat 2, .ofNat 5)], [(2310144, .inr (some (some 307))), (2514949, .inl (3, .ofNat 0))], [], [], [1, 2, 3, 4, 6, 7]), [(0, .inr (some (some 282))), (1, .inl (0, .ofNat 0)), (2, .inl (0, .negSucc 0)), (3, .inl (1, .ofNat 0)), (4, .inl (2, .ofNat 0)), (5, .inl (0, .ofNat 2))]),
    (3, none, (4, [(1, .negSucc 2147483647, .ofNat 2147483647), (2, .ofNat 0, .ofNat 127), (3, .ofNat 3, .ofNat 5)], [(2310144, .inr (some (some 307))), (2514949, .inl (3, .ofNat 0))], [], [], [1, 2, 3, 4, 6, 7]), [(0, .inr (some (some 282))), (1, .inl (0, .ofNat 0)), (2, .inl (0, .negSucc 0)), (3, .inl (1, .ofNat 0)), (4, .inl (2, .ofNat 0)), (5, .inl (0, .ofNat 3))]),
    (2, none, (4, [(1, .negSucc 2147483647, .ofNat 2147483647), (2, .ofNat 0, .ofNat 127), (3, .ofNat 4, .ofNat 5)], [(2310144, .inr (some (some 307))), (2514949, .inl (3, .ofNat 0))], [], [], [1, 2, 3, 4, 6, 7]), [(0, .inr (some (some 282))), (1, .inl (0, .ofNat 0)), (2, .inl (0, .negSucc 0)), (3, .inl (1, .ofNat 0)), (4, .inl (2, .ofNat 0)), (5, .inl (0, .ofNat 4))]),
    (1, none, (3, [(1, .negSucc 2147483647, .ofNat 2147483647), (2, .ofNat 0, .ofNat 127)], [(2310144, .inr (some (some 307))), (2514949, .inl (0, .ofNat 5))], [], [], [1, 2, 3, 4, 6, 7]), [(0, .inr (some (some 282))), (1, .inl (0, .ofNat 0)), (2, .inl (0, .negSucc 0)), (3, .inl (1, .ofNat 0)), (4, .inl (2, .ofNat 0)), (5, .inl (0, .ofNat 5))])]), none, none, none, none, none, none, none, none, none, none]]
set_option maxRecDepth 1000000 in
theorem jxb_c167_ok (hX : jc_Xo jxb X) : jc_Con jP jxb X jxb_c167 := jc_mth_ok (Z := (jxb, [], jT, [jxb_c153], jxb_SP, jxb_c167_N, .ofNat 100000)) (f := 100000) jxb_ok hX jT_ok (jc_c1 (jxb_c153_ok hX) jc_c0) (by decide +kernel)
-- trial.W.waitsFor1
def jxb_c168 : jc_Cn := (81, 3, [.inr (some (some 282)), .inl (0, .ofNat 1)], (2, [(1, .ofNat 2, .ofNat 5)], [(2310144, .inr (some (some 307))), (2514949, .inl (1, .ofNat 0))], [], [], [1, 2, 3, 4, 6, 7]), [], [((3, [(1, .negSucc 2147483647, .ofNat 2147483647), (2, .ofNat 2, .ofNat 5)], [(2310144, .inr (some (some 307))), (2514949, .inl (2, .ofNat 0))], [], [], [1, 2, 3, 4, 6, 7]), some (.inl (1, .ofNat 0)))])
def jxb_c168_N : jc_Nt := [none,
  none,
  none,
  none,
  some [none, none, none, none, none, some ([(6, none, (3, [(1, .negSucc 2147483647, .ofNat 2147483647), (2, .ofNat 2, .ofNat 5)], [(2310144, .inr (some (some 307))), (2514949, .inl (2, .ofNat 0))], [], [], [1, 2, 3, 4, 6, 7]), [(0, .inr (some (some 282))), (1, .inl (0, .ofNat 1)), (2, .inl (0, .negSucc 0)), (3, .inl (1, .ofNat 0)), (4, .inl (0, .ofNat 0)), (5, .inl (0, .ofNat 0))]),
    (5, none, (4, [(1, .negSucc 2147483647, .ofNat 2147483647), (2, .ofNat 0, .ofNat 1), (3, .ofNat 2, .ofNat 5)], [(2310144, .inr (some (some 307))), (2514949, .inl (3, .ofNat 0))], [], [], [1, 2, 3, 4, 6, 7]), [(0, .inr (some (some 282))), (1, .inl (0, .ofNat 1)), (2, .inl (0, .negSucc 0)), (3, .inl (1, .ofNat 0)), (4, .inl (2, .ofNat 0)), (5, .inl (0, .ofNat 1))]),
    (4, none, (4, [(1, .negSucc 2147483647, .ofNat 2147483647), (2, .ofNat 0, .ofNat 127), (3, .ofNat 2, .ofNat 5)], [(2310144, .inr (some (some 307))), (2514949, .inl (3, .ofNat 0))], [], [], [1, 2, 3, 4, 6, 7]), [(0, .inr (some (some 282))), (1, .inl (0, .ofNat 1)), (2, .inl (0, .negSucc 0)), (3, .inl (1, .ofNat 0)), (4, .inl (2, .ofNat 0)), (5, .inl (0, .ofNat 2))]),
    (3, none, (4, [(1, .negSucc 2147483647, .ofNat 2147483647), (2, .ofNat 0, .ofNat 127), (3, .ofNat 3, .ofNat 5)], [(2310144, .inr (some (some 307))), (2514949, .inl (3, .ofNat 0))], [], [], [1, 2, 3, 4, 6, 7]), [(0, .inr (some (some 282))), (1, .inl (0, .ofNat 1)), (2, .inl (0, .negSucc 0)), (3, .inl (1, .ofNat 0)), (4, .inl (2, .ofNat 0)), (5, .inl (0, .ofNat 3))]),
    (2, none, (4, [(1, .negSucc 2147483647, .ofNat 2147483647), (2, .ofNat 0, .ofNat 127), (3, .ofNat 4, .ofNat 5)], [(2310144, .inr (some (some 307))), (2514949, .inl (3, .ofNat 0))], [], [], [1, 2, 3, 4, 6, 7]), [(0, .inr (some (some 282))), (1, .inl (0, .ofNat 1)), (2, .inl (0, .negSucc 0)), (3, .inl (1, .ofNat 0)), (4, .inl (2, .ofNat 0)), (5, .inl (0, .ofNat 4))]),
    (1, none, (3, [(1, .negSucc 2147483647, .ofNat 2147483647), (2, .ofNat 0, .ofNat 127)], [(2310144, .inr (some (some 307))), (2514949, .inl (0, .ofNat 5))], [], [], [1, 2, 3, 4, 6, 7]), [(0, .inr (some (some 282))), (1, .inl (0, .ofNat 1)), (2, .inl (0, .negSucc 0)), (3, .inl (1, .ofNat 0)), (4, .inl (2, .ofNat 0)), (5, .inl (0, .ofNat 5))])]), none, none, none, none, none, none, none, none, none, none]]
set_option maxRecDepth 1000000 in
theorem jxb_c168_ok (hX : jc_Xo jxb X) : jc_Con jP jxb X jxb_c168 := jc_mth_ok (Z := (jxb, [], jT, [jxb_c156], jxb_SP, jxb_c168_N, .ofNat 100000)) (f := 100000) jxb_ok hX jT_ok (jc_c1 (jxb_c156_ok hX) jc_c0) (by decide +kernel)
-- trial.W.waitsFor2
def jxb_c169 : jc_Cn := (81, 3, [.inr (some (some 282)), .inl (0, .ofNat 2)], (2, [(1, .ofNat 3, .ofNat 5)], [(2310144, .inr (some (some 307))), (2514949, .inl (1, .ofNat 0))], [], [], [1, 2, 3, 4, 6, 7]), [], [((3, [(1, .negSucc 2147483647, .ofNat 2147483647), (2, .ofNat 3, .ofNat 5)], [(2310144, .inr (some (some 307))), (2514949, .inl (2, .ofNat 0))], [], [], [1, 2, 3, 4, 6, 7]), some (.inl (1, .ofNat 0)))])
def jxb_c169_N : jc_Nt := [none,
  none,
  none,
  none,
  some [none, none, none, none, none, some ([(6, none, (3, [(1, .negSucc 2147483647, .ofNat 2147483647), (2, .ofNat 3, .ofNat 5)], [(2310144, .inr (some (some 307))), (2514949, .inl (2, .ofNat 0))], [], [], [1, 2, 3, 4, 6, 7]), [(0, .inr (some (some 282))), (1, .inl (0, .ofNat 2)), (2, .inl (0, .negSucc 0)), (3, .inl (1, .ofNat 0)), (4, .inl (0, .ofNat 0)), (5, .inl (0, .ofNat 0))]),
    (5, none, (4, [(1, .negSucc 2147483647, .ofNat 2147483647), (2, .ofNat 0, .ofNat 1), (3, .ofNat 3, .ofNat 5)], [(2310144, .inr (some (some 307))), (2514949, .inl (3, .ofNat 0))], [], [], [1, 2, 3, 4, 6, 7]), [(0, .inr (some (some 282))), (1, .inl (0, .ofNat 2)), (2, .inl (0, .negSucc 0)), (3, .inl (1, .ofNat 0)), (4, .inl (2, .ofNat 0)), (5, .inl (0, .ofNat 1))]),
    (4, none, (4, [(1, .negSucc 2147483647, .ofNat 2147483647), (2, .ofNat 0, .ofNat 127), (3, .ofNat 3, .ofNat 5)], [(2310144, .inr (some (some 307))), (2514949, .inl (3, .ofNat 0))], [], [], [1, 2, 3, 4, 6, 7]), [(0, .inr (some (some 282))), (1, .inl (0, .ofNat 2)), (2, .inl (0, .negSucc 0)), (3, .inl (1, .ofNat 0)), (4, .inl (2, .ofNat 0)), (5, .inl (0, .ofNat 2))]),
    (3, none, (4, [(1, .negSucc 2147483647, .ofNat 2147483647), (2, .ofNat 0, .ofNat 127), (3, .ofNat 3, .ofNat 5)], [(2310144, .inr (some (some 307))), (2514949, .inl (3, .ofNat 0))], [], [], [1, 2, 3, 4, 6, 7]), [(0, .inr (some (some 282))), (1, .inl (0, .ofNat 2)), (2, .inl (0, .negSucc 0)), (3, .inl (1, .ofNat 0)), (4, .inl (2, .ofNat 0)), (5, .inl (0, .ofNat 3))]),
    (2, none, (4, [(1, .negSucc 2147483647, .ofNat 2147483647), (2, .ofNat 0, .ofNat 127), (3, .ofNat 4, .ofNat 5)], [(2310144, .inr (some (some 307))), (2514949, .inl (3, .ofNat 0))], [], [], [1, 2, 3, 4, 6, 7]), [(0, .inr (some (some 282))), (1, .inl (0, .ofNat 2)), (2, .inl (0, .negSucc 0)), (3, .inl (1, .ofNat 0)), (4, .inl (2, .ofNat 0)), (5, .inl (0, .ofNat 4))]),
    (1, none, (3, [(1, .negSucc 2147483647, .ofNat 2147483647), (2, .ofNat 0, .ofNat 127)], [(2310144, .inr (some (some 307))), (2514949, .inl (0, .ofNat 5))], [], [], [1, 2, 3, 4, 6, 7]), [(0, .inr (some (some 282))), (1, .inl (0, .ofNat 2)), (2, .inl (0, .negSucc 0)), (3, .inl (1, .ofNat 0)), (4, .inl (2, .ofNat 0)), (5, .inl (0, .ofNat 5))])]), none, none, none, none, none, none, none, none, none, none]]
set_option maxRecDepth 1000000 in
theorem jxb_c169_ok (hX : jc_Xo jxb X) : jc_Con jP jxb X jxb_c169 := jc_mth_ok (Z := (jxb, [], jT, [jxb_c159], jxb_SP, jxb_c169_N, .ofNat 100000)) (f := 100000) jxb_ok hX jT_ok (jc_c1 (jxb_c159_ok hX) jc_c0) (by decide +kernel)
-- trial.W.waitsFor3
def jxb_c170 : jc_Cn := (81, 3, [.inr (some (some 282)), .inl (0, .ofNat 3)], (2, [(1, .ofNat 4, .ofNat 5)], [(2310144, .inr (some (some 307))), (2514949, .inl (1, .ofNat 0))], [], [], [1, 2, 3, 4, 6, 7]), [], [((3, [(1, .negSucc 2147483647, .ofNat 2147483647), (2, .ofNat 4, .ofNat 5)], [(2310144, .inr (some (some 307))), (2514949, .inl (2, .ofNat 0))], [], [], [1, 2, 3, 4, 6, 7]), some (.inl (1, .ofNat 0)))])
def jxb_c170_N : jc_Nt := [none,
  none,
  none,
  none,
  some [none, none, none, none, none, some ([(6, none, (3, [(1, .negSucc 2147483647, .ofNat 2147483647), (2, .ofNat 4, .ofNat 5)], [(2310144, .inr (some (some 307))), (2514949, .inl (2, .ofNat 0))], [], [], [1, 2, 3, 4, 6, 7]), [(0, .inr (some (some 282))), (1, .inl (0, .ofNat 3)), (2, .inl (0, .negSucc 0)), (3, .inl (1, .ofNat 0)), (4, .inl (0, .ofNat 0)), (5, .inl (0, .ofNat 0))]),
    (5, none, (4, [(1, .negSucc 2147483647, .ofNat 2147483647), (2, .ofNat 0, .ofNat 1), (3, .ofNat 4, .ofNat 5)], [(2310144, .inr (some (some 307))), (2514949, .inl (3, .ofNat 0))], [], [], [1, 2, 3, 4, 6, 7]), [(0, .inr (some (some 282))), (1, .inl (0, .ofNat 3)), (2, .inl (0, .negSucc 0)), (3, .inl (1, .ofNat 0)), (4, .inl (2, .ofNat 0)), (5, .inl (0, .ofNat 1))]),
    (4, none, (4, [(1, .negSucc 2147483647, .ofNat 2147483647), (2, .ofNat 0, .ofNat 127), (3, .ofNat 4, .ofNat 5)], [(2310144, .inr (some (some 307))), (2514949, .inl (3, .ofNat 0))], [], [], [1, 2, 3, 4, 6, 7]), [(0, .inr (some (some 282))), (1, .inl (0, .ofNat 3)), (2, .inl (0, .negSucc 0)), (3, .inl (1, .ofNat 0)), (4, .inl (2, .ofNat 0)), (5, .inl (0, .ofNat 2))]),
    (3, none, (4, [(1, .negSucc 2147483647, .ofNat 2147483647), (2, .ofNat 0, .ofNat 127), (3, .ofNat 4, .ofNat 5)], [(2310144, .inr (some (some 307))), (2514949, .inl (3, .ofNat 0))], [], [], [1, 2, 3, 4, 6, 7]), [(0, .inr (some (some 282))), (1, .inl (0, .ofNat 3)), (2, .inl (0, .negSucc 0)), (3, .inl (1, .ofNat 0)), (4, .inl (2, .ofNat 0)), (5, .inl (0, .ofNat 3))]),
    (2, none, (4, [(1, .negSucc 2147483647, .ofNat 2147483647), (2, .ofNat 0, .ofNat 127), (3, .ofNat 4, .ofNat 5)], [(2310144, .inr (some (some 307))), (2514949, .inl (3, .ofNat 0))], [], [], [1, 2, 3, 4, 6, 7]), [(0, .inr (some (some 282))), (1, .inl (0, .ofNat 3)), (2, .inl (0, .negSucc 0)), (3, .inl (1, .ofNat 0)), (4, .inl (2, .ofNat 0)), (5, .inl (0, .ofNat 4))]),
    (1, none, (3, [(1, .negSucc 2147483647, .ofNat 2147483647), (2, .ofNat 0, .ofNat 127)], [(2310144, .inr (some (some 307))), (2514949, .inl (0, .ofNat 5))], [], [], [1, 2, 3, 4, 6, 7]), [(0, .inr (some (some 282))), (1, .inl (0, .ofNat 3)), (2, .inl (0, .negSucc 0)), (3, .inl (1, .ofNat 0)), (4, .inl (2, .ofNat 0)), (5, .inl (0, .ofNat 5))])]), none, none, none, none, none, none, none, none, none, none]]
set_option maxRecDepth 1000000 in
theorem jxb_c170_ok (hX : jc_Xo jxb X) : jc_Con jP jxb X jxb_c170 := jc_mth_ok (Z := (jxb, [], jT, [jxb_c162], jxb_SP, jxb_c170_N, .ofNat 100000)) (f := 100000) jxb_ok hX jT_ok (jc_c1 (jxb_c162_ok hX) jc_c0) (by decide +kernel)
-- trial.W.waitsFor4
def jxb_c171 : jc_Cn := (81, 3, [.inr (some (some 282)), .inl (0, .ofNat 4)], (2, [(1, .ofNat 5, .ofNat 5)], [(2310144, .inr (some (some 307))), (2514949, .inl (1, .ofNat 0))], [], [], [1, 2, 3, 4, 6, 7]), [], [((2, [(1, .negSucc 2147483647, .ofNat 2147483647)], [(2310144, .inr (some (some 307))), (2514949, .inl (0, .ofNat 5))], [], [], [1, 2, 3, 4, 6, 7]), some (.inl (1, .ofNat 0)))])
def jxb_c171_N : jc_Nt := [none,
  none,
  none,
  none,
  some [none, none, none, none, none, some ([(6, none, (2, [(1, .negSucc 2147483647, .ofNat 2147483647)], [(2310144, .inr (some (some 307))), (2514949, .inl (0, .ofNat 5))], [], [], [1, 2, 3, 4, 6, 7]), [(0, .inr (some (some 282))), (1, .inl (0, .ofNat 4)), (2, .inl (0, .negSucc 0)), (3, .inl (1, .ofNat 0)), (4, .inl (0, .ofNat 0)), (5, .inl (0, .ofNat 0))]),
    (5, none, (3, [(1, .negSucc 2147483647, .ofNat 2147483647), (2, .ofNat 0, .ofNat 1)], [(2310144, .inr (some (some 307))), (2514949, .inl (0, .ofNat 5))], [], [], [1, 2, 3, 4, 6, 7]), [(0, .inr (some (some 282))), (1, .inl (0, .ofNat 4)), (2, .inl (0, .negSucc 0)), (3, .inl (1, .ofNat 0)), (4, .inl (2, .ofNat 0)), (5, .inl (0, .ofNat 1))]),
    (4, none, (3, [(1, .negSucc 2147483647, .ofNat 2147483647), (2, .ofNat 0, .ofNat 127)], [(2310144, .inr (some (some 307))), (2514949, .inl (0, .ofNat 5))], [], [], [1, 2, 3, 4, 6, 7]), [(0, .inr (some (some 282))), (1, .inl (0, .ofNat 4)), (2, .inl (0, .negSucc 0)), (3, .inl (1, .ofNat 0)), (4, .inl (2, .ofNat 0)), (5, .inl (0, .ofNat 2))]),
    (3, none, (3, [(1, .negSucc 2147483647, .ofNat 2147483647), (2, .ofNat 0, .ofNat 127)], [(2310144, .inr (some (some 307))), (2514949, .inl (0, .ofNat 5))], [], [], [1, 2, 3, 4, 6, 7]), [(0, .inr (some (some 282))), (1, .inl (0, .ofNat 4)), (2, .inl (0, .negSucc 0)), (3, .inl (1, .ofNat 0)), (4, .inl (2, .ofNat 0)), (5, .inl (0, .ofNat 3))]),
    (2, none, (3, [(1, .negSucc 2147483647, .ofNat 2147483647), (2, .ofNat 0, .ofNat 127)], [(2310144, .inr (some (some 307))), (2514949, .inl (0, .ofNat 5))], [], [], [1, 2, 3, 4, 6, 7]), [(0, .inr (some (some 282))), (1, .inl (0, .ofNat 4)), (2, .inl (0, .negSucc 0)), (3, .inl (1, .ofNat 0)), (4, .inl (2, .ofNat 0)), (5, .inl (0, .ofNat 4))]),
    (1, none, (3, [(1, .negSucc 2147483647, .ofNat 2147483647), (2, .ofNat 0, .ofNat 127)], [(2310144, .inr (some (some 307))), (2514949, .inl (0, .ofNat 5))], [], [], [1, 2, 3, 4, 6, 7]), [(0, .inr (some (some 282))), (1, .inl (0, .ofNat 4)), (2, .inl (0, .negSucc 0)), (3, .inl (1, .ofNat 0)), (4, .inl (2, .ofNat 0)), (5, .inl (0, .ofNat 5))])]), none, none, none, none, none, none, none, none, none, none]]
set_option maxRecDepth 1000000 in
theorem jxb_c171_ok (hX : jc_Xo jxb X) : jc_Con jP jxb X jxb_c171 := jc_mth_ok (Z := (jxb, [], jT, [jxb_c165], jxb_SP, jxb_c171_N, .ofNat 100000)) (f := 100000) jxb_ok hX jT_ok (jc_c1 (jxb_c165_ok hX) jc_c0) (by decide +kernel)
end Jjxb10

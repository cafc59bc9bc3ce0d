/-! contracts of the class, told in A (10); written by wip/jc/e4.py -/
section Jjxa10
variable {X : J_H → Prop}
-- trial.W.nextDue
def jxa_c150 : jc_Cn := (94, 0, [.inr (some (some 282)), .inl (1, .ofNat 0)], (2, [(1, .negSucc 2147483647, .ofNat 2147483647)], [(2310144, .inr (some (some 307)))], [], [], [1, 2, 3, 4, 5, 6, 7]), [], [((2, [(1, .negSucc 2147483647, .ofNat 2147483647)], [(2310144, .inr (some (some 307)))], [], [], [1, 2, 3, 4, 5, 6, 7]), some (.inl (1, .ofNat 0)))])
def jxa_c150_N : jc_Nt := [some [none, none, none, none, some ([(6, none, (3, [(1, .negSucc 2147483647, .ofNat 2147483647), (2, .negSucc 2147483647, .ofNat 2147483647)], [(2310144, .inr (some (some 307)))], [], [], [1, 2, 3, 4, 5, 6, 7]), [(0, .inr (some (some 282))), (1, .inl (1, .ofNat 0)), (2, .inl (2, .ofNat 0)), (3, .inl (0, .ofNat 0))]),
    (5, none, (3, [(1, .negSucc 2147483647, .ofNat 2147483647), (2, .negSucc 2147483647, .ofNat 2147483647)], [(2310144, .inr (some (some 307)))], [], [], [1, 2, 3, 4, 5, 6, 7]), [(0, .inr (some (some 282))), (1, .inl (1, .ofNat 0)), (2, .inl (2, .ofNat 0)), (3, .inl (0, .ofNat 1))]),
    (4, none, (3, [(1, .negSucc 2147483647, .ofNat 2147483647), (2, .negSucc 2147483647, .ofNat 2147483647)], [(2310144, .inr (some (some 307)))], [], [], [1, 2, 3, 4, 5, 6, 7]), [(0, .inr (some (some 282))), (1, .inl (1, .ofNat 0)), (2, .inl (2, .ofNat 0)), (3, .inl (0, .ofNat 2))]),
    (3, none, (3, [(1, .negSucc 2147483647, .ofNat 2147483647), (2, .negSucc 2147483647, .ofNat 2147483647)], [(2310144, .inr (some (some 307)))], [], [], [1, 2, 3, 4, 5, 6, 7]), [(0, .inr (some (some 282))), (1, .inl (1, .ofNat 0)), (2, .inl (2, .ofNat 0)), (3, .inl (0, .ofNat 3))]),
    (2, none, (3, [(1, .negSucc 2147483647, .ofNat 2147483647), (2, .negSucc 2147483647, .ofNat 2147483647)], [(2310144, .inr (some (some 307)))], [], [], [1, 2, 3, 4, 5, 6, 7]), [(0, .inr (some (some 282))), (1, .inl (1, .ofNat 0)), (2, .inl (2, .ofNat 0)), (3, .inl (0, .ofNat 4))]),
    (1, none, (3, [(1, .negSucc 2147483647, .ofNat 2147483647), (2, .negSucc 2147483647, .ofNat 2147483647)], [(2310144, .inr (some (some 307)))], [], [], [1, 2, 3, 4, 5, 6, 7]), [(0, .inr (some (some 282))), (1, .inl (1, .ofNat 0)), (2, .inl (2, .ofNat 0)), (3, .inl (0, .ofNat 5))])]), none, none, none, none, none, none, none, none, none, none, none]]
set_option maxRecDepth 1000000 in
theorem jxa_c150_ok (hX : jc_Xo jxa X) : jc_Con jP jxa X jxa_c150 := jc_mth_ok (Z := (jxa, [], jT, [], jxa_SP, jxa_c150_N, .ofNat 100000)) (f := 100000) jxa_ok hX jT_ok jc_c0 (by decide +kernel)
-- trial.W.isKept
def jxa_c151 : jc_Cn := (89, 1, [.inr (some (some 282)), .inl (1, .ofNat 0)], (2, [(1, .ofNat 0, .ofNat 4)], [(2310144, .inr (some (some 307)))], [], [], [1, 2, 3, 4, 5, 6, 7]), [], [((2, [(1, .ofNat 0, .ofNat 1)], [(2310144, .inr (some (some 307)))], [], [], [1, 2, 3, 4, 5, 6, 7]), some (.inl (1, .ofNat 0)))])
def jxa_c151_N : jc_Nt := [some [none, none, some ([(5, none, (2, [(1, .ofNat 0, .ofNat 4)], [(2310144, .inr (some (some 307)))], [], [], [1, 2, 3, 4, 5, 6, 7]), [(0, .inr (some (some 282))), (1, .inl (1, .ofNat 0)), (2, .inl (0, .ofNat 0))]),
    (4, none, (2, [(1, .ofNat 0, .ofNat 4)], [(2310144, .inr (some (some 307)))], [], [], [1, 2, 3, 4, 5, 6, 7]), [(0, .inr (some (some 282))), (1, .inl (1, .ofNat 0)), (2, .inl (0, .ofNat 1))]),
    (3, none, (2, [(1, .ofNat 0, .ofNat 4)], [(2310144, .inr (some (some 307)))], [], [], [1, 2, 3, 4, 5, 6, 7]), [(0, .inr (some (some 282))), (1, .inl (1, .ofNat 0)), (2, .inl (0, .ofNat 2))]),
    (2, none, (2, [(1, .ofNat 0, .ofNat 4)], [(2310144, .inr (some (some 307)))], [], [], [1, 2, 3, 4, 5, 6, 7]), [(0, .inr (some (some 282))), (1, .inl (1, .ofNat 0)), (2, .inl (0, .ofNat 3))]),
    (1, none, (2, [(1, .ofNat 0, .ofNat 4)], [(2310144, .inr (some (some 307)))], [], [], [1, 2, 3, 4, 5, 6, 7]), [(0, .inr (some (some 282))), (1, .inl (1, .ofNat 0)), (2, .inl (0, .ofNat 4))])]), none, none, none, none, none, none, none, none, none, none, none, none, none]]
set_option maxRecDepth 1000000 in
theorem jxa_c151_ok (hX : jc_Xo jxa X) : jc_Con jP jxa X jxa_c151 := jc_mth_ok (Z := (jxa, [], jT, [], jxa_SP, jxa_c151_N, .ofNat 100000)) (f := 100000) jxa_ok hX jT_ok jc_c0 (by decide +kernel)
-- trial.W.targetO0
def jxa_c152 : jc_Cn := (85, 1, [.inr (some (some 282)), .inl (0, .ofNat 0)], (2, [(1, .ofNat 1, .ofNat 5)], [(2310144, .inr (some (some 307))), (2334720, .inl (0, .ofNat 0)), (2514949, .inl (1, .ofNat 0))], [], [], [1, 2, 3, 4, 6, 7]), [], [((3, [(1, .negSucc 0, .ofNat 20), (2, .ofNat 1, .ofNat 5)], [(2310144, .inr (some (some 307))), (2334720, .inl (0, .ofNat 0)), (2514949, .inl (2, .ofNat 0))], [], [], [1, 2, 3, 4, 6, 7]), some (.inl (1, .ofNat 0)))])
def jxa_c152_N : jc_Nt := []
set_option maxRecDepth 1000000 in
theorem jxa_c152_ok (hX : jc_Xo jxa X) : jc_Con jP jxa X jxa_c152 := jc_mth_ok (Z := (jxa, [], jT, [jxa_c148], jxa_SP, jxa_c152_N, .ofNat 100000)) (f := 100000) jxa_ok hX jT_ok (jc_c1 (jxa_c148_ok hX) jc_c0) (by decide +kernel)
-- trial.W.targetI0
def jxa_c153 : jc_Cn := (85, 1, [.inr (some (some 282)), .inl (0, .ofNat 0)], (2, [(1, .ofNat 1, .ofNat 5)], [(2310144, .inr (some (some 307))), (2334720, .inl (0, .ofNat 1)), (2514949, .inl (1, .ofNat 0))], [], [], [1, 2, 3, 4, 6, 7]), [], [((3, [(1, .negSucc 1, .ofNat 21), (2, .ofNat 1, .ofNat 5)], [(2310144, .inr (some (some 307))), (2334720, .inl (0, .ofNat 1)), (2514949, .inl (2, .ofNat 0))], [], [], [1, 2, 3, 4, 6, 7]), some (.inl (1, .ofNat 0)))])
def jxa_c153_N : jc_Nt := []
set_option maxRecDepth 1000000 in
theorem jxa_c153_ok (hX : jc_Xo jxa X) : jc_Con jP jxa X jxa_c153 := jc_mth_ok (Z := (jxa, [], jT, [jxa_c148], jxa_SP, jxa_c153_N, .ofNat 100000)) (f := 100000) jxa_ok hX jT_ok (jc_c1 (jxa_c148_ok hX) jc_c0) (by decide +kernel)
-- trial.W.targetB0
def jxa_c154 : jc_Cn := (85, 1, [.inr (some (some 282)), .inl (0, .ofNat 0)], (3, [(1, .ofNat 1, .ofNat 5), (2, .ofNat 0, .ofNat 1)], [(2310144, .inr (some (some 307))), (2334720, .inl (2, .ofNat 0)), (2514949, .inl (1, .ofNat 0))], [], [], [1, 2, 3, 4, 6, 7]), [], [((4, [(1, .negSucc 1, .ofNat 21), (2, .ofNat 0, .ofNat 1), (3, .ofNat 1, .ofNat 5)], [(2310144, .inr (some (some 307))), (2334720, .inl (2, .ofNat 0)), (2514949, .inl (3, .ofNat 0))], [], [], [1, 2, 3, 4, 6, 7]), some (.inl (1, .ofNat 0)))])
def jxa_c154_N : jc_Nt := []
set_option maxRecDepth 1000000 in
theorem jxa_c154_ok (hX : jc_Xo jxa X) : jc_Con jP jxa X jxa_c154 := jc_mth_ok (Z := (jxa, [], jT, [jxa_c148], jxa_SP, jxa_c154_N, .ofNat 100000)) (f := 100000) jxa_ok hX jT_ok (jc_c1 (jxa_c148_ok hX) jc_c0) (by decide +kernel)
-- trial.W.targetO1
def jxa_c155 : jc_Cn := (85, 1, [.inr (some (some 282)), .inl (0, .ofNat 1)], (2, [(1, .ofNat 2, .ofNat 5)], [(2310144, .inr (some (some 307))), (2334721, .inl (0, .ofNat 0)), (2514949, .inl (1, .ofNat 0))], [], [], [1, 2, 3, 4, 6, 7]), [], [((3, [(1, .negSucc 0, .ofNat 20), (2, .ofNat 2, .ofNat 5)], [(2310144, .inr (some (some 307))), (2334721, .inl (0, .ofNat 0)), (2514949, .inl (2, .ofNat 0))], [], [], [1, 2, 3, 4, 6, 7]), some (.inl (1, .ofNat 0)))])
def jxa_c155_N : jc_Nt := []
set_option maxRecDepth 1000000 in
theorem jxa_c155_ok (hX : jc_Xo jxa X) : jc_Con jP jxa X jxa_c155 := jc_mth_ok (Z := (jxa, [], jT, [jxa_c148], jxa_SP, jxa_c155_N, .ofNat 100000)) (f := 100000) jxa_ok hX jT_ok (jc_c1 (jxa_c148_ok hX) jc_c0) (by decide +kernel)
-- trial.W.targetI1
def jxa_c156 : jc_Cn := (85, 1, [.inr (some (some 282)), .inl (0, .ofNat 1)], (2, [(1, .ofNat 2, .ofNat 5)], [(2310144, .inr (some (some 307))), (2334721, .inl (0, .ofNat 1)), (2514949, .inl (1, .ofNat 0))], [], [], [1, 2, 3, 4, 6, 7]), [], [((3, [(1, .negSucc 1, .ofNat 21), (2, .ofNat 2, .ofNat 5)], [(2310144, .inr (some (some 307))), (2334721, .inl (0, .ofNat 1)), (2514949, .inl (2, .ofNat 0))], [], [], [1, 2, 3, 4, 6, 7]), some (.inl (1, .ofNat 0)))])
def jxa_c156_N : jc_Nt := []
set_option maxRecDepth 1000000 in
theorem jxa_c156_ok (hX : jc_Xo jxa X) : jc_Con jP jxa X jxa_c156 := jc_mth_ok (Z := (jxa, [], jT, [jxa_c148], jxa_SP, jxa_c156_N, .ofNat 100000)) (f := 100000) jxa_ok hX jT_ok (jc_c1 (jxa_c148_ok hX) jc_c0) (by decide +kernel)
-- trial.W.targetB1
def jxa_c157 : jc_Cn := (85, 1, [.inr (some (some 282)), .inl (0, .ofNat 1)], (3, [(1, .ofNat 2, .ofNat 5), (2, .ofNat 0, .ofNat 1)], [(2310144, .inr (some (some 307))), (2334721, .inl (2, .ofNat 0)), (2514949, .inl (1, .ofNat 0))], [], [], [1, 2, 3, 4, 6, 7]), [], [((4, [(1, .negSucc 1, .ofNat 21), (2, .ofNat 0, .ofNat 1), (3, .ofNat 2, .ofNat 5)], [(2310144, .inr (some (some 307))), (2334721, .inl (2, .ofNat 0)), (2514949, .inl (3, .ofNat 0))], [], [], [1, 2, 3, 4, 6, 7]), some (.inl (1, .ofNat 0)))])
def jxa_c157_N : jc_Nt := []
set_option maxRecDepth 1000000 in
theorem jxa_c157_ok (hX : jc_Xo jxa X) : jc_Con jP jxa X jxa_c157 := jc_mth_ok (Z := (jxa, [], jT, [jxa_c148], jxa_SP, jxa_c157_N, .ofNat 100000)) (f := 100000) jxa_ok hX jT_ok (jc_c1 (jxa_c148_ok hX) jc_c0) (by decide +kernel)
-- trial.W.targetO2
def jxa_c158 : jc_Cn := (85, 1, [.inr (some (some 282)), .inl (0, .ofNat 2)], (2, [(1, .ofNat 3, .ofNat 5)], [(2310144, .inr (some (some 307))), (2334722, .inl (0, .ofNat 0)), (2514949, .inl (1, .ofNat 0))], [], [], [1, 2, 3, 4, 6, 7]), [], [((3, [(1, .negSucc 0, .ofNat 20), (2, .ofNat 3, .ofNat 5)], [(2310144, .inr (some (some 307))), (2334722, .inl (0, .ofNat 0)), (2514949, .inl (2, .ofNat 0))], [], [], [1, 2, 3, 4, 6, 7]), some (.inl (1, .ofNat 0)))])
def jxa_c158_N : jc_Nt := []
set_option maxRecDepth 1000000 in
theorem jxa_c158_ok (hX : jc_Xo jxa X) : jc_Con jP jxa X jxa_c158 := jc_mth_ok (Z := (jxa, [], jT, [jxa_c148], jxa_SP, jxa_c158_N, .ofNat 100000)) (f := 100000) jxa_ok hX jT_ok (jc_c1 (jxa_c148_ok hX) jc_c0) (by decide +kernel)
-- trial.W.targetI2
def jxa_c159 : jc_Cn := (85, 1, [.inr (some (some 282)), .inl (0, .ofNat 2)], (2, [(1, .ofNat 3, .ofNat 5)], [(2310144, .inr (some (some 307))), (2334722, .inl (0, .ofNat 1)), (2514949, .inl (1, .ofNat 0))], [], [], [1, 2, 3, 4, 6, 7]), [], [((3, [(1, .negSucc 1, .ofNat 21), (2, .ofNat 3, .ofNat 5)], [(2310144, .inr (some (some 307))), (2334722, .inl (0, .ofNat 1)), (2514949, .inl (2, .ofNat 0))], [], [], [1, 2, 3, 4, 6, 7]), some (.inl (1, .ofNat 0)))])
def jxa_c159_N : jc_Nt := []
set_option maxRecDepth 1000000 in
theorem jxa_c159_ok (hX : jc_Xo jxa X) : jc_Con jP jxa X jxa_c159 := jc_mth_ok (Z := (jxa, [], jT, [jxa_c148], jxa_SP, jxa_c159_N, .ofNat 100000)) (f := 100000) jxa_ok hX jT_ok (jc_c1 (jxa_c148_ok hX) jc_c0) (by decide +kernel)
-- trial.W.targetB2
def jxa_c160 : jc_Cn := (85, 1, [.inr (some (some 282)), .inl (0, .ofNat 2)], (3, [(1, .ofNat 3, .ofNat 5), (2, .ofNat 0, .ofNat 1)], [(2310144, .inr (some (some 307))), (2334722, .inl (2, .ofNat 0)), (2514949, .inl (1, .ofNat 0))], [], [], [1, 2, 3, 4, 6, 7]), [], [((4, [(1, .negSucc 1, .ofNat 21), (2, .ofNat 0, .ofNat 1), (3, .ofNat 3, .ofNat 5)], [(2310144, .inr (some (some 307))), (2334722, .inl (2, .ofNat 0)), (2514949, .inl (3, .ofNat 0))], [], [], [1, 2, 3, 4, 6, 7]), some (.inl (1, .ofNat 0)))])
def jxa_c160_N : jc_Nt := []
set_option maxRecDepth 1000000 in
theorem jxa_c160_ok (hX : jc_Xo jxa X) : jc_Con jP jxa X jxa_c160 := jc_mth_ok (Z := (jxa, [], jT, [jxa_c148], jxa_SP, jxa_c160_N, .ofNat 100000)) (f := 100000) jxa_ok hX jT_ok (jc_c1 (jxa_c148_ok hX) jc_c0) (by decide +kernel)
-- trial.W.targetO3
def jxa_c161 : jc_Cn := (85, 1, [.inr (some (some 282)), .inl (0, .ofNat 3)], (2, [(1, .ofNat 4, .ofNat 5)], [(2310144, .inr (some (some 307))), (2334723, .inl (0, .ofNat 0)), (2514949, .inl (1, .ofNat 0))], [], [], [1, 2, 3, 4, 6, 7]), [], [((3, [(1, .negSucc 0, .ofNat 20), (2, .ofNat 4, .ofNat 5)], [(2310144, .inr (some (some 307))), (2334723, .inl (0, .ofNat 0)), (2514949, .inl (2, .ofNat 0))], [], [], [1, 2, 3, 4, 6, 7]), some (.inl (1, .ofNat 0)))])
def jxa_c161_N : jc_Nt := []
set_option maxRecDepth 1000000 in
theorem jxa_c161_ok (hX : jc_Xo jxa X) : jc_Con jP jxa X jxa_c161 := jc_mth_ok (Z := (jxa, [], jT, [jxa_c148], jxa_SP, jxa_c161_N, .ofNat 100000)) (f := 100000) jxa_ok hX jT_ok (jc_c1 (jxa_c148_ok hX) jc_c0) (by decide +kernel)
-- trial.W.targetI3
def jxa_c162 : jc_Cn := (85, 1, [.inr (some (some 282)), .inl (0, .ofNat 3)], (2, [(1, .ofNat 4, .ofNat 5)], [(2310144, .inr (some (some 307))), (2334723, .inl (0, .ofNat 1)), (2514949, .inl (1, .ofNat 0))], [], [], [1, 2, 3, 4, 6, 7]), [], [((3, [(1, .negSucc 1, .ofNat 21), (2, .ofNat 4, .ofNat 5)], [(2310144, .inr (some (some 307))), (2334723, .inl (0, .ofNat 1)), (2514949, .inl (2, .ofNat 0))], [], [], [1, 2, 3, 4, 6, 7]), some (.inl (1, .ofNat 0)))])
def jxa_c162_N : jc_Nt := []
set_option maxRecDepth 1000000 in
theorem jxa_c162_ok (hX : jc_Xo jxa X) : jc_Con jP jxa X jxa_c162 := jc_mth_ok (Z := (jxa, [], jT, [jxa_c148], jxa_SP, jxa_c162_N, .ofNat 100000)) (f := 100000) jxa_ok hX jT_ok (jc_c1 (jxa_c148_ok hX) jc_c0) (by decide +kernel)
-- trial.W.targetB3
def jxa_c163 : jc_Cn := (85, 1, [.inr (some (some 282)), .inl (0, .ofNat 3)], (3, [(1, .ofNat 4, .ofNat 5), (2, .ofNat 0, .ofNat 1)], [(2310144, .inr (some (some 307))), (2334723, .inl (2, .ofNat 0)), (2514949, .inl (1, .ofNat 0))], [], [], [1, 2, 3, 4, 6, 7]), [], [((4, [(1, .negSucc 1, .ofNat 21), (2, .ofNat 0, .ofNat 1), (3, .ofNat 4, .ofNat 5)], [(2310144, .inr (some (some 307))), (2334723, .inl (2, .ofNat 0)), (2514949, .inl (3, .ofNat 0))], [], [], [1, 2, 3, 4, 6, 7]), some (.inl (1, .ofNat 0)))])
def jxa_c163_N : jc_Nt := []
set_option maxRecDepth 1000000 in
theorem jxa_c163_ok (hX : jc_Xo jxa X) : jc_Con jP jxa X jxa_c163 := jc_mth_ok (Z := (jxa, [], jT, [jxa_c148], jxa_SP, jxa_c163_N, .ofNat 100000)) (f := 100000) jxa_ok hX jT_ok (jc_c1 (jxa_c148_ok hX) jc_c0) (by decide +kernel)
-- trial.W.targetO4
def jxa_c164 : jc_Cn := (85, 1, [.inr (some (some 282)), .inl (0, .ofNat 4)], (2, [(1, .ofNat 5, .ofNat 5)], [(2310144, .inr (some (some 307))), (2334724, .inl (0, .ofNat 0)), (2514949, .inl (1, .ofNat 0))], [], [], [1, 2, 3, 4, 6, 7]), [], [((2, [(1, .negSucc 0, .ofNat 20)], [(2310144, .inr (some (some 307))), (2334724, .inl (0, .ofNat 0)), (2514949, .inl (0, .ofNat 5))], [], [], [1, 2, 3, 4, 6, 7]), some (.inl (1, .ofNat 0)))])
def jxa_c164_N : jc_Nt := []
set_option maxRecDepth 1000000 in
theorem jxa_c164_ok (hX : jc_Xo jxa X) : jc_Con jP jxa X jxa_c164 := jc_mth_ok (Z := (jxa, [], jT, [jxa_c148], jxa_SP, jxa_c164_N, .ofNat 100000)) (f := 100000) jxa_ok hX jT_ok (jc_c1 (jxa_c148_ok hX) jc_c0) (by decide +kernel)
-- trial.W.targetI4
def jxa_c165 : jc_Cn := (85, 1, [.inr (some (some 282)), .inl (0, .ofNat 4)], (2, [(1, .ofNat 5, .ofNat 5)], [(2310144, .inr (some (some 307))), (2334724, .inl (0, .ofNat 1)), (2514949, .inl (1, .ofNat 0))], [], [], [1, 2, 3, 4, 6, 7]), [], [((2, [(1, .negSucc 1, .ofNat 21)], [(2310144, .inr (some (some 307))), (2334724, .inl (0, .ofNat 1)), (2514949, .inl (0, .ofNat 5))], [], [], [1, 2, 3, 4, 6, 7]), some (.inl (1, .ofNat 0)))])
def jxa_c165_N : jc_Nt := []
set_option maxRecDepth 1000000 in
theorem jxa_c165_ok (hX : jc_Xo jxa X) : jc_Con jP jxa X jxa_c165 := jc_mth_ok (Z := (jxa, [], jT, [jxa_c148], jxa_SP, jxa_c165_N, .ofNat 100000)) (f := 100000) jxa_ok hX jT_ok (jc_c1 (jxa_c148_ok hX) jc_c0) (by decide +kernel)
-- trial.W.targetB4
def jxa_c166 : jc_Cn := (85, 1, [.inr (some (some 282)), .inl (0, .ofNat 4)], (3, [(1, .ofNat 5, .ofNat 5), (2, .ofNat 0, .ofNat 1)], [(2310144, .inr (some (some 307))), (2334724, .inl (2, .ofNat 0)), (2514949, .inl (1, .ofNat 0))], [], [], [1, 2, 3, 4, 6, 7]), [], [((3, [(1, .negSucc 1, .ofNat 21), (2, .ofNat 0, .ofNat 1)], [(2310144, .inr (some (some 307))), (2334724, .inl (2, .ofNat 0)), (2514949, .inl (0, .ofNat 5))], [], [], [1, 2, 3, 4, 6, 7]), some (.inl (1, .ofNat 0)))])
def jxa_c166_N : jc_Nt := []
set_option maxRecDepth 1000000 in
theorem jxa_c166_ok (hX : jc_Xo jxa X) : jc_Con jP jxa X jxa_c166 := jc_mth_ok (Z := (jxa, [], jT, [jxa_c148], jxa_SP, jxa_c166_N, .ofNat 100000)) (f := 100000) jxa_ok hX jT_ok (jc_c1 (jxa_c148_ok hX) jc_c0) (by decide +kernel)
-- trial.W.waitsFor0
def jxa_c167 : jc_Cn := (81, 3, [.inr (some (some 282)), .inl (0, .ofNat 0)], (2, [(1, .ofNat 1, .ofNat 5)], [(2310144, .inr (some (some 307))), (2514949, .inl (1, .ofNat 0))], [], [], [1, 2, 3, 4, 6, 7]), [], [((3, [(1, .negSucc 2147483647, .ofNat 2147483647), (2, .ofNat 1, .ofNat 5)], [(2310144, .inr (some (some 307))), (2514949, .inl (2, .ofNat 0))], [], [], [1, 2, 3, 4, 6, 7]), some (.inl (1, .ofNat 0)))])
def jxa_c167_N : jc_Nt := [none,
  none,
  none,
  none,
  some [none, none, none, none, none, some ([(6, none, (3, [(1, .negSucc 2147483647, .ofNat 2147483647), (2, .ofNat 1, .ofNat 5)], [(2310144, .inr (some (some 307))), (2514949, .inl (2, .ofNat 0))], [], [], [1, 2, 3, 4, 6, 7]), [(0, .inr (some (some 282))), (1, .inl (0, .ofNat 0)), (2, .inl (0, .negSucc 0)), (3, .inl (1, .ofNat 0)), (4, .inl (0, .ofNat 0)), (5, .inl (0, .ofNat 0))]),
    (5, none, (4, [(1, .negSucc 2147483647, .ofNat 2147483647), (2, .ofNat 0, .ofNat 1), (3, .ofNat 1, .ofNat 5)], [(2310144, .inr (some (some 307))), (2514949, .inl (3, .ofNat 0))], [], [], [1, 2, 3, 4, 6, 7]), [(0, .inr (some (some 282))), (1, .inl (0, .ofNat 0)), (2, .inl (0, .negSucc 0)), (3, .inl (1, .ofNat 0)), (4, .inl (2, .ofNat 0)), (5, .inl (0, .ofNat 1))]),
    (4, none, (4, [(1, .negSucc 2147483647, .ofNat 2147483647), (2, .ofNat 0, .ofNat 127), (3, .ofNat 2, .ofNat 5)], [(2310144, .inr (some (some 307))), (2514949, .inl (3, .ofNat 0))], [], [], [1, 2, 3, 4, 6, 7]), [(0, .inr (some (some 282))), (1, .inl (0, .ofNat 0)), (2, .inl (0, .negSucc 0)), (3, .inl (1, .ofNat 0)), (4, .inl (2, .ofNat 0)), (5, .inl (0, .ofNat 2))]),
    (3, none, (4, [(1, .negSucc 2147483647, .ofNat 2147483647), (2, .ofNat 0, .ofNat 127), (3, .ofNat 3, .ofNat 5)], [(2310144, .inr (some (some 307))), (2514949, .inl (3, .ofNat 0))], [], [], [1, 2, 3, 4, 6, 7]), [(0, .inr (some (some 282))), (1, .inl (0, .ofNat 0)), (2, .inl (0, .negSucc 0)), (3, .inl (1, .ofNat 0)), (4, .inl (2, .ofNat 0)), (5, .inl (0, .ofNat 3))]),
    (2, none, (4, [(1, .negSucc 2147483647, .ofNat 2147483647), (2, .ofNat 0, .ofNat 127), (3, .ofNat 4, .ofNat 5)], [(2310144, .inr (some (some 307))), (2514949, .inl (3, .ofNat 0))], [], [], [1, 2, 3, 4, 6, 7]), [(0, .inr (some (some 282))), (1, .inl (0, .ofNat 0)), (2, .inl (0, .negSucc 0)), (3, .inl (1, .ofNat 0)), (4, .inl (2, .ofNat 0)), (5, .inl (0, .ofNat 4))]),
    (1, none, (3, [(1, .negSucc 2147483647, .ofNat 2147483647), (2, .ofNat 0, .ofNat 127)], [(2310144, .inr (some (some 307))), (2514949, .inl (0, .ofNat 5))], [], [], [1, 2, 3, 4, 6, 7]), [(0, .inr (some (some 282))), (1, .inl (0, .ofNat 0)), (2, .inl (0, .negSucc 0)), (3, .inl (1, .ofNat 0)), (4, .inl (2, .ofNat 0)), (5, .inl (0, .ofNat 5))])]), none, none, none, none, none, none, none, none, none, none]]
set_option maxRecDepth 1000000 in
theorem jxa_c167_ok (hX : jc_Xo jxa X) : jc_Con jP jxa X jxa_c167 := jc_mth_ok (Z := (jxa, [], jT, [jxa_c153], jxa_SP, jxa_c167_N, .ofNat 100000)) (f := 100000) jxa_ok hX jT_ok (jc_c1 (jxa_c153_ok hX) jc_c0) (by decide +kernel)
-- trial.W.waitsFor1
def jxa_c168 : jc_Cn := (81, 3, [.inr (some (some 282)), .inl (0, .ofNat 1)], (2, [(1, .ofNat 2, .ofNat 5)], [(2310144, .inr (some (some 307))), (2514949, .inl (1, .ofNat 0))], [], [], [1, 2, 3, 4, 6, 7]), [], [((3, [(1, .negSucc 2147483647, .ofNat 2147483647), (2, .ofNat 2, .ofNat 5)], [(2310144, .inr (some (some 307))), (2514949, .inl (2, .ofNat 0))], [], [], [1, 2, 3, 4, 6, 7]), some (.inl (1, .ofNat 0)))])
def jxa_c168_N : jc_Nt := [none,
  none,
  none,
  none,
  some [none, none, none, none, none, some ([(6, none, (3, [(1, .negSucc 2147483647, .ofNat 2147483647), (2, .ofNat 2, .ofNat 5)], [(2310144, .inr (some (some 307))), (2514949, .inl (2, .ofNat 0))], [], [], [1, 2, 3, 4, 6, 7]), [(0, .inr (some (some 282))), (1, .inl (0, .ofNat 1)), (2, .inl (0, .negSucc 0)), (3, .inl (1, .ofNat 0)), (4, .inl (0, .ofNat 0)), (5, .inl (0, .ofNat 0))]),
    (5, none, (4, [(1, .negSucc 2147483647, .ofNat 2147483647), (2, .ofNat 0, .ofNat 1), (3, .ofNat 2, .ofNat 5)], [(2310144, .inr (some (some 307))), (2514949, .inl (3, .ofNat 0))], [], [], [1, 2, 3, 4, 6, 7]), [(0, .inr (some (some 282))), (1, .inl (0, .ofNat 1)), (2, .inl (0, .negSucc 0)), (3, .inl (1, .ofNat 0)), (4, .inl (2, .ofNat 0)), (5, .inl (0, .ofNat 1))]),
    (4, none, (4, [(1, .negSucc 2147483647, .ofNat 2147483647), (2, .ofNat 0, .ofNat 127), (3, .ofNat 2, .ofNat 5)], [(2310144, .inr (some (some 307))), (2514949, .inl (3, .ofNat 0))], [], [], [1, 2, 3, 4, 6, 7]), [(0, .inr (some (some 282))), (1, .inl (0, .ofNat 1)), (2, .inl (0, .negSucc 0)), (3, .inl (1, .ofNat 0)), (4, .inl (2, .ofNat 0)), (5, .inl (0, .ofNat 2))]),
    (3, none, (4, [(1, .negSucc 2147483647, .ofNat 2147483647), (2, .ofNat 0, .ofNat 127), (3, .ofNat 3, .ofNat 5)], [(2310144, .inr (some (some 307))), (2514949, .inl (3, .ofNat 0))], [], [], [1, 2, 3, 4, 6, 7]), [(0, .inr (some (some 282))), (1, .inl (0, .ofNat 1)), (2, .inl (0, .negSucc 0)), (3, .inl (1, .ofNat 0)), (4, .inl (2, .ofNat 0)), (5, .inl (0, .ofNat 3))]),
    (2, none, (4, [(1, .negSucc 2147483647, .ofNat 2147483647), (2, .ofNat 0, .ofNat 127), (3, .ofNat 4, .ofNat 5)], [(2310144, .inr (some (some 307))), (2514949, .inl (3, .ofNat 0))], [], [], [1, 2, 3, 4, 6, 7]), [(0, .inr (some (some 282))), (1, .inl (0, .ofNat 1)), (2, .inl (0, .negSucc 0)), (3, .inl (1, .ofNat 0)), (4, .inl (2, .ofNat 0)), (5, .inl (0, .ofNat 4))]),
    (1, none, (3, [(1, .negSucc 2147483647, .ofNat 2147483647), (2, .ofNat 0, .ofNat 127)], [(2310144, .inr (some (some 307))), (2514949, .inl (0, .ofNat 5))], [], [], [1, 2, 3, 4, 6, 7]), [(0, .inr (some (some 282))), (1, .inl (0, .ofNat 1)), (2, .inl (0, .negSucc 0)), (3, .inl (1, .ofNat 0)), (4, .inl (2, .ofNat 0)), (5, .inl (0, .ofNat 5))])]), none, none, none, none, none, none, none, none, none, none]]
set_option maxRecDepth 1000000 in
theorem jxa_c168_ok (hX : jc_Xo jxa X) : jc_Con jP jxa X jxa_c168 := jc_mth_ok (Z := (jxa, [], jT, [jxa_c156], jxa_SP, jxa_c168_N, .ofNat 100000)) (f := 100000) jxa_ok hX jT_ok (jc_c1 (jxa_c156_ok hX) jc_c0) (by decide +kernel)
-- trial.W.waitsFor2
def jxa_c169 : jc_Cn := (81, 3, [.inr (some (some 282)), .inl (0, .ofNat 2)], (2, [(1, .ofNat 3, .ofNat 5)], [(2310144, .inr (some (some 307))), (2514949, .inl (1, .ofNat 0))], [], [], [1, 2, 3, 4, 6, 7]), [], [((3, [(1, .negSucc 2147483647, .ofNat 2147483647), (2, .ofNat 3, .ofNat 5)], [(2310144, .inr (some (some 307))), (2514949, .inl (2, .ofNat 0))], [], [], [1, 2, 3, 4, 6, 7]), some (.inl (1, .ofNat 0)))])
def jxa_c169_N : jc_Nt := [none,
  none,
  none,
  none,
  some [none, none, none, none, none, some ([(6, none, (3, [(1, .negSucc 2147483647, .ofNat 2147483647), (2, .ofNat 3, .ofNat 5)], [(2310144, .inr (some (some 307))), (2514949, .inl (2, .ofNat 0))], [], [], [1, 2, 3, 4, 6, 7]), [(0, .inr (some (some 282))), (1, .inl (0, .ofNat 2)), (2, .inl (0, .negSucc 0)), (3, .inl (1, .ofNat 0)), (4, .inl (0, .ofNat 0)), (5, .inl (0, .ofNat 0))]),
    (5, none, (4, [(1, .negSucc 2147483647, .ofNat 2147483647), (2, .ofNat 0, .ofNat 1), (3, .ofNat 3, .ofNat 5)], [(2310144, .inr (some (some 307))), (2514949, .inl (3, .ofNat 0))], [], [], [1, 2, 3, 4, 6, 7]), [(0, .inr (some (some 282))), (1, .inl (0, .ofNat 2)), (2, .inl (0, .negSucc 0)), (3, .inl (1, .ofNat 0)), (4, .inl (2, .ofNat 0)), (5, .inl (0, .ofNat 1))]),
    (4, none, (4, [(1, .negSucc 2147483647, .ofNat 2147483647), (2, .ofNat 0, .ofNat 127), (3, .ofNat 3, .ofNat 5)], [(2310144, .inr (some (some 307))), (2514949, .inl (3, .ofNat 0))], [], [], [1, 2, 3, 4, 6, 7]), [(0, .inr (some (some 282))), (1, .inl (0, .ofNat 2)), (2, .inl (0, .negSucc 0)), (3, .inl (1, .ofNat 0)), (4, .inl (2, .ofNat 0)), (5, .inl (0, .ofNat 2))]),
    (3, none, (4, [(1, .negSucc 2147483647, .ofNat 2147483647), (2, .ofNat 0, .ofNat 127), (3, .ofNat 3, .ofNat 5)], [(2310144, .inr (some (some 307))), (2514949, .inl (3, .ofNat 0))], [], [], [1, 2, 3, 4, 6, 7]), [(0, .inr (some (some 282))), (1, .inl (0, .ofNat 2)), (2, .inl (0, .negSucc 0)), (3, .inl (1, .ofNat 0)), (4, .inl (2, .ofNat 0)), (5, .inl (0, .ofNat 3))]),
    (2, none, (4, [(1, .negSucc 2147483647, .ofNat 2147483647), (2, .ofNat 0, .ofNat 127), (3, .ofNat 4, .ofNat 5)], [(2310144, .inr (some (some 307))), (2514949, .inl (3, .ofNat 0))], [], [], [1, 2, 3, 4, 6, 7]), [(0, .inr (some (some 282))), (1, .inl (0, .ofNat 2)), (2, .inl (0, .negSucc 0)), (3, .inl (1, .ofNat 0)), (4, .inl (2, .ofNat 0)), (5, .inl (0, .ofNat 4))]),
    (1, none, (3, [(1, .negSucc 2147483647, .ofNat 2147483647), (2, .ofNat 0, .ofNat 127)], [(2310144, .inr (some (some 307))), (2514949, .inl (0, .ofNat 5))], [], [], [1, 2, 3, 4, 6, 7]), [(0, .inr (some (some 282))), (1, .inl (0, .ofNat 2)), (2, .inl (0, .negSucc 0)), (3, .inl (1, .ofNat 0)), (4, .inl (2, .ofNat 0)), (5, .inl (0, .ofNat 5))])]), none, none, none, none, none, none, none, none, none, none]]
set_option maxRecDepth 1000000 in
theorem jxa_c169_ok (hX : jc_Xo jxa X) : jc_Con jP jxa X jxa_c169 := jc_mth_ok (Z := (jxa, [], jT, [jxa_c159], jxa_SP, jxa_c169_N, .ofNat 100000)) (f := 100000) jxa_ok hX jT_ok (jc_c1 (jxa_c159_ok hX) jc_c0) (by decide +kernel)
-- trial.W.waitsFor3
def jxa_c170 : jc_Cn := (81, 3, [.inr (some (some 282)), .inl (0, .ofNat 3)], (2, [(1, .ofNat 4, .ofNat 5)], [(2310144, .inr (some (some 307))), (2514949, .inl (1, .ofNat 0))], [], [], [1, 2, 3, 4, 6, 7]), [], [((3, [(1, .negSucc 2147483647, .ofNat 2147483647), (2, .ofNat 4, .ofNat 5)], [(2310144, .inr (some (some 307))), (2514949, .inl (2, .ofNat 0))], [], [], [1, 2, 3, 4, 6, 7]), some (.inl (1, .ofNat 0)))])
def jxa_c170_N : jc_Nt := [none,
  none,
  none,
  none,
  some [none, none, none, none, none, some ([(6, none, (3, [(1, .negSucc 2147483647, .ofNat 2147483647), (2, .ofNat 4, .ofNat 5)], [(2310144, .inr (some (some 307))), (2514949, .inl (2, .ofNat 0))], [], [], [1, 2, 3, 4, 6, 7]), [(0, .inr (some (some 282))), (1, .inl (0, .ofNat 3)), (2, .inl (0, .negSucc 0)), (3, .inl (1, .ofNat 0)), (4, .inl (0, .ofNat 0)), (5, .inl (0, .ofNat 0))]),
    (5, none, (4, [(1, .negSucc 2147483647, .ofNat 2147483647), (2, .ofNat 0, .ofNat 1), (3, .ofNat 4, .ofNat 5)], [(2310144, .inr (some (some 307))), (2514949, .inl (3, .ofNat 0))], [], [], [1, 2, 3, 4, 6, 7]), [(0, .inr (some (some 282))), (1, .inl (0, .ofNat 3)), (2, .inl (0, .negSucc 0)), (3, .inl (1, .ofNat 0)), (4, .inl (2, .ofNat 0)), (5, .inl (0, .ofNat 1))]),
    (4, none, (4, [(1, .negSucc 2147483647, .ofNat 2147483647), (2, .ofNat 0, .ofNat 127), (3, .ofNat 4, .ofNat 5)], [(2310144, .inr (some (some 307))), (2514949, .inl (3, .ofNat 0))], [], [], [1, 2, 3, 4, 6, 7]), [(0, .inr (some (some 282))), (1, .inl (0, .ofNat 3)), (2, .inl (0, .negSucc 0)), (3, .inl (1, .ofNat 0)), (4, .inl (2, .ofNat 0)), (5, .inl (0, .ofNat 2))]),
    (3, none, (4, [(1, .negSucc 2147483647, .ofNat 2147483647), (2, .ofNat 0, .ofNat 127), (3, .ofNat 4, .ofNat 5)], [(2310144, .inr (some (some 307))), (2514949, .inl (3, .ofNat 0))], [], [], [1, 2, 3, 4, 6, 7]), [(0, .inr (some (some 282))), (1, .inl (0, .ofNat 3)), (2, .inl (0, .negSucc 0)), (3, .inl (1, .ofNat 0)), (4, .inl (2, .ofNat 0)), (5, .inl (0, .ofNat 3))]),
    (2, none, (4, [(1, .negSucc 2147483647, .ofNat 2147483647), (2, .ofNat 0, .ofNat 127), (3, .ofNat 4, .ofNat 5)], [(2310144, .inr (some (some 307))), (2514949, .inl (3, .ofNat 0))], [], [], [1, 2, 3, 4, 6, 7]), [(0, .inr (some (some 282))), (1, .inl (0, .ofNat 3)), (2, .inl (0, .negSucc 0)), (3, .inl (1, .ofNat 0)), (4, .inl (2, .ofNat 0)), (5, .inl (0, .ofNat 4))]),
    (1, none, (3, [(1, .negSucc 2147483647, .ofNat 2147483647), (2, .ofNat 0, .ofNat 127)], [(2310144, .inr (some (some 307))), (2514949, .inl (0, .ofNat 5))], [], [], [1, 2, 3, 4, 6, 7]), [(0, .inr (some (some 282))), (1, .inl (0, .ofNat 3)), (2, .inl (0, .negSucc 0)), (3, .inl (1, .ofNat 0)), (4, .inl (2, .ofNat 0)), (5, .inl (0, .ofNat 5))])]), none, none, none, none, none, none, none, none, none, none]]
set_option maxRecDepth 1000000 in
theorem jxa_c170_ok (hX : jc_Xo jxa X) : jc_Con jP jxa X jxa_c170 := jc_mth_ok (Z := (jxa, [], jT, [jxa_c162], jxa_SP, jxa_c170_N, .ofNat 100000)) (f := 100000) jxa_ok hX jT_ok (jc_c1 (jxa_c162_ok hX) jc_c0) (by decide +kernel)
-- trial.W.waitsFor4
def jxa_c171 : jc_Cn := (81, 3, [.inr (some (some 282)), .inl (0, .ofNat 4)], (2, [(1, .ofNat 5, .ofNat 5)], [(2310144, .inr (some (some 307))), (2514949, .inl (1, .ofNat 0))], [], [], [1, 2, 3, 4, 6, 7]), [], [((2, [(1, .negSucc 2147483647, .ofNat 2147483647)], [(2310144, .inr (some (some 307))), (2514949, .inl (0, .ofNat 5))], [], [], [1, 2, 3, 4, 6, 7]), some (.inl (1, .ofNat 0)))])
def jxa_c171_N : jc_Nt := [none,
  none,
  none,
  none,
  some [none, none, none, none, none, some ([(6, none, (2, [(1, .negSucc 2147483647, .ofNat 2147483647)], [(2310144, .inr (some (some 307))), (2514949, .inl (0, .ofNat 5))], [], [], [1, 2, 3, 4, 6, 7]), [(0, .inr (some (some 282))), (1, .inl (0, .ofNat 4)), (2, .inl (0, .negSucc 0)), (3, .inl (1, .ofNat 0)), (4, .inl (0, .ofNat 0)), (5, .inl (0, .ofNat 0))]),
    (5, none, (3, [(1, .negSucc 2147483647, .ofNat 2147483647), (2, .ofNat 0, .ofNat 1)], [(2310144, .inr (some (some 307))), (2514949, .inl (0, .ofNat 5))], [], [], [1, 2, 3, 4, 6, 7]), [(0, .inr (some (some 282))), (1, .inl (0, .ofNat 4)), (2, .inl (0, .negSucc 0)), (3, .inl (1, .ofNat 0)), (4, .inl (2, .ofNat 0)), (5, .inl (0, .ofNat 1))]),
    (4, none, (3, [(1, .negSucc 2147483647, .ofNat 2147483647), (2, .ofNat 0, .ofNat 127)], [(2310144, .inr (some (some 307))), (2514949, .inl (0, .ofNat 5))], [], [], [1, 2, 3, 4, 6, 7]), [(0, .inr (some (some 282))), (1, .inl (0, .ofNat 4)), (2, .inl (0, .negSucc 0)), (3, .inl (1, .ofNat 0)), (4, .inl (2, .ofNat 0)), (5, .inl (0, .ofNat 2))]),
    (3, none, (3, [(1, .negSucc 2147483647, .ofNat 2147483647), (2, .ofNat 0, .ofNat 127)], [(2310144, .inr (some (some 307))), (2514949, .inl (0, .ofNat 5))], [], [], [1, 2, 3, 4, 6, 7]), [(0, .inr (some (some 282))), (1, .inl (0, .ofNat 4)), (2, .inl (0, .negSucc 0)), (3, .inl (1, .ofNat 0)), (4, .inl (2, .ofNat 0)), (5, .inl (0, .ofNat 3))]),
    (2, none, (3, [(1, .negSucc 2147483647, .ofNat 2147483647), (2, .ofNat 0, .ofNat 127)], [(2310144, .inr (some (some 307))), (2514949, .inl (0, .ofNat 5))], [], [], [1, 2, 3, 4, 6, 7]), [(0, .inr (some (some 282))), (1, .inl (0, .ofNat 4)), (2, .inl (0, .negSucc 0)), (3, .inl (1, .ofNat 0)), (4, .inl (2, .ofNat 0)), (5, .inl (0, .ofNat 4))]),
    (1, none, (3, [(1, .negSucc 2147483647, .ofNat 2147483647), (2, .ofNat 0, .ofNat 127)], [(2310144, .inr (some (some 307))), (2514949, .inl (0, .ofNat 5))], [], [], [1, 2, 3, 4, 6, 7]), [(0, .inr (some (some 282))), (1, .inl (0, .ofNat 4)), (2, .inl (0, .negSucc 0)), (3, .inl (1, .ofNat 0)), (4, .inl (2, .ofNat 0)), (5, .inl (0, .ofNat 5))])]), none, none, none, none, none, none, none, none, none, none]]
set_option maxRecDepth 1000000 in
theorem jxa_c171_ok (hX : jc_Xo jxa X) : jc_Con jP jxa X jxa_c171 := jc_mth_ok (Z := (jxa, [], jT, [jxa_c165], jxa_SP, jxa_c171_N, .ofNat 100000)) (f := 100000) jxa_ok hX jT_ok (jc_c1 (jxa_c165_ok hX) jc_c0) (by decide +kernel)
end Jjxa10

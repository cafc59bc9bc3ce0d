/-! contracts of the class, told in A (6); written by wip/jc/e4.py -/
section Jjxa6
variable {X : J_H → Prop}
-- trial.A.nextDue
def jxa_c80 : jc_Cn := (94, 0, [.inr (some (some 282)), .inl (1, .ofNat 0)], (2, [(1, .negSucc 2147483647, .ofNat 2147483647)], [(2310144, .inr (some (some 327)))], [], [], [1, 2, 3, 4, 5, 6, 7]), [], [((2, [(1, .negSucc 2147483647, .ofNat 2147483647)], [(2310144, .inr (some (some 327)))], [], [], [1, 2, 3, 4, 5, 6, 7]), some (.inl (1, .ofNat 0)))])
def jxa_c80_N : jc_Nt := [some [none, none, none, none, some ([(6, none, (3, [(1, .negSucc 2147483647, .ofNat 2147483647), (2, .negSucc 2147483647, .ofNat 2147483647)], [(2310144, .inr (some (some 327)))], [], [], [1, 2, 3, 4, 5, 6, 7]), [(0, .inr (some (some 282))), (1, .inl (1, .ofNat 0)), (2, .inl (2, .ofNat 0)), (3, .inl (0, .ofNat 0))]),
    (5, none, (3, [(1, .negSucc 2147483647, .ofNat 2147483647), (2, .negSucc 2147483647, .ofNat 2147483647)], [(2310144, .inr (some (some 327)))], [], [], [1, 2, 3, 4, 5, 6, 7]), [(0, .inr (some (some 282))), (1, .inl (1, .ofNat 0)), (2, .inl (2, .ofNat 0)), (3, .inl (0, .ofNat 1))]),
    (4, none, (3, [(1, .negSucc 2147483647, .ofNat 2147483647), (2, .negSucc 2147483647, .ofNat 2147483647)], [(2310144, .inr (some (some 327)))], [], [], [1, 2, 3, 4, 5, 6, 7]), [(0, .inr (some (some 282))), (1, .inl (1, .ofNat 0)), (2, .inl (2, .ofNat 0)), (3, .inl (0, .ofNat 2))]),
    (3, none, (3, [(1, .negSucc 2147483647, .ofNat 2147483647), (2, .negSucc 2147483647, .ofNat 2147483647)], [(2310144, .inr (some (some 327)))], [], [], [1, 2, 3, 4, 5, 6, 7]), [(0, .inr (some (some 282))), (1, .inl (1, .ofNat 0)), (2, .inl (2, .ofNat 0)), (3, .inl (0, .ofNat 3))]),
    (2, none, (3, [(1, .negSucc 2147483647, .ofNat 2147483647), (2, .negSucc 2147483647, .ofNat 2147483647)], [(2310144, .inr (some (some 327)))], [], [], [1, 2, 3, 4, 5, 6, 7]), [(0, .inr (some (some 282))), (1, .inl (1, .ofNat 0)), (2, .inl (2, .ofNat 0)), (3, .inl (0, .ofNat 4))]),
    (1, none, (3, [(1, .negSucc 2147483647, .ofNat 2147483647), (2, .negSucc 2147483647, .ofNat 2147483647)], [(2310144, .inr (some (some 327)))], [], [], [1, 2, 3, 4, 5, 6, 7]), [(0, .inr (some (some 282))), (1, .inl (1, .ofNat 0)), (2, .inl (2, .ofNat 0)), (3, .inl (0, .ofNat 5))])]), none, none, none, none, none, none, none, none, none, none, none]]
set_option maxRecDepth 1000000 in
theorem jxa_c80_ok (hX : jc_Xo jxa X) : jc_Con jP jxa X jxa_c80 := jc_mth_ok (Z := (jxa, [], jT, [], jxa_SP, jxa_c80_N, .ofNat 100000)) (f := 100000) jxa_ok hX jT_ok jc_c0 (by decide +kernel)
-- trial.A.isKept
def jxa_c81 : jc_Cn := (89, 1, [.inr (some (some 282)), .inl (1, .ofNat 0)], (2, [(1, .ofNat 0, .ofNat 4)], [(2310144, .inr (some (some 327)))], [], [], [1, 2, 3, 4, 5, 6, 7]), [], [((2, [(1, .ofNat 0, .ofNat 1)], [(2310144, .inr (some (some 327)))], [], [], [1, 2, 3, 4, 5, 6, 7]), some (.inl (1, .ofNat 0)))])
def jxa_c81_N : jc_Nt := [some [none, none, some ([(5, none, (2, [(1, .ofNat 0, .ofNat 4)], [(2310144, .inr (some (some 327)))], [], [], [1, 2, 3, 4, 5, 6, 7]), [(0, .inr (some (some 282))), (1, .inl (1, .ofNat 0)), (2, .inl (0, .ofNat 0))]),
    (4, none, (2, [(1, .ofNat 0, .ofNat 4)], [(2310144, .inr (some (some 327)))], [], [], [1, 2, 3, 4, 5, 6, 7]), [(0, .inr (some (some 282))), (1, .inl (1, .ofNat 0)), (2, .inl (0, .ofNat 1))]),
    (3, none, (2, [(1, .ofNat 0, .ofNat 4)], [(2310144, .inr (some (some 327)))], [], [], [1, 2, 3, 4, 5, 6, 7]), [(0, .inr (some (some 282))), (1, .inl (1, .ofNat 0)), (2, .inl (0, .ofNat 2))]),
    (2, none, (2, [(1, .ofNat 0, .ofNat 4)], [(2310144, .inr (some (some 327)))], [], [], [1, 2, 3, 4, 5, 6, 7]), [(0, .inr (some (some 282))), (1, .inl (1, .ofNat 0)), (2, .inl (0, .ofNat 3))]),
    (1, none, (2, [(1, .ofNat 0, .ofNat 4)], [(2310144, .inr (some (some 327)))], [], [], [1, 2, 3, 4, 5, 6, 7]), [(0, .inr (some (some 282))), (1, .inl (1, .ofNat 0)), (2, .inl (0, .ofNat 4))])]), none, none, none, none, none, none, none, none, none, none, none, none, none]]
set_option maxRecDepth 1000000 in
theorem jxa_c81_ok (hX : jc_Xo jxa X) : jc_Con jP jxa X jxa_c81 := jc_mth_ok (Z := (jxa, [], jT, [], jxa_SP, jxa_c81_N, .ofNat 100000)) (f := 100000) jxa_ok hX jT_ok jc_c0 (by decide +kernel)
-- trial.A.targetO0
def jxa_c82 : jc_Cn := (85, 1, [.inr (some (some 282)), .inl (0, .ofNat 0)], (2, [(1, .ofNat 1, .ofNat 5)], [(2310144, .inr (some (some 327))), (2334720, .inl (0, .ofNat 0)), (2678789, .inl (1, .ofNat 0))], [], [], [1, 2, 4, 5, 6, 7]), [], [((3, [(1, .negSucc 0, .ofNat 20), (2, .ofNat 1, .ofNat 5)], [(2310144, .inr (some (some 327))), (2334720, .inl (0, .ofNat 0)), (2678789, .inl (2, .ofNat 0))], [], [], [1, 2, 4, 5, 6, 7]), some (.inl (1, .ofNat 0)))])
def jxa_c82_N : jc_Nt := []
set_option maxRecDepth 1000000 in
theorem jxa_c82_ok (hX : jc_Xo jxa X) : jc_Con jP jxa X jxa_c82 := jc_mth_ok (Z := (jxa, [], jT, [jxa_c78], jxa_SP, jxa_c82_N, .ofNat 100000)) (f := 100000) jxa_ok hX jT_ok (jc_c1 (jxa_c78_ok hX) jc_c0) (by decide +kernel)
-- trial.A.targetI0
def jxa_c83 : jc_Cn := (85, 1, [.inr (some (some 282)), .inl (0, .ofNat 0)], (2, [(1, .ofNat 1, .ofNat 5)], [(2310144, .inr (some (some 327))), (2334720, .inl (0, .ofNat 1)), (2678789, .inl (1, .ofNat 0))], [], [], [1, 2, 4, 5, 6, 7]), [], [((3, [(1, .negSucc 1, .ofNat 21), (2, .ofNat 1, .ofNat 5)], [(2310144, .inr (some (some 327))), (2334720, .inl (0, .ofNat 1)), (2678789, .inl (2, .ofNat 0))], [], [], [1, 2, 4, 5, 6, 7]), some (.inl (1, .ofNat 0)))])
def jxa_c83_N : jc_Nt := []
set_option maxRecDepth 1000000 in
theorem jxa_c83_ok (hX : jc_Xo jxa X) : jc_Con jP jxa X jxa_c83 := jc_mth_ok (Z := (jxa, [], jT, [jxa_c78], jxa_SP, jxa_c83_N, .ofNat 100000)) (f := 100000) jxa_ok hX jT_ok (jc_c1 (jxa_c78_ok hX) jc_c0) (by decide +kernel)
-- trial.A.targetB0
def jxa_c84 : jc_Cn := (85, 1, [.inr (some (some 282)), .inl (0, .ofNat 0)], (3, [(1, .ofNat 1, .ofNat 5), (2, .ofNat 0, .ofNat 1)], [(2310144, .inr (some (some 327))), (2334720, .inl (2, .ofNat 0)), (2678789, .inl (1, .ofNat 0))], [], [], [1, 2, 4, 5, 6, 7]), [], [((4, [(1, .negSucc 1, .ofNat 21), (2, .ofNat 0, .ofNat 1), (3, .ofNat 1, .ofNat 5)], [(2310144, .inr (some (some 327))), (2334720, .inl (2, .ofNat 0)), (2678789, .inl (3, .ofNat 0))], [], [], [1, 2, 4, 5, 6, 7]), some (.inl (1, .ofNat 0)))])
def jxa_c84_N : jc_Nt := []
set_option maxRecDepth 1000000 in
theorem jxa_c84_ok (hX : jc_Xo jxa X) : jc_Con jP jxa X jxa_c84 := jc_mth_ok (Z := (jxa, [], jT, [jxa_c78], jxa_SP, jxa_c84_N, .ofNat 100000)) (f := 100000) jxa_ok hX jT_ok (jc_c1 (jxa_c78_ok hX) jc_c0) (by decide +kernel)
-- trial.A.targetO1
def jxa_c85 : jc_Cn := (85, 1, [.inr (some (some 282)), .inl (0, .ofNat 1)], (2, [(1, .ofNat 2, .ofNat 5)], [(2310144, .inr (some (some 327))), (2334721, .inl (0, .ofNat 0)), (2678789, .inl (1, .ofNat 0))], [], [], [1, 2, 4, 5, 6, 7]), [], [((3, [(1, .negSucc 0, .ofNat 20), (2, .ofNat 2, .ofNat 5)], [(2310144, .inr (some (some 327))), (2334721, .inl (0, .ofNat 0)), (2678789, .inl (2, .ofNat 0))], [], [], [1, 2, 4, 5, 6, 7]), some (.inl (1, .ofNat 0)))])
def jxa_c85_N : jc_Nt := []
set_option maxRecDepth 1000000 in
theorem jxa_c85_ok (hX : jc_Xo jxa X) : jc_Con jP jxa X jxa_c85 := jc_mth_ok (Z := (jxa, [], jT, [jxa_c78], jxa_SP, jxa_c85_N, .ofNat 100000)) (f := 100000) jxa_ok hX jT_ok (jc_c1 (jxa_c78_ok hX) jc_c0) (by decide +kernel)
-- trial.A.targetI1
def jxa_c86 : jc_Cn := (85, 1, [.inr (some (some 282)), .inl (0, .ofNat 1)], (2, [(1, .ofNat 2, .ofNat 5)], [(2310144, .inr (some (some 327))), (2334721, .inl (0, .ofNat 1)), (2678789, .inl (1, .ofNat 0))], [], [], [1, 2, 4, 5, 6, 7]), [], [((3, [(1, .negSucc 1, .ofNat 21), (2, .ofNat 2, .ofNat 5)], [(2310144, .inr (some (some 327))), (2334721, .inl (0, .ofNat 1)), (2678789, .inl (2, .ofNat 0))], [], [], [1, 2, 4, 5, 6, 7]), some (.inl (1, .ofNat 0)))])
def jxa_c86_N : jc_Nt := []
set_option maxRecDepth 1000000 in
theorem jxa_c86_ok (hX : jc_Xo jxa X) : jc_Con jP jxa X jxa_c86 := jc_mth_ok (Z := (jxa, [], jT, [jxa_c78], jxa_SP, jxa_c86_N, .ofNat 100000)) (f := 100000) jxa_ok hX jT_ok (jc_c1 (jxa_c78_ok hX) jc_c0) (by decide +kernel)
-- trial.A.targetB1
def jxa_c87 : jc_Cn := (85, 1, [.inr (some (some 282)), .inl (0, .ofNat 1)], (3, [(1, .ofNat 2, .ofNat 5), (2, .ofNat 0, .ofNat 1)], [(2310144, .inr (some (some 327))), (2334721, .inl (2, .ofNat 0)), (2678789, .inl (1, .ofNat 0))], [], [], [1, 2, 4, 5, 6, 7]), [], [((4, [(1, .negSucc 1, .ofNat 21), (2, .ofNat 0, .ofNat 1), (3, .ofNat 2, .ofNat 5)], [(2310144, .inr (some (some 327))), (2334721, .inl (2, .ofNat 0)), (2678789, .inl (3, .ofNat 0))], [], [], [1, 2, 4, 5, 6, 7]), some (.inl (1, .ofNat 0)))])
def jxa_c87_N : jc_Nt := []
set_option maxRecDepth 1000000 in
theorem jxa_c87_ok (hX : jc_Xo jxa X) : jc_Con jP jxa X jxa_c87 := jc_mth_ok (Z := (jxa, [], jT, [jxa_c78], jxa_SP, jxa_c87_N, .ofNat 100000)) (f := 100000) jxa_ok hX jT_ok (jc_c1 (jxa_c78_ok hX) jc_c0) (by decide +kernel)
-- trial.A.targetO2
def jxa_c88 : jc_Cn := (85, 1, [.inr (some (some 282)), .inl (0, .ofNat 2)], (2, [(1, .ofNat 3, .ofNat 5)], [(2310144, .inr (some (some 327))), (2334722, .inl (0, .ofNat 0)), (2678789, .inl (1, .ofNat 0))], [], [], [1, 2, 4, 5, 6, 7]), [], [((3, [(1, .negSucc 0, .ofNat 20), (2, .ofNat 3, .ofNat 5)], [(2310144, .inr (some (some 327))), (2334722, .inl (0, .ofNat 0)), (2678789, .inl (2, .ofNat 0))], [], [], [1, 2, 4, 5, 6, 7]), some (.inl (1, .ofNat 0)))])
def jxa_c88_N : jc_Nt := []
set_option maxRecDepth 1000000 in
theorem jxa_c88_ok (hX : jc_Xo jxa X) : jc_Con jP jxa X jxa_c88 := jc_mth_ok (Z := (jxa, [], jT, [jxa_c78], jxa_SP, jxa_c88_N, .ofNat 100000)) (f := 100000) jxa_ok hX jT_ok (jc_c1 (jxa_c78_ok hX) jc_c0) (by decide +kernel)
-- trial.A.targetI2
def jxa_c89 : jc_Cn := (85, 1, [.inr (some (some 282)), .inl (0, .ofNat 2)], (2, [(1, .ofNat 3, .ofNat 5)], [(2310144, .inr (some (some 327))), (2334722, .inl (0, .ofNat 1)), (2678789, .inl (1, .ofNat 0))], [], [], [1, 2, 4, 5, 6, 7]), [], [((3, [(1, .negSucc 1, .ofNat 21), (2, .ofNat 3, .ofNat 5)], [(2310144, .inr (some (some 327))), (2334722, .inl (0, .ofNat 1)), (2678789, .inl (2, .ofNat 0))], [], [], [1, 2, 4, 5, 6, 7]), some (.inl (1, .ofNat 0)))])
def jxa_c89_N : jc_Nt := []
set_option maxRecDepth 1000000 in
theorem jxa_c89_ok (hX : jc_Xo jxa X) : jc_Con jP jxa X jxa_c89 := jc_mth_ok (Z := (jxa, [], jT, [jxa_c78], jxa_SP, jxa_c89_N, .ofNat 100000)) (f := 100000) jxa_ok hX jT_ok (jc_c1 (jxa_c78_ok hX) jc_c0) (by decide +kernel)
-- trial.A.targetB2
def jxa_c90 : jc_Cn := (85, 1, [.inr (some (some 282)), .inl (0, .ofNat 2)], (3, [(1, .ofNat 3, .ofNat 5), (2, .ofNat 0, .ofNat 1)], [(2310144, .inr (some (some 327))), (2334722, .inl (2, .ofNat 0)), (2678789, .inl (1, .ofNat 0))], [], [], [1, 2, 4, 5, 6, 7]), [], [((4, [(1, .negSucc 1, .ofNat 21), (2, .ofNat 0, .ofNat 1), (3, .ofNat 3, .ofNat 5)], [(2310144, .inr (some (some 327))), (2334722, .inl (2, .ofNat 0)), (2678789, .inl (3, .ofNat 0))], [], [], [1, 2, 4, 5, 6, 7]), some (.inl (1, .ofNat 0)))])
def jxa_c90_N : jc_Nt := []
set_option maxRecDepth 1000000 in
theorem jxa_c90_ok (hX : jc_Xo jxa X) : jc_Con jP jxa X jxa_c90 := jc_mth_ok (Z := (jxa, [], jT, [jxa_c78], jxa_SP, jxa_c90_N, .ofNat 100000)) (f := 100000) jxa_ok hX jT_ok (jc_c1 (jxa_c78_ok hX) jc_c0) (by decide +kernel)
-- trial.A.targetO3
def jxa_c91 : jc_Cn := (85, 1, [.inr (some (some 282)), .inl (0, .ofNat 3)], (2, [(1, .ofNat 4, .ofNat 5)], [(2310144, .inr (some (some 327))), (2334723, .inl (0, .ofNat 0)), (2678789, .inl (1, .ofNat 0))], [], [], [1, 2, 4, 5, 6, 7]), [], [((3, [(1, .negSucc 0, .ofNat 20), (2, .ofNat 4, .ofNat 5)], [(2310144, .inr (some (some 327))), (2334723, .inl (0, .ofNat 0)), (2678789, .inl (2, .ofNat 0))], [], [], [1, 2, 4, 5, 6, 7]), some (.inl (1, .ofNat 0)))])
def jxa_c91_N : jc_Nt := []
set_option maxRecDepth 1000000 in
theorem jxa_c91_ok (hX : jc_Xo jxa X) : jc_Con jP jxa X jxa_c91 := jc_mth_ok (Z := (jxa, [], jT, [jxa_c78], jxa_SP, jxa_c91_N, .ofNat 100000)) (f := 100000) jxa_ok hX jT_ok (jc_c1 (jxa_c78_ok hX) jc_c0) (by decide +kernel)
-- trial.A.targetI3
def jxa_c92 : jc_Cn := (85, 1, [.inr (some (some 282)), .inl (0, .ofNat 3)], (2, [(1, .ofNat 4, .ofNat 5)], [(2310144, .inr (some (some 327))), (2334723, .inl (0, .ofNat 1)), (2678789, .inl (1, .ofNat 0))], [], [], [1, 2, 4, 5, 6, 7]), [], [((3, [(1, .negSucc 1, .ofNat 21), (2, .ofNat 4, .ofNat 5)], [(2310144, .inr (some (some 327))), (2334723, .inl (0, .ofNat 1)), (2678789, .inl (2, .ofNat 0))], [], [], [1, 2, 4, 5, 6, 7]), some (.inl (1, .ofNat 0)))])
def jxa_c92_N : jc_Nt := []
set_option maxRecDepth 1000000 in
theorem jxa_c92_ok (hX : jc_Xo jxa X) : jc_Con jP jxa X jxa_c92 := jc_mth_ok (Z := (jxa, [], jT, [jxa_c78], jxa_SP, jxa_c92_N, .ofNat 100000)) (f := 100000) jxa_ok hX jT_ok (jc_c1 (jxa_c78_ok hX) jc_c0) (by decide +kernel)
-- trial.A.targetB3
def jxa_c93 : jc_Cn := (85, 1, [.inr (some (some 282)), .inl (0, .ofNat 3)], (3, [(1, .ofNat 4, .ofNat 5), (2, .ofNat 0, .ofNat 1)], [(2310144, .inr (some (some 327))), (2334723, .inl (2, .ofNat 0)), (2678789, .inl (1, .ofNat 0))], [], [], [1, 2, 4, 5, 6, 7]), [], [((4, [(1, .negSucc 1, .ofNat 21), (2, .ofNat 0, .ofNat 1), (3, .ofNat 4, .ofNat 5)], [(2310144, .inr (some (some 327))), (2334723, .inl (2, .ofNat 0)), (2678789, .inl (3, .ofNat 0))], [], [], [1, 2, 4, 5, 6, 7]), some (.inl (1, .ofNat 0)))])
def jxa_c93_N : jc_Nt := []
set_option maxRecDepth 1000000 in
theorem jxa_c93_ok (hX : jc_Xo jxa X) : jc_Con jP jxa X jxa_c93 := jc_mth_ok (Z := (jxa, [], jT, [jxa_c78], jxa_SP, jxa_c93_N, .ofNat 100000)) (f := 100000) jxa_ok hX jT_ok (jc_c1 (jxa_c78_ok hX) jc_c0) (by decide +kernel)
-- trial.A.targetO4
def jxa_c94 : jc_Cn := (85, 1, [.inr (some (some 282)), .inl (0, .ofNat 4)], (2, [(1, .ofNat 5, .ofNat 5)], [(2310144, .inr (some (some 327))), (2334724, .inl (0, .ofNat 0)), (2678789, .inl (1, .ofNat 0))], [], [], [1, 2, 4, 5, 6, 7]), [], [((2, [(1, .negSucc 0, .ofNat 20)], [(2310144, .inr (some (some 327))), (2334724, .inl (0, .ofNat 0)), (2678789, .inl (0, .ofNat 5))], [], [], [1, 2, 4, 5, 6, 7]), some (.inl (1, .ofNat 0)))])
def jxa_c94_N : jc_Nt := []
set_option maxRecDepth 1000000 in
theorem jxa_c94_ok (hX : jc_Xo jxa X) : jc_Con jP jxa X jxa_c94 := jc_mth_ok (Z := (jxa, [], jT, [jxa_c78], jxa_SP, jxa_c94_N, .ofNat 100000)) (f := 100000) jxa_ok hX jT_ok (jc_c1 (jxa_c78_ok hX) jc_c0) (by decide +kernel)
-- trial.A.targetI4
def jxa_c95 : jc_Cn := (85, 1, [.inr (some (some 282)), .inl (0, .ofNat 4)], (2, [(1, .ofNat 5, .ofNat 5)], [(2310144, .inr (some (some 327))), (2334724, .inl (0, .ofNat 1)), (2678789, .inl (1, .ofNat 0))], [], [], [1, 2, 4, 5, 6, 7]), [], [((2, [(1, .negSucc 1, .ofNat 21)], [(2310144, .inr (some (some 327))), (2334724, .inl (0, .ofNat 1)), (2678789, .inl (0, .ofNat 5))], [], [], [1, 2, 4, 5, 6, 7]), some (.inl (1, .ofNat 0)))])
def jxa_c95_N : jc_Nt := []
set_option maxRecDepth 1000000 in
theorem jxa_c95_ok (hX : jc_Xo jxa X) : jc_Con jP jxa X jxa_c95 := jc_mth_ok (Z := (jxa, [], jT, [jxa_c78], jxa_SP, jxa_c95_N, .ofNat 100000)) (f := 100000) jxa_ok hX jT_ok (jc_c1 (jxa_c78_ok hX) jc_c0) (by decide +kernel)
-- trial.A.targetB4
def jxa_c96 : jc_Cn := (85, 1, [.inr (some (some 282)), .inl (0, .ofNat 4)], (3, [(1, .ofNat 5, .ofNat 5), (2, .ofNat 0, .ofNat 1)], [(2310144, .inr (some (some 327))), (2334724, .inl (2, .ofNat 0)), (2678789, .inl (1, .ofNat 0))], [], [], [1, 2, 4, 5, 6, 7]), [], [((3, [(1, .negSucc 1, .ofNat 21), (2, .ofNat 0, .ofNat 1)], [(2310144, .inr (some (some 327))), (2334724, .inl (2, .ofNat 0)), (2678789, .inl (0, .ofNat 5))], [], [], [1, 2, 4, 5, 6, 7]), some (.inl (1, .ofNat 0)))])
def jxa_c96_N : jc_Nt := []
set_option maxRecDepth 1000000 in
theorem jxa_c96_ok (hX : jc_Xo jxa X) : jc_Con jP jxa X jxa_c96 := jc_mth_ok (Z := (jxa, [], jT, [jxa_c78], jxa_SP, jxa_c96_N, .ofNat 100000)) (f := 100000) jxa_ok hX jT_ok (jc_c1 (jxa_c78_ok hX) jc_c0) (by decide +kernel)
-- trial.A.waitsFor0
def jxa_c97 : jc_Cn := (81, 3, [.inr (some (some 282)), .inl (0, .ofNat 0)], (2, [(1, .ofNat 1, .ofNat 5)], [(2310144, .inr (some (some 327))), (2678789, .inl (1, .ofNat 0))], [], [], [1, 2, 4, 5, 6, 7]), [], [((3, [(1, .negSucc 2147483647, .ofNat 2147483647), (2, .ofNat 1, .ofNat 5)], [(2310144, .inr (some (some 327))), (2678789, .inl (2, .ofNat 0))], [], [], [1, 2, 4, 5, 6, 7]), some (.inl (1, .ofNat 0)))])
def jxa_c97_N : jc_Nt := [none,
  none,
  none,
  none,
  some [none, none, none, none, none, some ([(6, none, (3, [(1, .negSucc 2147483647, .ofNat 2147483647), (2, .ofNat 1, .ofNat 5)], [(2310144, .inr (some (some 327))), (2678789, .inl (2, .ofNat 0))], [], [], [1, 2, 4, 5, 6, 7]), [(0, .inr (some (some 282))), (1, .inl (0, .ofNat 0)), (2, .inl (0, .negSucc 0)), (3, .inl (1, .ofNat 0)), (4, .inl (0, .ofNat 0)), (5, .inl (0, .ofNat 0))]),
    (5, none, (4, [(1, .negSucc 2147483647, .ofNat 2147483647), (2, .ofNat 0, .ofNat 1), (3, .ofNat 1, .ofNat 5)], [(2310144, .inr (some (some 327))), (2678789, .inl (3, .ofNat 0))], [], [], [1, 2, 4, 5, 6, 7]), [(0, .inr (some (some 282))), (1, .inl (0, .ofNat 0)), (2, .inl (0, .negSucc 0)), (3, .inl (1, .ofNat 0)), (4, .inl (2, .ofNat 0)), (5, .inl (0, .ofNat 1))]),
    (4, none, (4, [(1, .negSucc 2147483647, .ofNat 2147483647), (2, .ofNat 0, .ofNat 127), (3, .ofNat 2, .ofNat 5)], [(2310144, .inr (some (some 327))), (2678789, .inl (3, .ofNat 0))], [], [], [1, 2, 4, 5, 6, 7]), [(0, .inr (some (some 282))), (1, .inl (0, .ofNat 0)), (2, .inl (0, .negSucc 0)), (3, .inl (1, .ofNat 0)), (4, .inl (2, .ofNat 0)), (5, .inl (0, .ofNat 2))]),
    (3, none, (4, [(1, .negSucc 2147483647, .ofNat 2147483647), (2, .ofNat 0, .ofNat 127), (3, .ofNat 3, .ofNat 5)], [(2310144, .inr (some (some 327))), (2678789, .inl (3, .ofNat 0))], [], [], [1, 2, 4, 5, 6, 7]), [(0, .inr (some (some 282))), (1, .inl (0, .ofNat 0)), (2, .inl (0, .negSucc 0)), (3, .inl (1, .ofNat 0)), (4, .inl (2, .ofNat 0)), (5, .inl (0, .ofNat 3))]),
    (2, none, (4, [(1, .negSucc 2147483647, .ofNat 2147483647), (2, .ofNat 0, .ofNat 127), (3, .ofNat 4, .ofNat 5)], [(2310144, .inr (some (some 327))), (2678789, .inl (3, .ofNat 0))], [], [], [1, 2, 4, 5, 6, 7]), [(0, .inr (some (some 282))), (1, .inl (0, .ofNat 0)), (2, .inl (0, .negSucc 0)), (3, .inl (1, .ofNat 0)), (4, .inl (2, .ofNat 0)), (5, .inl (0, .ofNat 4))]),
    (1, none, (3, [(1, .negSucc 2147483647, .ofNat 2147483647), (2, .ofNat 0, .ofNat 127)], [(2310144, .inr (some (some 327))), (2678789, .inl (0, .ofNat 5))], [], [], [1, 2, 4, 5, 6, 7]), [(0, .inr (some (some 282))), (1, .inl (0, .ofNat 0)), (2, .inl (0, .negSucc 0)), (3, .inl (1, .ofNat 0)), (4, .inl (2, .ofNat 0)), (5, .inl (0, .ofNat 5))])]), none, none, none, none, none, none, none, none, none, none]]
set_option maxRecDepth 1000000 in
theorem jxa_c97_ok (hX : jc_Xo jxa X) : jc_Con jP jxa X jxa_c97 := jc_mth_ok (Z := (jxa, [], jT, [jxa_c83], jxa_SP, jxa_c97_N, .ofNat 100000)) (f := 100000) jxa_ok hX jT_ok (jc_c1 (jxa_c83_ok hX) jc_c0) (by decide +kernel)
-- trial.A.waitsFor1
def jxa_c98 : jc_Cn := (81, 3, [.inr (some (some 282)), .inl (0, .ofNat 1)], (2, [(1, .ofNat 2, .ofNat 5)], [(2310144, .inr (some (some 327))), (2678789, .inl (1, .ofNat 0))], [], [], [1, 2, 4, 5, 6, 7]), [], [((3, [(1, .negSucc 2147483647, .ofNat 2147483647), (2, .ofNat 2, .ofNat 5)], [(2310144, .inr (some (some 327))), (2678789, .inl (2, .ofNat 0))], [], [], [1, 2, 4, 5, 6, 7]), some (.inl (1, .ofNat 0)))])
def jxa_c98_N : jc_Nt := [none,
  none,
  none,
  none,
  some [none, none, none, none, none, some ([(6, none, (3, [(1, .negSucc 2147483647, .ofNat 2147483647), (2, .ofNat 2, .ofNat 5)], [(2310144, .inr (some (some 327))), (2678789, .inl (2, .ofNat 0))], [], [], [1, 2, 4, 5, 6, 7]), [(0, .inr (some (some 282))), (1, .inl (0, .ofNat 1)), (2, .inl (0, .negSucc 0)), (3, .inl (1, .ofNat 0)), (4, .inl (0, .ofNat 0)), (5, .inl (0, .ofNat 0))]),
    (5, none, (4, [(1, .negSucc 2147483647, .ofNat 2147483647), (2, .ofNat 0, .ofNat 1), (3, .ofNat 2, .ofNat 5)], [(2310144, .inr (some (some 327))), (2678789, .inl (3, .ofNat 0))], [], [], [1, 2, 4, 5, 6, 7]), [(0, .inr (some (some 282))), (1, .inl (0, .ofNat 1)), (2, .inl (0, .negSucc 0)), (3, .inl (1, .ofNat 0)), (4, .inl (2, .ofNat 0)), (5, .inl (0, .ofNat 1))]),
    (4, none, (4, [(1, .negSucc 2147483647, .ofNat 2147483647), (2, .ofNat 0, .ofNat 127), (3, .ofNat 2, .ofNat 5)], [(2310144, .inr (some (some 327))), (2678789, .inl (3, .ofNat 0))], [], [], [1, 2, 4, 5, 6, 7]), [(0, .inr (some (some 282))), (1, .inl (0, .ofNat 1)), (2, .inl (0, .negSucc 0)), (3, .inl (1, .ofNat 0)), (4, .inl (2, .ofNat 0)), (5, .inl (0, .ofNat 2))]),
    (3, none, (4, [(1, .negSucc 2147483647, .ofNat 2147483647), (2, .ofNat 0, .ofNat 127), (3, .ofNat 3, .ofNat 5)], [(2310144, .inr (some (some 327))), (2678789, .inl (3, .ofNat 0))], [], [], [1, 2, 4, 5, 6, 7]), [(0, .inr (some (some 282))), (1, .inl (0, .ofNat 1)), (2, .inl (0, .negSucc 0)), (3, .inl (1, .ofNat 0)), (4, .inl (2, .ofNat 0)), (5, .inl (0, .ofNat 3))]),
    (2, none, (4, [(1, .negSucc 2147483647, .ofNat 2147483647), (2, .ofNat 0, .ofNat 127), (3, .ofNat 4, .ofNat 5)], [(2310144, .inr (some (some 327))), (2678789, .inl (3, .ofNat 0))], [], [], [1, 2, 4, 5, 6, 7]), [(0, .inr (some (some 282))), (1, .inl (0, .ofNat 1)), (2, .inl (0, .negSucc 0)), (3, .inl (1, .ofNat 0)), (4, .inl (2, .ofNat 0)), (5, .inl (0, .ofNat 4))]),
    (1, none, (3, [(1, .negSucc 2147483647, .ofNat 2147483647), (2, .ofNat 0, .ofNat 127)], [(2310144, .inr (some (some 327))), (2678789, .inl (0, .ofNat 5))], [], [], [1, 2, 4, 5, 6, 7]), [(0, .inr (some (some 282))), (1, .inl (0, .ofNat 1)), (2, .inl (0, .negSucc 0)), (3, .inl (1, .ofNat 0)), (4, .inl (2, .ofNat 0)), (5, .inl (0, .ofNat 5))])]), none, none, none, none, none, none, none, none, none, none]]
set_option maxRecDepth 1000000 in
theorem jxa_c98_ok (hX : jc_Xo jxa X) : jc_Con jP jxa X jxa_c98 := jc_mth_ok (Z := (jxa, [], jT, [jxa_c86], jxa_SP, jxa_c98_N, .ofNat 100000)) (f := 100000) jxa_ok hX jT_ok (jc_c1 (jxa_c86_ok hX) jc_c0) (by decide +kernel)
-- trial.A.waitsFor2
def jxa_c99 : jc_Cn := (81, 3, [.inr (some (some 282)), .inl (0, .ofNat 2)], (2, [(1, .ofNat 3, .ofNat 5)], [(2310144, .inr (some (some 327))), (2678789, .inl (1, .ofNat 0))], [], [], [1, 2, 4, 5, 6, 7]), [], [((3, [(1, .negSucc 2147483647, .ofNat 2147483647), (2, .ofNat 3, .ofNat 5)], [(2310144, .inr (some (some 327))), (2678789, .inl (2, .ofNat 0))], [], [], [1, 2, 4, 5, 6, 7]), some (.inl (1, .ofNat 0)))])
def jxa_c99_N : jc_Nt := [none,
  none,
  none,
  none,
  some [none, none, none, none, none, some ([(6, none, (3, [(1, .negSucc 2147483647, .ofNat 2147483647), (2, .ofNat 3, .ofNat 5)], [(2310144, .inr (some (some 327))), (2678789, .inl (2, .ofNat 0))], [], [], [1, 2, 4, 5, 6, 7]), [(0, .inr (some (some 282))), (1, .inl (0, .ofNat 2)), (2, .inl (0, .negSucc 0)), (3, .inl (1, .ofNat 0)), (4, .inl (0, .ofNat 0)), (5, .inl (0, .ofNat 0))]),
    (5, none, (4, [(1, .negSucc 2147483647, .ofNat 2147483647), (2, .ofNat 0, .ofNat 1), (3, .ofNat 3, .ofNat 5)], [(2310144, .inr (some (some 327))), (2678789, .inl (3, .ofNat 0))], [], [], [1, 2, 4, 5, 6, 7]), [(0, .inr (some (some 282))), (1, .inl (0, .ofNat 2)), (2, .inl (0, .negSucc 0)), (3, .inl (1, .ofNat 0)), (4, .inl (2, .ofNat 0)), (5, .inl (0, .ofNat 1))]),
    (4, none, (4, [(1, .negSucc 2147483647, .ofNat 2147483647), (2, .ofNat 0, .ofNat 127), (3, .ofNat 3, .ofNat 5)], [(2310144, .inr (some (some 327))), (2678789, .inl (3, .ofNat 0))], [], [], [1, 2, 4, 5, 6, 7]), [(0, .inr (some (some 282))), (1, .inl (0, .ofNat 2)), (2, .inl (0, .negSucc 0)), (3, .inl (1, .ofNat 0)), (4, .inl (2, .ofNat 0)), (5, .inl (0, .ofNat 2))]),
    (3, none, (4, [(1, .negSucc 2147483647, .ofNat 2147483647), (2, .ofNat 0, .ofNat 127), (3, .ofNat 3, .ofNat 5)], [(2310144, .inr (some (some 327))), (2678789, .inl (3, .ofNat 0))], [], [], [1, 2, 4, 5, 6, 7]), [(0, .inr (some (some 282))), (1, .inl (0, .ofNat 2)), (2, .inl (0, .negSucc 0)), (3, .inl (1, .ofNat 0)), (4, .inl (2, .ofNat 0)), (5, .inl (0, .ofNat 3))]),
    (2, none, (4, [(1, .negSucc 2147483647, .ofNat 2147483647), (2, .ofNat 0, .ofNat 127), (3, .ofNat 4, .ofNat 5)], [(2310144, .inr (some (some 327))), (2678789, .inl (3, .ofNat 0))], [], [], [1, 2, 4, 5, 6, 7]), [(0, .inr (some (some 282))), (1, .inl (0, .ofNat 2)), (2, .inl (0, .negSucc 0)), (3, .inl (1, .ofNat 0)), (4, .inl (2, .ofNat 0)), (5, .inl (0, .ofNat 4))]),
    (1, none, (3, [(1, .negSucc 2147483647, .ofNat 2147483647), (2, .ofNat 0, .ofNat 127)], [(2310144, .inr (some (some 327))), (2678789, .inl (0, .ofNat 5))], [], [], [1, 2, 4, 5, 6, 7]), [(0, .inr (some (some 282))), (1, .inl (0, .ofNat 2)), (2, .inl (0, .negSucc 0)), (3, .inl (1, .ofNat 0)), (4, .inl (2, .ofNat 0)), (5, .inl (0, .ofNat 5))])]), none, none, none, none, none, none, none, none, none, none]]
set_option maxRecDepth 1000000 in
theorem jxa_c99_ok (hX : jc_Xo jxa X) : jc_Con jP jxa X jxa_c99 := jc_mth_ok (Z := (jxa, [], jT, [jxa_c89], jxa_SP, jxa_c99_N, .ofNat 100000)) (f := 100000) jxa_ok hX jT_ok (jc_c1 (jxa_c89_ok hX) jc_c0) (by decide +kernel)
-- trial.A.waitsFor3
def jxa_c100 : jc_Cn := (81, 3, [.inr (some (some 282)), .inl (0, .ofNat 3)], (2, [(1, .ofNat 4, .ofNat 5)], [(2310144, .inr (some (some 327))), (2678789, .inl (1, .ofNat 0))], [], [], [1, 2, 4, 5, 6, 7]), [], [((3, [(1, .negSucc 2147483647, .ofNat 2147483647), (2, .ofNat 4, .ofNat 5)], [(2310144, .inr (some (some 327))), (2678789, .inl (2, .ofNat 0))], [], [], [1, 2, 4, 5, 6, 7]), some (.inl (1, .ofNat 0)))])
def jxa_c100_N : jc_Nt := [none,
  none,
  none,
  none,
  some [none, none, none, none, none, some ([(6, none, (3, [(1, .negSucc 2147483647, .ofNat 2147483647), (2, .ofNat 4, .ofNat 5)], [(2310144, .inr (some (some 327))), (2678789, .inl (2, .ofNat 0))], [], [], [1, 2, 4, 5, 6, 7]), [(0, .inr (some (some 282))), (1, .inl (0, .ofNat 3)), (2, .inl (0, .negSucc 0)), (3, .inl (1, .ofNat 0)), (4, .inl (0, .ofNat 0)), (5, .inl (0, .ofNat 0))]),
    (5, none, (4, [(1, .negSucc 2147483647, .ofNat 2147483647), (2, .ofNat 0, .ofNat 1), (3, .ofNat 4, .ofNat 5)], [(2310144, .inr (some (some 327))), (2678789, .inl (3, .ofNat 0))], [], [], [1, 2, 4, 5, 6, 7]), [(0, .inr (some (some 282))), (1, .inl (0, .ofNat 3)), (2, .inl (0, .negSucc 0)), (3, .inl (1, .ofNat 0)), (4, .inl (2, .ofNat 0)), (5, .inl (0, .ofNat 1))]),
    (4, none, (4, [(1, .negSucc 2147483647, .ofNat 2147483647), (2, .ofNat 0, .ofNat 127), (3, .ofNat 4, .ofNat 5)], [(2310144, .inr (some (some 327))), (2678789, .inl (3, .ofNat 0))], [], [], [1, 2, 4, 5, 6, 7]), [(0, .inr (some (some 282))), (1, .inl (0, .ofNat 3)), (2, .inl (0, .negSucc 0)), (3, .inl (1, .ofNat 0)), (4, .inl (2, .ofNat 0)), (5, .inl (0, .ofNat 2))]),
    (3, none, (4, [(1, .negSucc 2147483647, .ofNat 2147483647), (2, .ofNat 0, .ofNat 127), (3, .ofNat 4, .ofNat 5)], [(2310144, .inr (some (some 327))), (2678789, .inl (3, .ofNat 0))], [], [], [1, 2, 4, 5, 6, 7]), [(0, .inr (some (some 282))), (1, .inl (0, .ofNat 3)), (2, .inl (0, .negSucc 0)), (3, .inl (1, .ofNat 0)), (4, .inl (2, .ofNat 0)), (5, .inl (0, .ofNat 3))]),
    (2, none, (4, [(1, .negSucc 2147483647, .ofNat 2147483647), (2, .ofNat 0, .ofNat 127), (3, .ofNat 4, .ofNat 5)], [(2310144, .inr (some (some 327))), (2678789, .inl (3, .ofNat 0))], [], [], [1, 2, 4, 5, 6, 7]), [(0, .inr (some (some 282))), (1, .inl (0, .ofNat 3)), (2, .inl (0, .negSucc 0)), (3, .inl (1, .ofNat 0)), (4, .inl (2, .ofNat 0)), (5, .inl (0, .ofNat 4))]),
    (1, none, (3, [(1, .negSucc 2147483647, .ofNat 2147483647), (2, .ofNat 0, .ofNat 127)], [(2310144, .inr (some (some 327))), (2678789, .inl (0, .ofNat 5))], [], [], [1, 2, 4, 5, 6, 7]), [(0, .inr (some (some 282))), (1, .inl (0, .ofNat 3)), (2, .inl (0, .negSucc 0)), (3, .inl (1, .ofNat 0)), (4, .inl (2, .ofNat 0)), (5, .inl (0, .ofNat 5))])]), none, none, none, none, none, none, none, none, none, none]]
set_option maxRecDepth 1000000 in
theorem jxa_c100_ok (hX : jc_Xo jxa X) : jc_Con jP jxa X jxa_c100 := jc_mth_ok (Z := (jxa, [], jT, [jxa_c92], jxa_SP, jxa_c100_N, .ofNat 100000)) (f := 100000) jxa_ok hX jT_ok (jc_c1 (jxa_c92_ok hX) jc_c0) (by decide +kernel)
-- trial.A.waitsFor4
def jxa_c101 : jc_Cn := (81, 3, [.inr (some (some 282)), .inl (0, .ofNat 4)], (2, [(1, .ofNat 5, .ofNat 5)], [(2310144, .inr (some (some 327))), (2678789, .inl (1, .ofNat 0))], [], [], [1, 2, 4, 5, 6, 7]), [], [((2, [(1, .negSucc 2147483647, .ofNat 2147483647)], [(2310144, .inr (some (some 327))), (2678789, .inl (0, .ofNat 5))], [], [], [1, 2, 4, 5, 6, 7]), some (.inl (1, .ofNat 0)))])
def jxa_c101_N : jc_Nt := [none,
  none,
  none,
  none,
  some [none, none, none, none, none, some ([(6, none, (2, [(1, .negSucc 2147483647, .ofNat 2147483647)], [(2310144, .inr (some (some 327))), (2678789, .inl (0, .ofNat 5))], [], [], [1, 2, 4, 5, 6, 7]), [(0, .inr (some (some 282))), (1, .inl (0, .ofNat 4)), (2, .inl (0, .negSucc 0)), (3, .inl (1, .ofNat 0)), (4, .inl (0, .ofNat 0)), (5, .inl (0, .ofNat 0))]),
    (5, none, (3, [(1, .negSucc 2147483647, .ofNat 2147483647), (2, .ofNat 0, .ofNat 1)], [(2310144, .inr (some (some 327))), (2678789, .inl (0, .ofNat 5))], [], [], [1, 2, 4, 5, 6, 7]), [(0, .inr (some (some 282))), (1, .inl (0, .ofNat 4)), (2, .inl (0, .negSucc 0)), (3, .inl (1, .ofNat 0)), (4, .inl (2, .ofNat 0)), (5, .inl (0, .ofNat 1))]),
    (4, none, (3, [(1, .negSucc 2147483647, .ofNat 2147483647), (2, .ofNat 0, .ofNat 127)], [(2310144, .inr (some (some 327))), (2678789, .inl (0, .ofNat 5))], [], [], [1, 2, 4, 5, 6, 7]), [(0, .inr (some (some 282))), (1, .inl (0, .ofNat 4)), (2, .inl (0, .negSucc 0)), (3, .inl (1, .ofNat 0)), (4, .inl (2, .ofNat 0)), (5, .inl (0, .ofNat 2))]),
    (3, none, (3, [(1, .negSucc 2147483647, .ofNat 2147483647), (2, .ofNat 0, .ofNat 127)], [(2310144, .inr (some (some 327))), (2678789, .inl (0, .ofNat 5))], [], [], [1, 2, 4, 5, 6, 7]), [(0, .inr (some (some 282))), (1, .inl (0, .ofNat 4)), (2, .inl (0, .negSucc 0)), (3, .inl (1, .ofNat 0)), (4, .inl (2, .ofNat 0)), (5, .inl (0, .ofNat 3))]),
    (2, none, (3, [(1, .negSucc 2147483647, .ofNat 2147483647), (2, .ofNat 0, .ofNat 127)], [(2310144, .inr (some (some 327))), (2678789, .inl (0, .ofNat 5))], [], [], [1, 2, 4, 5, 6, 7]), [(0, .inr (some (some 282))), (1, .inl (0, .ofNat 4)), (2, .inl (0, .negSucc 0)), (3, .inl (1, .ofNat 0)), (4, .inl (2, .ofNat 0)), (5, .inl (0, .ofNat 4))]),
    (1, none, (3, [(1, .negSucc 2147483647, .ofNat 2147483647), (2, .ofNat 0, .ofNat 127)], [(2310144, .inr (some (some 327))), (2678789, .inl (0, .ofNat 5))], [], [], [1, 2, 4, 5, 6, 7]), [(0, .inr (some (some 282))), (1, .inl (0, .ofNat 4)), (2, .inl (0, .negSucc 0)), (3, .inl (1, .ofNat 0)), (4, .inl (2, .ofNat 0)), (5, .inl (0, .ofNat 5))])]), none, none, none, none, none, none, none, none, none, none]]
set_option maxRecDepth 1000000 in
theorem jxa_c101_ok (hX : jc_Xo jxa X) : jc_Con jP jxa X jxa_c101 := jc_mth_ok (Z := (jxa, [], jT, [jxa_c95], jxa_SP, jxa_c101_N, .ofNat 100000)) (f := 100000) jxa_ok hX jT_ok (jc_c1 (jxa_c95_ok hX) jc_c0) (by decide +kernel)
end Jjxa6

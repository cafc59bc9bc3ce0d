/-! contracts of the class, told in B (6); written by wip/jc/e4.py -/
section Jjxb6
variable {X : J_H → Prop}
-- trial.B.nextDue
def jxb_c80 : jc_Cn := (94, 0, [.inr (some (some 282)), .inl (1, .ofNat 0)], (2, [(1, .negSucc 2147483647, .ofNat 2147483647)], [(2310144, .inr (some (some 343)))], [], [], [1, 2, 3, 4, 5, 6, 7]), [], [((2, [(1, .negSucc 2147483647, .ofNat 2147483647)], [(2310144, .inr (some (some 343)))], [], [], [1, 2, 3, 4, 5, 6, 7]), some (.inl (1, .ofNat 0)))])
def jxb_c80_N : jc_Nt := [some [none, none, none, none, some ([(6, none, (3, [(1, .negSucc 2147483647, .ofNat 2147483647), (2, .negSucc 2147483647, .ofNat 2147483647)], [(2310144, .inr (some (some 343)))], [], [], [1, 2, 3, 4, 5, 6, 7]), [(0, .inr (some (some 282))), (1, .inl (1, .ofNat 0)), (2, .inl (2, .ofNat 0)), (3, .inl (0, .ofNat 0))]),
    (5, none, (3, [(1, .negSucc 2147483647, .ofNat 2147483647), (2, .negSucc 2147483647, .ofNat 2147483647)], [(2310144, .inr (some (some 343)))], [], [], [1, 2, 3, 4, 5, 6, 7]), [(0, .inr (some (some 282))), (1, .inl (1, .ofNat 0)), (2, .inl (2, .ofNat 0)), (3, .inl (0, .ofNat 1))]),
    (4, none, (3, [(1, .negSucc 2147483647, .ofNat 2147483647), (2, .negSucc 2147483647, .ofNat 2147483647)], [(2310144, .inr (some (some 343)))], [], [], [1, 2, 3, 4, 5, 6, 7]), [(0, .inr (some (some 282))), (1, .inl (1, .ofNat 0)), (2, .inl (2, .ofNat 0)), (3, .inl (0, .ofNat 2))]),
    (3, none, (3, [(1, .negSucc 2147483647, .ofNat 2147483647), (2, .negSucc 2147483647, .ofNat 2147483647)], [(2310144, .inr (some (some 343)))], [], [], [1, 2, 3, 4, 5, 6, 7]), [(0, .inr (some (some 282))), (1, .inl (1, .ofNat 0)), (2, .inl (2, .ofNat 0)), (3, .inl (0, .ofNat 3))]),
    (2, none, (3, [(1, .negSucc 2147483647, .ofNat 2147483647), (2, .negSucc 2147483647, .ofNat 2147483647)], [(2310144, .inr (some (some 343)))], [], [], [1, 2, 3, 4, 5, 6, 7]), [(0, .inr (some (some 282))), (1, .inl (1, .ofNat 0)), (2, .inl (2, .ofNat 0)), (3, .inl (0, .ofNat 4))]),
    (1, none, (3, [(1, .negSucc 2147483647, .ofNat 2147483647), (2, .negSucc 2147483647, .ofNat 2147483647)], [(2310144, .inr (some (some 343)))], [], [], [1, 2, 3, 4, 5, 6, 7]), [(0, .inr (some (some 282))), (1, .inl (1, .ofNat 0)), (2, .inl (2, .ofNat 0)), (3, .inl (0, .ofNat 5))])]), none, none, none, none, none, none, none, none, none, none, none]]
set_option maxRecDepth 1000000 in
theorem jxb_c80_ok (hX : jc_Xo jxb X) : jc_Con jP jxb X jxb_c80 := jc_mth_ok (Z := (jxb, [], jT, [], jxb_SP, jxb_c80_N, .ofNat 100000)) (f := 100000) jxb_ok hX jT_ok jc_c0 (by decide +kernel)
-- trial.B.isKept
def jxb_c81 : jc_Cn := (89, 1, [.inr (some (some 282)), .inl (1, .ofNat 0)], (2, [(1, .ofNat 0, .ofNat 4)], [(2310144, .inr (some (some 343)))], [], [], [1, 2, 3, 4, 5, 6, 7]), [], [((2, [(1, .ofNat 0, .ofNat 1)], [(2310144, .inr (some (some 343)))], [], [], [1, 2, 3, 4, 5, 6, 7]), some (.inl (1, .ofNat 0)))])
def jxb_c81_N : jc_Nt := [some [none, none, some ([(5, none, (2, [(1, .ofNat 0, .ofNat 4)], [(2310144, .inr (some (some 343)))], [], [], [1, 2, 3, 4, 5, 6, 7]), [(0, .inr (some (some 282))), (1, .inl (1, .ofNat 0)), (2, .inl (0, .ofNat 0))]),
    (4, none, (2, [(1, .ofNat 0, .ofNat 4)], [(2310144, .inr (some (some 343)))], [], [], [1, 2, 3, 4, 5, 6, 7]), [(0, .inr (some (some 282))), (1, .inl (1, .ofNat 0)), (2, .inl (0, .ofNat 1))]),
    (3, none, (2, [(1, .ofNat 0, .ofNat 4)], [(2310144, .inr (some (some 343)))], [], [], [1, 2, 3, 4, 5, 6, 7]), [(0, .inr (some (some 282))), (1, .inl (1, .ofNat 0)), (2, .inl (0, .ofNat 2))]),
    (2, none, (2, [(1, .ofNat 0, .ofNat 4)], [(2310144, .inr (some (some 343)))], [], [], [1, 2, 3, 4, 5, 6, 7]), [(0, .inr (some (some 282))), (1, .inl (1, .ofNat 0)), (2, .inl (0, .ofNat 3))]),
    (1, none, (2, [(1, .ofNat 0, .ofNat 4)], [(2310144, .inr (some (some 343)))], [], [], [1, 2, 3, 4, 5, 6, 7]), [(0, .inr (some (some 282))), (1, .inl (1, .ofNat 0)), (2, .inl (0, .ofNat 4))])]), none, none, none, none, none, none, none, none, none, none, none, none, none]]
set_option maxRecDepth 1000000 in
theorem jxb_c81_ok (hX : jc_Xo jxb X) : jc_Con jP jxb X jxb_c81 := jc_mth_ok (Z := (jxb, [], jT, [], jxb_SP, jxb_c81_N, .ofNat 100000)) (f := 100000) jxb_ok hX jT_ok jc_c0 (by decide +kernel)
-- trial.B.targetO0
def jxb_c82 : jc_Cn := (85, 1, [.inr (some (some 282)), .inl (0, .ofNat 0)], (2, [(1, .ofNat 1, .ofNat 5)], [(2310144, .inr (some (some 343))), (2334720, .inl (0, .ofNat 0)), (2809861, .inl (1, .ofNat 0))], [], [], [1, 2, 3, 5, 6, 7]), [], [((3, [(1, .negSucc 0, .ofNat 20), (2, .ofNat 1, .ofNat 5)], [(2310144, .inr (some (some 343))), (2334720, .inl (0, .ofNat 0)), (2809861, .inl (2, .ofNat 0))], [], [], [1, 2, 3, 5, 6, 7]), some (.inl (1, .ofNat 0)))])
def jxb_c82_N : jc_Nt := []
set_option maxRecDepth 1000000 in
theorem jxb_c82_ok (hX : jc_Xo jxb X) : jc_Con jP jxb X jxb_c82 := jc_mth_ok (Z := (jxb, [], jT, [jxb_c78], jxb_SP, jxb_c82_N, .ofNat 100000)) (f := 100000) jxb_ok hX jT_ok (jc_c1 (jxb_c78_ok hX) jc_c0) (by decide +kernel)
-- trial.B.targetI0
def jxb_c83 : jc_Cn := (85, 1, [.inr (some (some 282)), .inl (0, .ofNat 0)], (2, [(1, .ofNat 1, .ofNat 5)], [(2310144, .inr (some (some 343))), (2334720, .inl (0, .ofNat 1)), (2809861, .inl (1, .ofNat 0))], [], [], [1, 2, 3, 5, 6, 7]), [], [((3, [(1, .negSucc 1, .ofNat 21), (2, .ofNat 1, .ofNat 5)], [(2310144, .inr (some (some 343))), (2334720, .inl (0, .ofNat 1)), (2809861, .inl (2, .ofNat 0))], [], [], [1, 2, 3, 5, 6, 7]), some (.inl (1, .ofNat 0)))])
def jxb_c83_N : jc_Nt := []
set_option maxRecDepth 1000000 in
theorem jxb_c83_ok (hX : jc_Xo jxb X) : jc_Con jP jxb X jxb_c83 := jc_mth_ok (Z := (jxb, [], jT, [jxb_c78], jxb_SP, jxb_c83_N, .ofNat 100000)) (f := 100000) jxb_ok hX jT_ok (jc_c1 (jxb_c78_ok hX) jc_c0) (by decide +kernel)
-- trial.B.targetB0
def jxb_c84 : jc_Cn := (85, 1, [.inr (some (some 282)), .inl (0, .ofNat 0)], (3, [(1, .ofNat 1, .ofNat 5), (2, .ofNat 0, .ofNat 1)], [(2310144, .inr (some (some 343))), (2334720, .inl (2, .ofNat 0)), (2809861, .inl (1, .ofNat 0))], [], [], [1, 2, 3, 5, 6, 7]), [], [((4, [(1, .negSucc 1, .ofNat 21), (2, .ofNat 0, .ofNat 1), (3, .ofNat 1, .ofNat 5)], [(2310144, .inr (some (some 343))), (2334720, .inl (2, .ofNat 0)), (2809861, .inl (3, .ofNat 0))], [], [], [1, 2, 3, 5, 6, 7]), some (.inl (1, .ofNat 0)))])
def jxb_c84_N : jc_Nt := []
set_option maxRecDepth 1000000 in
theorem jxb_c84_ok (hX : jc_Xo jxb X) : jc_Con jP jxb X jxb_c84 := jc_mth_ok (Z := (jxb, [], jT, [jxb_c78], jxb_SP, jxb_c84_N, .ofNat 100000)) (f := 100000) jxb_ok hX jT_ok (jc_c1 (jxb_c78_ok hX) jc_c0) (by decide +kernel)
-- trial.B.targetO1
def jxb_c85 : jc_Cn := (85, 1, [.inr (some (some 282)), .inl (0, .ofNat 1)], (2, [(1, .ofNat 2, .ofNat 5)], [(2310144, .inr (some (some 343))), (2334721, .inl (0, .ofNat 0)), (2809861, .inl (1, .ofNat 0))], [], [], [1, 2, 3, 5, 6, 7]), [], [((3, [(1, .negSucc 0, .ofNat 20), (2, .ofNat 2, .ofNat 5)], [(2310144, .inr (some (some 343))), (2334721, .inl (0, .ofNat 0)), (2809861, .inl (2, .ofNat 0))], [], [], [1, 2, 3, 5, 6, 7]), some (.inl (1, .ofNat 0)))])
def jxb_c85_N : jc_Nt := []
set_option maxRecDepth 1000000 in
theorem jxb_c85_ok (hX : jc_Xo jxb X) : jc_Con jP jxb X jxb_c85 := jc_mth_ok (Z := (jxb, [], jT, [jxb_c78], jxb_SP, jxb_c85_N, .ofNat 100000)) (f := 100000) jxb_ok hX jT_ok (jc_c1 (jxb_c78_ok hX) jc_c0) (by decide +kernel)
-- trial.B.targetI1
def jxb_c86 : jc_Cn := (85, 1, [.inr (some (some 282)), .inl (0, .ofNat 1)], (2, [(1, .ofNat 2, .ofNat 5)], [(2310144, .inr (some (some 343))), (2334721, .inl (0, .ofNat 1)), (2809861, .inl (1, .ofNat 0))], [], [], [1, 2, 3, 5, 6, 7]), [], [((3, [(1, .negSucc 1, .ofNat 21), (2, .ofNat 2, .ofNat 5)], [(2310144, .inr (some (some 343))), (2334721, .inl (0, .ofNat 1)), (2809861, .inl (2, .ofNat 0))], [], [], [1, 2, 3, 5, 6, 7]), some (.inl (1, .ofNat 0)))])
def jxb_c86_N : jc_Nt := []
set_option maxRecDepth 1000000 in
theorem jxb_c86_ok (hX : jc_Xo jxb X) : jc_Con jP jxb X jxb_c86 := jc_mth_ok (Z := (jxb, [], jT, [jxb_c78], jxb_SP, jxb_c86_N, .ofNat 100000)) (f := 100000) jxb_ok hX jT_ok (jc_c1 (jxb_c78_ok hX) jc_c0) (by decide +kernel)
-- trial.B.targetB1
def jxb_c87 : jc_Cn := (85, 1, [.inr (some (some 282)), .inl (0, .ofNat 1)], (3, [(1, .ofNat 2, .ofNat 5), (2, .ofNat 0, .ofNat 1)], [(2310144, .inr (some (some 343))), (2334721, .inl (2, .ofNat 0)), (2809861, .inl (1, .ofNat 0))], [], [], [1, 2, 3, 5, 6, 7]), [], [((4, [(1, .negSucc 1, .ofNat 21), (2, .ofNat 0, .ofNat 1), (3, .ofNat 2, .ofNat 5)], [(2310144, .inr (some (some 343))), (2334721, .inl (2, .ofNat 0)), (2809861, .inl (3, .ofNat 0))], [], [], [1, 2, 3, 5, 6, 7]), some (.inl (1, .ofNat 0)))])
def jxb_c87_N : jc_Nt := []
set_option maxRecDepth 1000000 in
theorem jxb_c87_ok (hX : jc_Xo jxb X) : jc_Con jP jxb X jxb_c87 := jc_mth_ok (Z := (jxb, [], jT, [jxb_c78], jxb_SP, jxb_c87_N, .ofNat 100000)) (f := 100000) jxb_ok hX jT_ok (jc_c1 (jxb_c78_ok hX) jc_c0) (by decide +kernel)
-- trial.B.targetO2
def jxb_c88 : jc_Cn := (85, 1, [.inr (some (some 282)), .inl (0, .ofNat 2)], (2, [(1, .ofNat 3, .ofNat 5)], [(2310144, .inr (some (some 343))), (2334722, .inl (0, .ofNat 0)), (2809861, .inl (1, .ofNat 0))], [], [], [1, 2, 3, 5, 6, 7]), [], [((3, [(1, .negSucc 0, .ofNat 20), (2, .ofNat 3, .ofNat 5)], [(2310144, .inr (some (some 343))), (2334722, .inl (0, .ofNat 0)), (2809861, .inl (2, .ofNat 0))], [], [], [1, 2, 3, 5, 6, 7]), some (.inl (1, .ofNat 0)))])
def jxb_c88_N : jc_Nt := []
set_option maxRecDepth 1000000 in
theorem jxb_c88_ok (hX : jc_Xo jxb X) : jc_Con jP jxb X jxb_c88 := jc_mth_ok (Z := (jxb, [], jT, [jxb_c78], jxb_SP, jxb_c88_N, .ofNat 100000)) (f := 100000) jxb_ok hX jT_ok (jc_c1 (jxb_c78_ok hX) jc_c0) (by decide +kernel)
-- trial.B.targetI2
def jxb_c89 : jc_Cn := (85, 1, [.inr (some (some 282)), .inl (0, .ofNat 2)], (2, [(1, .ofNat 3, .ofNat 5)], [(2310144, .inr (some (some 343))), (2334722, .inl (0, .ofNat 1)), (2809861, .inl (1, .ofNat 0))], [], [], [1, 2, 3, 5, 6, 7]), [], [((3, [(1, .negSucc 1, .ofNat 21), (2, .ofNat 3, .ofNat 5)], [(2310144, .inr (some (some 343))), (2334722, .inl (0, .ofNat 1)), (2809861, .inl (2, .ofNat 0))], [], [], [1, 2, 3, 5, 6, 7]), some (.inl (1, .ofNat 0)))])
def jxb_c89_N : jc_Nt := []
set_option maxRecDepth 1000000 in
theorem jxb_c89_ok (hX : jc_Xo jxb X) : jc_Con jP jxb X jxb_c89 := jc_mth_ok (Z := (jxb, [], jT, [jxb_c78], jxb_SP, jxb_c89_N, .ofNat 100000)) (f := 100000) jxb_ok hX jT_ok (jc_c1 (jxb_c78_ok hX) jc_c0) (by decide +kernel)
-- trial.B.targetB2
def jxb_c90 : jc_Cn := (85, 1, [.inr (some (some 282)), .inl (0, .ofNat 2)], (3, [(1, .ofNat 3, .ofNat 5), (2, .ofNat 0, .ofNat 1)], [(2310144, .inr (some (some 343))), (2334722, .inl (2, .ofNat 0)), (2809861, .inl (1, .ofNat 0))], [], [], [1, 2, 3, 5, 6, 7]), [], [((4, [(1, .negSucc 1, .ofNat 21), (2, .ofNat 0, .ofNat 1), (3, .ofNat 3, .ofNat 5)], [(2310144, .inr (some (some 343))), (2334722, .inl (2, .ofNat 0)), (2809861, .inl (3, .ofNat 0))], [], [], [1, 2, 3, 5, 6, 7]), some (.inl (1, .ofNat 0)))])
def jxb_c90_N : jc_Nt := []
set_option maxRecDepth 1000000 in
theorem jxb_c90_ok (hX : jc_Xo jxb X) : jc_Con jP jxb X jxb_c90 := jc_mth_ok (Z := (jxb, [], jT, [jxb_c78], jxb_SP, jxb_c90_N, .ofNat 100000)) (f := 100000) jxb_ok hX jT_ok (jc_c1 (jxb_c78_ok hX) jc_c0) (by decide +kernel)
-- trial.B.targetO3
def jxb_c91 : jc_Cn := (85, 1, [.inr (some (some 282)), .inl (0, .ofNat 3)], (2, [(1, .ofNat 4, .ofNat 5)], [(2310144, .inr (some (some 343))), (2334723, .inl (0, .ofNat 0)), (2809861, .inl (1, .ofNat 0))], [], [], [1, 2, 3, 5, 6, 7]), [], [((3, [(1, .negSucc 0, .ofNat 20), (2, .ofNat 4, .ofNat 5)], [(2310144, .inr (some (some 343))), (2334723, .inl (0, .ofNat 0)), (2809861, .inl (2, .ofNat 0))], [], [], [1, 2, 3, 5, 6, 7]), some (.inl (1, .ofNat 0)))])
def jxb_c91_N : jc_Nt := []
set_option maxRecDepth 1000000 in
theorem jxb_c91_ok (hX : jc_Xo jxb X) : jc_Con jP jxb X jxb_c91 := jc_mth_ok (Z := (jxb, [], jT, [jxb_c78], jxb_SP, jxb_c91_N, .ofNat 100000)) (f := 100000) jxb_ok hX jT_ok (jc_c1 (jxb_c78_ok hX) jc_c0) (by decide +kernel)
-- trial.B.targetI3
def jxb_c92 : jc_Cn := (85, 1, [.inr (some (some 282)), .inl (0, .ofNat 3)], (2, [(1, .ofNat 4, .ofNat 5)], [(2310144, .inr (some (some 343))), (2334723, .inl (0, .ofNat 1)), (2809861, .inl (1, .ofNat 0))], [], [], [1, 2, 3, 5, 6, 7]), [], [((3, [(1, .negSucc 1, .ofNat 21), (2, .ofNat 4, .ofNat 5)], [(2310144, .inr (some (some 343))), (2334723, .inl (0, .ofNat 1)), (2809861, .inl (2, .ofNat 0))], [], [], [1, 2, 3, 5, 6, 7]), some (.inl (1, .ofNat 0)))])
def jxb_c92_N : jc_Nt := []
set_option maxRecDepth 1000000 in
theorem jxb_c92_ok (hX : jc_Xo jxb X) : jc_Con jP jxb X jxb_c92 := jc_mth_ok (Z := (jxb, [], jT, [jxb_c78], jxb_SP, jxb_c92_N, .ofNat 100000)) (f := 100000) jxb_ok hX jT_ok (jc_c1 (jxb_c78_ok hX) jc_c0) (by decide +kernel)
-- trial.B.targetB3
def jxb_c93 : jc_Cn := (85, 1, [.inr (some (some 282)), .inl (0, .ofNat 3)], (3, [(1, .ofNat 4, .ofNat 5), (2, .ofNat 0, .ofNat 1)], [(2310144, .inr (some (some 343))), (2334723, .inl (2, .ofNat 0)), (2809861, .inl (1, .ofNat 0))], [], [], [1, 2, 3, 5, 6, 7]), [], [((4, [(1, .negSucc 1, .ofNat 21), (2, .ofNat 0, .ofNat 1), (3, .ofNat 4, .ofNat 5)], [(2310144, .inr (some (some 343))), (2334723, .inl (2, .ofNat 0)), (2809861, .inl (3, .ofNat 0))], [], [], [1, 2, 3, 5, 6, 7]), some (.inl (1, .ofNat 0)))])
def jxb_c93_N : jc_Nt := []
set_option maxRecDepth 1000000 in
theorem jxb_c93_ok (hX : jc_Xo jxb X) : jc_Con jP jxb X jxb_c93 := jc_mth_ok (Z := (jxb, [], jT, [jxb_c78], jxb_SP, jxb_c93_N, .ofNat 100000)) (f := 100000) jxb_ok hX jT_ok (jc_c1 (jxb_c78_ok hX) jc_c0) (by decide +kernel)
-- trial.B.targetO4
def jxb_c94 : jc_Cn := (85, 1, [.inr (some (some 282)), .inl (0, .ofNat 4)], (2, [(1, .ofNat 5, .ofNat 5)], [(2310144, .inr (some (some 343))), (2334724, .inl (0, .ofNat 0)), (2809861, .inl (1, .ofNat 0))], [], [], [1, 2, 3, 5, 6, 7]), [], [((2, [(1, .negSucc 0, .ofNat 20)], [(2310144, .inr (some (some 343))), (2334724, .inl (0, .ofNat 0)), (2809861, .inl (0, .ofNat 5))], [], [], [1, 2, 3, 5, 6, 7]), some (.inl (1, .ofNat 0)))])
def jxb_c94_N : jc_Nt := []
set_option maxRecDepth 1000000 in
theorem jxb_c94_ok (hX : jc_Xo jxb X) : jc_Con jP jxb X jxb_c94 := jc_mth_ok (Z := (jxb, [], jT, [jxb_c78], jxb_SP, jxb_c94_N, .ofNat 100000)) (f := 100000) jxb_ok hX jT_ok (jc_c1 (jxb_c78_ok hX) jc_c0) (by decide +kernel)
-- trial.B.targetI4
def jxb_c95 : jc_Cn := (85, 1, [.inr (some (some 282)), .inl (0, .ofNat 4)], (2, [(1, .ofNat 5, .ofNat 5)], [(2310144, .inr (some (some 343))), (2334724, .inl (0, .ofNat 1)), (2809861, .inl (1, .ofNat 0))], [], [], [1, 2, 3, 5, 6, 7]), [], [((2, [(1, .negSucc 1, .ofNat 21)], [(2310144, .inr (some (some 343))), (2334724, .inl (0, .ofNat 1)), (2809861, .inl (0, .ofNat 5))], [], [], [1, 2, 3, 5, 6, 7]), some (.inl (1, .ofNat 0)))])
def jxb_c95_N : jc_Nt := []
set_option maxRecDepth 1000000 in
theorem jxb_c95_ok (hX : jc_Xo jxb X) : jc_Con jP jxb X jxb_c95 := jc_mth_ok (Z := (jxb, [], jT, [jxb_c78], jxb_SP, jxb_c95_N, .ofNat 100000)) (f := 100000) jxb_ok hX jT_ok (jc_c1 (jxb_c78_ok hX) jc_c0) (by decide +kernel)
-- trial.B.targetB4
def jxb_c96 : jc_Cn := (85, 1, [.inr (some (some 282)), .inl (0, .ofNat 4)], (3, [(1, .ofNat 5, .ofNat 5), (2, .ofNat 0, .ofNat 1)], [(2310144, .inr (some (some 343))), (2334724, .inl (2, .ofNat 0)), (2809861, .inl (1, .ofNat 0))], [], [], [1, 2, 3, 5, 6, 7]), [], [((3, [(1, .negSucc 1, .ofNat 21), (2, .ofNat 0, .ofNat 1)], [(2310144, .inr (some (some 343))), (2334724, .inl (2, .ofNat 0)), (2809861, .inl (0, .ofNat 5))], [], [], [1, 2, 3, 5, 6, 7]), some (.inl (1, .ofNat 0)))])
def jxb_c96_N : jc_Nt := []
set_option maxRecDepth 1000000 in
theorem jxb_c96_ok (hX : jc_Xo jxb X) : jc_Con jP jxb X jxb_c96 := jc_mth_ok (Z := (jxb, [], jT, [jxb_c78], jxb_SP, jxb_c96_N, .ofNat 100000)) (f := 100000) jxb_ok hX jT_ok (jc_c1 (jxb_c78_ok hX) jc_c0) (by decide +kernel)
-- trial.B.waitsFor0
def jxb_c97 : jc_Cn := (81, 3, [.inr (some (some 282)), .inl (0, .ofNat 0)], (2, [(1, .ofNat 1, .ofNat 5)], [(2310144, .inr (some (some 343))), (2809861, .inl (1, .ofNat 0))], [], [], [1, 2, 3, 5, 6, 7]), [], [((3, [(1, .negSucc 2147483647, .ofNat 2147483647), (2, .ofNat 1, .ofNat 5)], [(2310144, .inr (some (some 343))), (2809861, .inl (2, .ofNat 0))], [], [], [1, 2, 3, 5, 6, 7]), some (.inl (1, .ofNat 0)))])
def jxb_c97_N : jc_Nt := [none,
  none,
  none,
  none,
  some [none, none, none, none, none, some ([(6, none, (3, [(1, .negSucc 2147483647, .ofNat 2147483647), (2, .ofNat 1, .ofNat 5)], [(2310144, .inr (some (some 343))), (2809861, .inl (2, .ofNat 0))], [], [], [1, 2, 3, 5, 6, 7]), [(0, .inr (some (some 282))), (1, .inl (0, .ofNat 0)), (2, .inl (0, .negSucc 0)), (3, .inl (1, .ofNat 0)), (4, .inl (0, .ofNat 0)), (5, .inl (0, .ofNat 0))]),
    (5, none, (4, [(1, .negSucc 2147483647, .ofNat 2147483647), (2, .ofNat 0, .ofNat 1), (3, .ofNat 1, .ofNat 5)], [(2310144, .inr (some (some 343))), (2809861, .inl (3, .ofNat 0))], [], [], [1, 2, 3, 5, 6, 7]), [(0, .inr (some (some 282))), (1, .inl (0, .ofNat 0)), (2, .inl (0, .negSucc 0)), (3, .inl (1, .ofNat 0)), (4, .inl (2, .ofNat 0)), (5, .inl (0, .ofNat 1))]),
    (4, none, (4, [(1, .negSucc 2147483647, .ofNat 2147483647), (2, .ofNat 0, .ofNat 127), (3, .ofNat 2, .ofNat 5)], [(2310144, .inr (some (some 343))), (2809861, .inl (3, .ofNat 0))], [], [], [1, 2, 3, 5, 6, 7]), [(0, .inr (some (some 282))), (1, .inl (0, .ofNat 0)), (2, .inl (0, .negSucc 0)), (3, .inl (1, .ofNat 0)), (4, .inl (2, .ofNat 0)), (5, .inl (0, .ofNat 2))]),
    (3, none, (4, [(1, .negSucc 2147483647, .ofNat 2147483647), (2, .ofNat 0, .ofNat 127), (3, .ofNat 3, .ofNat 5)], [(2310144, .inr (some (some 343))), (2809861, .inl (3, .ofNat 0))], [], [], [1, 2, 3, 5, 6, 7]), [(0, .inr (some (some 282))), (1, .inl (0, .ofNat 0)), (2, .inl (0, .negSucc 0)), (3, .inl (1, .ofNat 0)), (4, .inl (2, .ofNat 0)), (5, .inl (0, .ofNat 3))]),
    (2, none, (4, [(1, .negSucc 2147483647, .ofNat 2147483647), (2, .ofNat 0, .ofNat 127), (3, .ofNat 4, .ofNat 5)], [(2310144, .inr (some (some 343))), (2809861, .inl (3, .ofNat 0))], [], [], [1, 2, 3, 5, 6, 7]), [(0, .inr (some (some 282))), (1, .inl (0, .ofNat 0)), (2, .inl (0, .negSucc 0)), (3, .inl (1, .ofNat 0)), (4, .inl (2, .ofNat 0)), (5, .inl (0, .ofNat 4))]),
    (1, none, (3, [(1, .negSucc 2147483647, .ofNat 2147483647), (2, .ofNat 0, .ofNat 127)], [(2310144, .inr (some (some 343))), (2809861, .inl (0, .ofNat 5))], [], [], [1, 2, 3, 5, 6, 7]), [(0, .inr (some (some 282))), (1, .inl (0, .ofNat 0)), (2, .inl (0, .negSucc 0)), (3, .inl (1, .ofNat 0)), (4, .inl (2, .ofNat 0)), (5, .inl (0, .ofNat 5))])]), none, none, none, none, none, none, none, none, none, none]]
set_option maxRecDepth 1000000 in
theorem jxb_c97_ok (hX : jc_Xo jxb X) : jc_Con jP jxb X jxb_c97 := jc_mth_ok (Z := (jxb, [], jT, [jxb_c83], jxb_SP, jxb_c97_N, .ofNat 100000)) (f := 100000) jxb_ok hX jT_ok (jc_c1 (jxb_c83_ok hX) jc_c0) (by decide +kernel)
-- trial.B.waitsFor1
def jxb_c98 : jc_Cn := (81, 3, [.inr (some (some 282)), .inl (0, .ofNat 1)], (2, [(1, .ofNat 2, .ofNat 5)], [(2310144, .inr (some (some 343))), (2809861, .inl (1, .ofNat 0))], [], [], [1, 2, 3, 5, 6, 7]), [], [((3, [(1, .negSucc 2147483647, .ofNat 2147483647), (2, .ofNat 2, .ofNat 5)], [(2310144, .inr (some (some 343))), (2809861, .inl (2, .ofNat 0))], [], [], [1, 2, 3, 5, 6, 7]), some (.inl (1, .ofNat 0)))])
def jxb_c98_N : jc_Nt := [none,
  none,
  none,
  none,
  some [none, none, none, none, none, some ([(6, none, (3, [(1, .negSucc 2147483647, .ofNat 2147483647), (2, .ofNat 2, .ofNat 5)], [(2310144, .inr (some (some 343))), (2809861, .inl (2, .ofNat 0))], [], [], [1, 2, 3, 5, 6, 7]), [(0, .inr (some (some 282))), (1, .inl (0, .ofNat 1)), (2, .inl (0, .negSucc 0)), (3, .inl (1, .ofNat 0)), (4, .inl (0, .ofNat 0)), (5, .inl (0, .ofNat 0))]),
    (5, none, (4, [(1, .negSucc 2147483647, .ofNat 2147483647), (2, .ofNat 0, .ofNat 1), (3, .ofNat 2, .ofNat 5)], [(2310144, .inr (some (some 343))), (2809861, .inl (3, .ofNat 0))], [], [], [1, 2, 3, 5, 6, 7]), [(0, .inr (some (some 282))), (1, .inl (0, .ofNat 1)), (2, .inl (0, .negSucc 0)), (3, .inl (1, .ofNat 0)), (4, .inl (2, .ofNat 0)), (5, .inl (0, .ofNat 1))]),
    (4, none, (4, [(1, .negSucc 2147483647, .ofNat 2147483647), (2, .ofNat 0, .ofNat 127), (3, .ofNat 2, .ofNat 5)], [(2310144, .inr (some (some 343))), (2809861, .inl (3, .ofNat 0))], [], [], [1, 2, 3, 5, 6, 7]), [(0, .inr (some (some 282))), (1, .inl (0, .ofNat 1)), (2, .inl (0, .negSucc 0)), (3, .inl (1, .ofNat 0)), (4, .inl (2, .ofNat 0)), (5, .inl (0, .ofNat 2))]),
    (3, none, (4, [(1, .negSucc 2147483647, .ofNat 2147483647), (2, .ofNat 0, .ofNat 127), (3, .ofNat 3, .ofNat 5)], [(2310144, .inr (some (some 343))), (2809861, .inl (3, .ofNat 0))], [], [], [1, 2, 3, 5, 6, 7]), [(0, .inr (some (some 282))), (1, .inl (0, .ofNat 1)), (2, .inl (0, .negSucc 0)), (3, .inl (1, .ofNat 0)), (4, .inl (2, .ofNat 0)), (5, .inl (0, .ofNat 3))]),
    (2, none, (4, [(1, .negSucc 2147483647, .ofNat 2147483647), (2, .ofNat 0, .ofNat 127), (3, .ofNat 4, .ofNat 5)], [(2310144, .inr (some (some 343))), (2809861, .inl (3, .ofNat 0))], [], [], [1, 2, 3, 5, 6, 7]), [(0, .inr (some (some 282))), (1, .inl (0, .ofNat 1)), (2, .inl (0, .negSucc 0)), (3, .inl (1, .ofNat 0)), (4, .inl (2, .ofNat 0)), (5, .inl (0, .ofNat 4))]),
    (1, none, (3, [(1, .negSucc 2147483647, .ofNat 2147483647), (2, .ofNat 0, .ofNat 127)], [(2310144, .inr (some (some 343))), (2809861, .inl (0, .ofNat 5))], [], [], [1, 2, 3, 5, 6, 7]), [(0, .inr (some (some 282))), (1, .inl (0, .ofNat 1)), (2, .inl (0, .negSucc 0)), (3, .inl (1, .ofNat 0)), (4, .inl (2, .ofNat 0)), (5, .inl (0, .ofNat 5))])]), none, none, none, none, none, none, none, none, none, none]]
set_option maxRecDepth 1000000 in
theorem jxb_c98_ok (hX : jc_Xo jxb X) : jc_Con jP jxb X jxb_c98 := jc_mth_ok (Z := (jxb, [], jT, [jxb_c86], jxb_SP, jxb_c98_N, .ofNat 100000)) (f := 100000) jxb_ok hX jT_ok (jc_c1 (jxb_c86_ok hX) jc_c0) (by decide +kernel)
-- trial.B.waitsFor2
def jxb_c99 : jc_Cn := (81, 3, [.inr (some (some 282)), .inl (0, .ofNat 2)], (2, [(1, .ofNat 3, .ofNat 5)], [(2310144, .inr (some (some 343))), (2809861, .inl (1, .ofNat 0))], [], [], [1, 2, 3, 5, 6, 7]), [], [((3, [(1, .negSucc 2147483647, .ofNat 2147483647), (2, .ofNat 3, .ofNat 5)], [(2310144, .inr (some (some 343))), (2809861, .inl (2, .ofNat 0))], [], [], [1, 2, 3, 5, 6, 7]), some (.inl (1, .ofNat 0)))])
def jxb_c99_N : jc_Nt := [none,
  none,
  none,
  none,
  some [none, none, none, none, none, some ([(6, none, (3, [(1, .negSucc 2147483647, .ofNat 2147483647), (2, .ofNat 3, .ofNat 5)], [(2310144, .inr (some (some 343))), (2809861, .inl (2, .ofNat 0))], [], [], [1, 2, 3, 5, 6, 7]), [(0, .inr (some (some 282))), (1, .inl (0, .ofNat 2)), (2, .inl (0, .negSucc 0)), (3, .inl (1, .ofNat 0)), (4, .inl (0, .ofNat 0)), (5, .inl (0, .ofNat 0))]),
    (5, none, (4, [(1, .negSucc 2147483647, .ofNat 2147483647), (2, .ofNat 0, .ofNat 1), (3, .ofNat 3, .ofNat 5)], [(2310144, .inr (some (some 343))), (2809861, .inl (3, .ofNat 0))], [], [], [1, 2, 3, 5, 6, 7]), [(0, .inr (some (some 282))), (1, .inl (0, .ofNat 2)), (2, .inl (0, .negSucc 0)), (3, .inl (1, .ofNat 0)), (4, .inl (2, .ofNat 0)), (5, .inl (0, .ofNat 1))]),
    (4, none, (4, [(1, .negSucc 2147483647, .ofNat 2147483647), (2, .ofNat 0, .ofNat 127), (3, .ofNat 3, .ofNat 5)], [(2310144, .inr (some (some 343))), (2809861, .inl (3, .ofNat 0))], [], [], [1, 2, 3, 5, 6, 7]), [(0, .inr (some (some 282))), (1, .inl (0, .ofNat 2)), (2, .inl (0, .negSucc 0)), (3, .inl (1, .ofNat 0)), (4, .inl (2, .ofNat 0)), (5, .inl (0, .ofNat 2))]),
    (3, none, (4, [(1, .negSucc 2147483647, .ofNat 2147483647), (2, .ofNat 0, .ofNat 127), (3, .ofNat 3, .ofNat 5)], [(2310144, .inr (some (some 343))), (2809861, .inl (3, .ofNat 0))], [], [], [1, 2, 3, 5, 6, 7]), [(0, .inr (some (some 282))), (1, .inl (0, .ofNat 2)), (2, .inl (0, .negSucc 0)), (3, .inl (1, .ofNat 0)), (4, .inl (2, .ofNat 0)), (5, .inl (0, .ofNat 3))]),
    (2, none, (4, [(1, .negSucc 2147483647, .ofNat 2147483647), (2, .ofNat 0, .ofNat 127), (3, .ofNat 4, .ofNat 5)], [(2310144, .inr (some (some 343))), (2809861, .inl (3, .ofNat 0))], [], [], [1, 2, 3, 5, 6, 7]), [(0, .inr (some (some 282))), (1, .inl (0, .ofNat 2)), (2, .inl (0, .negSucc 0)), (3, .inl (1, .ofNat 0)), (4, .inl (2, .ofNat 0)), (5, .inl (0, .ofNat 4))]),
    (1, none, (3, [(1, .negSucc 2147483647, .ofNat 2147483647), (2, .ofNat 0, .ofNat 127)], [(2310144, .inr (some (some 343))), (2809861, .inl (0, .ofNat 5))], [], [], [1, 2, 3, 5, 6, 7]), [(0, .inr (some (some 282))), (1, .inl (0, .ofNat 2)), (2, .inl (0, .negSucc 0)), (3, .inl (1, .ofNat 0)), (4, .inl (2, .ofNat 0)), (5, .inl (0, .ofNat 5))])]), none, none, none, none, none, none, none, none, none, none]]
set_option maxRecDepth 1000000 in
theorem jxb_c99_ok (hX : jc_Xo jxb X) : jc_Con jP jxb X jxb_c99 := jc_mth_ok (Z := (jxb, [], jT, [jxb_c89], jxb_SP, jxb_c99_N, .ofNat 100000)) (f := 100000) jxb_ok hX jT_ok (jc_c1 (jxb_c89_ok hX) jc_c0) (by decide +kernel)
-- trial.B.waitsFor3
def jxb_c100 : jc_Cn := (81, 3, [.inr (some (some 282)), .inl (0, .ofNat 3)], (2, [(1, .ofNat 4, .ofNat 5)], [(2310144, .inr (some (some 343))), (2809861, .inl (1, .ofNat 0))], [], [], [1, 2, 3, 5, 6, 7]), [], [((3, [(1, .negSucc 2147483647, .ofNat 2147483647), (2, .ofNat 4, .ofNat 5)], [(2310144, .inr (some (some 343))), (2809861, .inl (2, .ofNat 0))], [], [], [1, 2, 3, 5, 6, 7]), some (.inl (1, .ofNat 0)))])
def jxb_c100_N : jc_Nt := [none,
  none,
  none,
  none,
  some [none, none, none, none, none, some ([(6, none, (3, [(1, .negSucc 2147483647, .ofNat 2147483647), (2, .ofNat 4, .ofNat 5)], [(2310144, .inr (some (some 343))), (2809861, .inl (2, .ofNat 0))], [], [], [1, 2, 3, 5, 6, 7]), [(0, .inr (some (some 282))), (1, .inl (0, .ofNat 3)), (2, .inl (0, .negSucc 0)), (3, .inl (1, .ofNat 0)), (4, .inl (0, .ofNat 0)), (5, .inl (0, .ofNat 0))]),
    (5, none, (4, [(1, .negSucc 2147483647, .ofNat 2147483647), (2, .ofNat 0, .ofNat 1), (3, .ofNat 4, .ofNat 5)], [(2310144, .inr (some (some 343))), (2809861, .inl (3, .ofNat 0))], [], [], [1, 2, 3, 5, 6, 7]), [(0, .inr (some (some 282))), (1, .inl (0, .ofNat 3)), (2, .inl (0, .negSucc 0)), (3, .inl (1, .ofNat 0)), (4, .inl (2, .ofNat 0)), (5, .inl (0, .ofNat 1))]),
    (4, none, (4, [(1, .negSucc 2147483647, .ofNat 2147483647), (2, .ofNat 0, .ofNat 127), (3, .ofNat 4, .ofNat 5)], [(2310144, .inr (some (some 343))), (2809861, .inl (3, .ofNat 0))], [], [], [1, 2, 3, 5, 6, 7]), [(0, .inr (some (some 282))), (1, .inl (0, .ofNat 3)), (2, .inl (0, .negSucc 0)), (3, .inl (1, .ofNat 0)), (4, .inl (2, .ofNat 0)), (5, .inl (0, .ofNat 2))]),
    (3, none, (4, [(1, .negSucc 2147483647, .ofNat 2147483647), (2, .ofNat 0, .ofNat 127), (3, .ofNat 4, .ofNat 5)], [(2310144, .inr (some (some 343))), (2809861, .inl (3, .ofNat 0))], [], [], [1, 2, 3, 5, 6, 7]), [(0, .inr (some (some 282))), (1, .inl (0, .ofNat 3)), (2, .inl (0, .negSucc 0)), (3, .inl (1, .ofNat 0)), (4, .inl (2, .ofNat 0)), (5, .inl (0, .ofNat 3))]),
    (2, none, (4, [(1, .negSucc 2147483647, .ofNat 2147483647), (2, .ofNat 0, .ofNat 127), (3, .ofNat 4, .ofNat 5)], [(2310144, .inr (some (some 343))), (2809861, .inl (3, .ofNat 0))], [], [], [1, 2, 3, 5, 6, 7]), [(0, .inr (some (some 282))), (1, .inl (0, .ofNat 3)), (2, .inl (0, .negSucc 0)), (3, .inl (1, .ofNat 0)), (4, .inl (2, .ofNat 0)), (5, .inl (0, .ofNat 4))]),
    (1, none, (3, [(1, .negSucc 2147483647, .ofNat 2147483647), (2, .ofNat 0, .ofNat 127)], [(2310144, .inr (some (some 343))), (2809861, .inl (0, .ofNat 5))], [], [], [1, 2, 3, 5, 6, 7]), [(0, .inr (some (some 282))), (1, .inl (0, .ofNat 3)), (2, .inl (0, .negSucc 0)), (3, .inl (1, .ofNat 0)), (4, .inl (2, .ofNat 0)), (5, .inl (0, .ofNat 5))])]), none, none, none, none, none, none, none, none, none, none]]
set_option maxRecDepth 1000000 in
theorem jxb_c100_ok (hX : jc_Xo jxb X) : jc_Con jP jxb X jxb_c100 := jc_mth_ok (Z := (jxb, [], jT, [jxb_c92], jxb_SP, jxb_c100_N, .ofNat 100000)) (f := 100000) jxb_ok hX jT_ok (jc_c1 (jxb_c92_ok hX) jc_c0) (by decide +kernel)
-- trial.B.waitsFor4
def jxb_c101 : jc_Cn := (81, 3, [.inr (some (some 282)), .inl (0, .ofNat 4)], (2, [(1, .ofNat 5, .ofNat 5)], [(2310144, .inr (some (some 343))), (2809861, .inl (1, .ofNat 0))], [], [], [1, 2, 3, 5, 6, 7]), [], [((2, [(1, .negSucc 2147483647, .ofNat 2147483647)], [(2310144, .inr (some (some 343))), (2809861, .inl (0, .ofNat 5))], [], [], [1, 2, 3, 5, 6, 7]), some (.inl (1, .ofNat 0)))])
def jxb_c101_N : jc_Nt := [none,
  none,
  none,
  none,
  some [none, none, none, none, none, some ([(6, none, (2, [(1, .negSucc 2147483647, .ofNat 2147483647)], [(2310144, .inr (some (some 343))), (2809861, .inl (0, .ofNat 5))], [], [], [1, 2, 3, 5, 6, 7]), [(0, .inr (some (some 282))), (1, .inl (0, .ofNat 4)), (2, .inl (0, .negSucc 0)), (3, .inl (1, .ofNat 0)), (4, .inl (0, .ofNat 0)), (5, .inl (0, .ofNat 0))]),
    (5, none, (3, [(1, .negSucc 2147483647, .ofNat 2147483647), (2, .ofNat 0, .ofNat 1)], [(2310144, .inr (some (some 343))), (2809861, .inl (0, .ofNat 5))], [], [], [1, 2, 3, 5, 6, 7]), [(0, .inr (some (some 282))), (1, .inl (0, .ofNat 4)), (2, .inl (0, .negSucc 0)), (3, .inl (1, .ofNat 0)), (4, .inl (2, .ofNat 0)), (5, .inl (0, .ofNat 1))]),
    (4, none, (3, [(1, .negSucc 2147483647, .ofNat 2147483647), (2, .ofNat 0, .ofNat 127)], [(2310144, .inr (some (some 343))), (2809861, .inl (0, .ofNat 5))], [], [], [1, 2, 3, 5, 6, 7]), [(0, .inr (some (some 282))), (1, .inl (0, .ofNat 4)), (2, .inl (0, .negSucc 0)), (3, .inl (1, .ofNat 0)), (4, .inl (2, .ofNat 0)), (5, .inl (0, .ofNat 2))]),
    (3, none, (3, [(1, .negSucc 2147483647, .ofNat 2147483647), (2, .ofNat 0, .ofNat 127)], [(2310144, .inr (some (some 343))), (2809861, .inl (0, .ofNat 5))], [], [], [1, 2, 3, 5, 6, 7]), [(0, .inr (some (some 282))), (1, .inl (0, .ofNat 4)), (2, .inl (0, .negSucc 0)), (3, .inl (1, .ofNat 0)), (4, .inl (2, .ofNat 0)), (5, .inl (0, .ofNat 3))]),
    (2, none, (3, [(1, .negSucc 2147483647, .ofNat 2147483647), (2, .ofNat 0, .ofNat 127)], [(2310144, .inr (some (some 343))), (2809861, .inl (0, .ofNat 5))], [], [], [1, 2, 3, 5, 6, 7]), [(0, .inr (some (some 282))), (1, .inl (0, .ofNat 4)), (2, .inl (0, .negSucc 0)), (3, .inl (1, .ofNat 0)), (4, .inl (2, .ofNat 0)), (5, .inl (0, .ofNat 4))]),
    (1, none, (3, [(1, .negSucc 2147483647, .ofNat 2147483647), (2, .ofNat 0, .ofNat 127)], [(2310144, .inr (some (some 343))), (2809861, .inl (0, .ofNat 5))], [], [], [1, 2, 3, 5, 6, 7]), [(0, .inr (some (some 282))), (1, .inl (0, .ofNat 4)), (2, .inl (0, .negSucc 0)), (3, .inl (1, .ofNat 0)), (4, .inl (2, .ofNat 0)), (5, .inl (0, .ofNat 5))])]), none, none, none, none, none, none, none, none, none, none]]
set_option maxRecDepth 1000000 in
theorem jxb_c101_ok (hX : jc_Xo jxb X) : jc_Con jP jxb X jxb_c101 := jc_mth_ok (Z := (jxb, [], jT, [jxb_c95], jxb_SP, jxb_c101_N, .ofNat 100000)) (f := 100000) jxb_ok hX jT_ok (jc_c1 (jxb_c95_ok hX) jc_c0) (by decide +kernel)
end Jjxb6

/-! contracts of the class, written by wip/jc -/
def jx_SP : jc_Sp := [none,
  some [none, none, none, none, none, none, none, none, none, none, none, none, none, none, some ([some [none, none, none, none, none, none, none, none, none, none, none, some ([101]), none, none, none, none]]), none],
  none,
  none,
  none,
  some [none, none, none, some ([some [none, none, none, none, none, none, none, none, none, none, none, none, none, none, none, some ([0])]]), some ([some [none, none, none, none, none, none, none, none, none, none, none, none, none, none, none, some ([0])]]), none, some ([some [some ([102]), none, none, none, none, none, none, none, none, none, none, none, none, none, none, none]]), none, none, none, none, none, none, some ([none,
  none,
  none,
  none,
  some [none, none, none, none, none, none, none, none, some ([1]), none, none, none, none, none, none, none]]), none, none],
  none,
  none,
  none,
  none,
  some [none, none, none, none, none, some ([some [none, none, none, none, none, none, none, none, none, none, none, none, some ([0]), none, none, some ([101])]]), none, none, none, none, none, none, none, none, none, none]]
theorem jx_C0 {X : J_H → Prop} : ∀ mj cs c, ja_n2 ([] : jc_Ct) mj = some cs → c ∈ cs → c.1 = mj ∧ jc_Con jP jx X c := fun mj cs c z => by have z : (none : Option (List jc_Cn)) = some cs := z; cases z
def jx_c0 : jc_Cn := (62, 0, [.inr (some (some 4)), .inl (1, .ofNat 0)], (2, [(1, .negSucc 2147483647, .ofNat 2147483647)], [(32768, .inr (some (some 327)))], [], [], [1, 2, 3, 4, 5]), [], [((2, [(1, .ofNat 0, .ofNat 5)], [(32768, .inr (some (some 327)))], [], [], [1, 2, 3, 4, 5]), some (.inl (1, .ofNat 0)))])
def jx_c0_N : jc_Nt := [some [none, none, none, none, some ([(6, none, (2, [(1, .negSucc 2147483647, .ofNat 2147483647)], [(32768, .inr (some (some 327)))], [], [], [1, 2, 3, 4, 5]), [(0, .inr (some (some 4))), (1, .inl (1, .ofNat 0)), (2, .inl (0, .ofNat 0)), (3, .inl (0, .ofNat 0))]),
    (5, none, (3, [(1, .negSucc 2147483647, .ofNat 2147483647), (2, .ofNat 0, .ofNat 1)], [(32768, .inr (some (some 327)))], [], [], [1, 2, 3, 4, 5]), [(0, .inr (some (some 4))), (1, .inl (1, .ofNat 0)), (2, .inl (2, .ofNat 0)), (3, .inl (0, .ofNat 1))]),
    (4, none, (3, [(1, .negSucc 2147483647, .ofNat 2147483647), (2, .ofNat 0, .ofNat 2)], [(32768, .inr (some (some 327)))], [], [], [1, 2, 3, 4, 5]), [(0, .inr (some (some 4))), (1, .inl (1, .ofNat 0)), (2, .inl (2, .ofNat 0)), (3, .inl (0, .ofNat 2))]),
    (3, none, (3, [(1, .negSucc 2147483647, .ofNat 2147483647), (2, .ofNat 0, .ofNat 3)], [(32768, .inr (some (some 327)))], [], [], [1, 2, 3, 4, 5]), [(0, .inr (some (some 4))), (1, .inl (1, .ofNat 0)), (2, .inl (2, .ofNat 0)), (3, .inl (0, .ofNat 3))]),
    (2, none, (3, [(1, .negSucc 2147483647, .ofNat 2147483647), (2, .ofNat 0, .ofNat 4)], [(32768, .inr (some (some 327)))], [], [], [1, 2, 3, 4, 5]), [(0, .inr (some (some 4))), (1, .inl (1, .ofNat 0)), (2, .inl (2, .ofNat 0)), (3, .inl (0, .ofNat 4))]),
    (1, none, (3, [(1, .negSucc 2147483647, .ofNat 2147483647), (2, .ofNat 0, .ofNat 5)], [(32768, .inr (some (some 327)))], [], [], [1, 2, 3, 4, 5]), [(0, .inr (some (some 4))), (1, .inl (1, .ofNat 0)), (2, .inl (2, .ofNat 0)), (3, .inl (0, .ofNat 5))])]), none, none, none, none, none, none, none, none, none, none, none]]
set_option maxRecDepth 1000000 in
theorem jx_c0_ok {X : J_H → Prop} (hX : jc_Xo jx X)  : jc_Con jP jx X jx_c0 := jc_mth_ok (Z := (jx, [], jT, ([] : jc_Ct), jx_SP, jx_c0_N, .ofNat 100000)) (f := 20000) jx_ok hX jT_ok jx_C0 (by decide +kernel)
def jx_c2 : jc_Cn := (68, 0, [.inr (some (some 4)), .inl (1, .ofNat 0)], (2, [(1, .negSucc 2147483647, .ofNat 2147483647)], [(32768, .inr (some (some 327)))], [], [], [1, 2, 3, 4, 5]), [], [((2, [(1, .ofNat 0, .ofNat 127)], [(32768, .inr (some (some 327)))], [], [], [1, 2, 3, 4, 5]), some (.inl (1, .ofNat 0)))])
def jx_c2_N : jc_Nt := [some [none, none, none, none, some ([(6, none, (2, [(1, .negSucc 2147483647, .ofNat 2147483647)], [(32768, .inr (some (some 327)))], [], [], [1, 2, 3, 4, 5]), [(0, .inr (some (some 4))), (1, .inl (1, .ofNat 0)), (2, .inl (0, .ofNat 0)), (3, .inl (0, .ofNat 0))]),
    (5, none, (3, [(1, .negSucc 2147483647, .ofNat 2147483647), (2, .ofNat 0, .ofNat 1)], [(32768, .inr (some (some 327)))], [], [], [1, 2, 3, 4, 5]), [(0, .inr (some (some 4))), (1, .inl (1, .ofNat 0)), (2, .inl (2, .ofNat 0)), (3, .inl (0, .ofNat 1))]),
    (4, none, (3, [(1, .negSucc 2147483647, .ofNat 2147483647), (2, .ofNat 0, .ofNat 127)], [(32768, .inr (some (some 327)))], [], [], [1, 2, 3, 4, 5]), [(0, .inr (some (some 4))), (1, .inl (1, .ofNat 0)), (2, .inl (2, .ofNat 0)), (3, .inl (0, .ofNat 2))]),
    (3, none, (3, [(1, .negSucc 2147483647, .ofNat 2147483647), (2, .ofNat 0, .ofNat 127)], [(32768, .inr (some (some 327)))], [], [], [1, 2, 3, 4, 5]), [(0, .inr (some (some 4))), (1, .inl (1, .ofNat 0)), (2, .inl (2, .ofNat 0)), (3, .inl (0, .ofNat 3))]),
    (2, none, (3, [(1, .negSucc 2147483647, .ofNat 2147483647), (2, .ofNat 0, .ofNat 127)], [(32768, .inr (some (some 327)))], [], [], [1, 2, 3, 4, 5]), [(0, .inr (some (some 4))), (1, .inl (1, .ofNat 0)), (2, .inl (2, .ofNat 0)), (3, .inl (0, .ofNat 4))]),
    (1, none, (3, [(1, .negSucc 2147483647, .ofNat 2147483647), (2, .ofNat 0, .ofNat 127)], [(32768, .inr (some (some 327)))], [], [], [1, 2, 3, 4, 5]), [(0, .inr (some (some 4))), (1, .inl (1, .ofNat 0)), (2, .inl (2, .ofNat 0)), (3, .inl (0, .ofNat 5))])]), none, none, none, none, none, none, none, none, none, none, none]]
set_option maxRecDepth 1000000 in
theorem jx_c2_ok {X : J_H → Prop} (hX : jc_Xo jx X)  : jc_Con jP jx X jx_c2 := jc_mth_ok (Z := (jx, [], jT, ([] : jc_Ct), jx_SP, jx_c2_N, .ofNat 100000)) (f := 20000) jx_ok hX jT_ok jx_C0 (by decide +kernel)

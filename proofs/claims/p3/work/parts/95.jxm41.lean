/-! contracts of the reference (41); written by wip/jc/e5.py -/
section Jjxm41
variable {X : J_H → Prop}
-- together
def jxm_c290 : jc_Cn := (253, 2, [.inr (some (some 359)), .inl (1, .ofNat 0), .inl (2, .ofNat 0), .inl (3, .ofNat 0)], (4, [(1, .negSucc 2147483647, .ofNat 2147483647), (2, .negSucc 2147483647, .ofNat 2147483647), (3, .ofNat 0, .ofNat 1)], [], [], [], [9, 12, 13, 14, 15, 16, 17, 18, 21, 22, 23, 24, 25]), [(359, 10, 11), (359, 0, 1)], [((2, [(1, .negSucc 2147483647, .ofNat 2147483647)], [], [], [], [9, 12, 13, 14, 15, 16, 17, 18, 21, 22, 23, 24, 25]), some (.inl (1, .ofNat 0)))])
def jxm_c290_N : jc_Nt := []
set_option maxRecDepth 1000000 in
theorem jxm_c290_ok (hX : jc_Xo jxm X) : jc_Con jP jxm X jxm_c290 := jc_mth_ok (Z := (jxm, [], jT, [], jxm_S0, jxm_c290_N, .ofNat 100000)) (f := 100000) jxm_ok hX jT_ok jc_c0 (by decide +kernel)
-- stood
def jxm_c291 : jc_Cn := (255, 2, [.inr (some (some 359)), .inl (1, .ofNat 0)], (2, [(1, .negSucc 2147483647, .ofNat 2147483647)], [], [], [], [9, 12, 13, 14, 15, 16, 17, 18, 21, 22, 23, 24, 25]), [(359, 10, 11), (359, 0, 1)], [((2, [(1, .negSucc 2147483647, .ofNat 2147483647)], [], [], [], [9, 12, 13, 14, 15, 16, 17, 18, 21, 22, 23, 24, 25]), some (.inl (1, .ofNat 0)))])
def jxm_c291_N : jc_Nt := []
set_option maxRecDepth 1000000 in
theorem jxm_c291_ok (hX : jc_Xo jxm X) : jc_Con jP jxm X jxm_c291 := jc_mth_ok (Z := (jxm, [], jT, [], jxm_S0, jxm_c291_N, .ofNat 100000)) (f := 100000) jxm_ok hX jT_ok jc_c0 (by decide +kernel)
-- late
def jxm_c292 : jc_Cn := (256, 3, [.inr (some (some 359)), .inl (1, .ofNat 0), .inl (2, .ofNat 0)], (3, [(1, .negSucc 2147483647, .ofNat 2147483647), (2, .negSucc 2147483647, .ofNat 2147483647)], [], [], [], [9, 12, 13, 14, 15, 16, 17, 18, 21, 22, 23, 24, 25]), [(359, 10, 11), (359, 0, 1)], [((2, [(1, .negSucc 2147483647, .ofNat 2147483647)], [], [], [], [9, 12, 13, 14, 15, 16, 17, 18, 21, 22, 23, 24, 25]), some (.inl (1, .ofNat 0)))])
def jxm_c292_N : jc_Nt := [none,
  none,
  none,
  none,
  some [none, none, none, none, none, none, none, none, none, none, none, none, none, none, none, some ([(1, some 4, (5, [(1, .ofNat 0, .ofNat 6), (2, .negSucc 2147483647, .ofNat 2147483647), (3, .negSucc 2147483647, .ofNat 2147483647), (4, .ofNat 0, .ofNat 6)], [], [], [], [9, 12, 13, 14, 15, 16, 17, 18, 21, 22, 23, 24, 25]), [(0, .inr (some (some 359))), (1, .inl (0, .ofNat 0)), (2, .inl (1, .ofNat 0)), (3, .inl (2, .ofNat 0)), (4, .inl (3, .ofNat 0)), (5, .inl (4, .ofNat 0))]),
    (1, some 4, (5, [(1, .ofNat 0, .ofNat 6), (2, .negSucc 2147483647, .ofNat 2147483647), (3, .negSucc 2147483647, .ofNat 2147483647), (4, .ofNat 0, .ofNat 6)], [], [], [], [9, 12, 13, 14, 15, 16, 17, 18, 21, 22, 23, 24, 25]), [(0, .inr (some (some 359))), (1, .inl (0, .ofNat 1)), (2, .inl (1, .ofNat 0)), (3, .inl (2, .ofNat 0)), (4, .inl (3, .ofNat 0)), (5, .inl (4, .ofNat 0))]),
    (1, some 4, (5, [(1, .ofNat 0, .ofNat 6), (2, .negSucc 2147483647, .ofNat 2147483647), (3, .negSucc 2147483647, .ofNat 2147483647), (4, .ofNat 0, .ofNat 6)], [], [], [], [9, 12, 13, 14, 15, 16, 17, 18, 21, 22, 23, 24, 25]), [(0, .inr (some (some 359))), (1, .inl (0, .ofNat 2)), (2, .inl (1, .ofNat 0)), (3, .inl (2, .ofNat 0)), (4, .inl (3, .ofNat 0)), (5, .inl (4, .ofNat 0))]),
    (1, some 4, (5, [(1, .ofNat 0, .ofNat 6), (2, .negSucc 2147483647, .ofNat 2147483647), (3, .negSucc 2147483647, .ofNat 2147483647), (4, .ofNat 0, .ofNat 6)], [], [], [], [9, 12, 13, 14, 15, 16, 17, 18, 21, 22, 23, 24, 25]), [(0, .inr (some (some 359))), (1, .inl (0, .ofNat 3)), (2, .inl (1, .ofNat 0)), (3, .inl (2, .ofNat 0)), (4, .inl (3, .ofNat 0)), (5, .inl (4, .ofNat 0))]),
    (1, some 4, (5, [(1, .ofNat 0, .ofNat 6), (2, .negSucc 2147483647, .ofNat 2147483647), (3, .negSucc 2147483647, .ofNat 2147483647), (4, .ofNat 0, .ofNat 6)], [], [], [], [9, 12, 13, 14, 15, 16, 17, 18, 21, 22, 23, 24, 25]), [(0, .inr (some (some 359))), (1, .inl (0, .ofNat 4)), (2, .inl (1, .ofNat 0)), (3, .inl (2, .ofNat 0)), (4, .inl (3, .ofNat 0)), (5, .inl (4, .ofNat 0))])])]]
set_option maxRecDepth 1000000 in
theorem jxm_c292_ok (hX : jc_Xo jxm X) : jc_Con jP jxm X jxm_c292 := jc_mth_ok (Z := (jxm, [], jT, [], jxm_S0, jxm_c292_N, .ofNat 100000)) (f := 100000) jxm_ok hX jT_ok jc_c0 (by decide +kernel)
-- event_
def jxm_c293 : jc_Cn := (257, 1, [.inr (some (some 359)), .inl (1, .ofNat 0), .inl (2, .ofNat 0)], (3, [(1, .negSucc 2147483647, .ofNat 2147483647), (2, .negSucc 2147483647, .ofNat 2147483647)], [], [], [], [9, 12, 13, 14, 15, 16, 17, 18, 21, 22, 23, 24, 25]), [(359, 10, 11), (359, 0, 1)], [((2, [(1, .negSucc 2147483647, .ofNat 2147483647)], [], [], [], [9, 12, 13, 14, 15, 16, 17, 18, 21, 22, 23, 24, 25]), some (.inl (1, .ofNat 0)))])
def jxm_c293_N : jc_Nt := []
set_option maxRecDepth 1000000 in
theorem jxm_c293_ok (hX : jc_Xo jxm X) : jc_Con jP jxm X jxm_c293 := jc_mth_ok (Z := (jxm, [], jT, [], jxm_S0, jxm_c293_N, .ofNat 100000)) (f := 100000) jxm_ok hX jT_ok jc_c0 (by decide +kernel)
-- use
def jxm_c294 : jc_Cn := (258, 2, [.inr (some (some 359)), .inl (1, .ofNat 0)], (2, [(1, .negSucc 2147483647, .ofNat 2147483647)], [], [], [], [9, 12, 13, 14, 15, 16, 17, 18, 21, 22, 23, 24, 25]), [(359, 10, 11), (359, 0, 1)], [((2, [(1, .negSucc 2147483647, .ofNat 2147483647)], [], [], [], [9, 12, 13, 14, 15, 16, 17, 18, 21, 22, 23, 24, 25]), some (.inl (1, .ofNat 0)))])
def jxm_c294_N : jc_Nt := []
set_option maxRecDepth 1000000 in
theorem jxm_c294_ok (hX : jc_Xo jxm X) : jc_Con jP jxm X jxm_c294 := jc_mth_ok (Z := (jxm, [], jT, [], jxm_S0, jxm_c294_N, .ofNat 100000)) (f := 100000) jxm_ok hX jT_ok jc_c0 (by decide +kernel)
-- gone
def jxm_c295 : jc_Cn := (259, 2, [.inr (some (some 359)), .inl (1, .ofNat 0), .inl (2, .ofNat 0)], (3, [(1, .negSucc 2147483647, .ofNat 2147483647), (2, .negSucc 2147483647, .ofNat 2147483647)], [], [], [], [9, 12, 13, 14, 15, 16, 17, 18, 21, 22, 23, 24, 25]), [(359, 10, 11), (359, 0, 1)], [((2, [(1, .negSucc 2147483647, .ofNat 2147483647)], [], [], [], [9, 12, 13, 14, 15, 16, 17, 18, 21, 22, 23, 24, 25]), some (.inl (1, .ofNat 0)))])
def jxm_c295_N : jc_Nt := []
set_option maxRecDepth 1000000 in
theorem jxm_c295_ok (hX : jc_Xo jxm X) : jc_Con jP jxm X jxm_c295 := jc_mth_ok (Z := (jxm, [], jT, [], jxm_S0, jxm_c295_N, .ofNat 100000)) (f := 100000) jxm_ok hX jT_ok jc_c0 (by decide +kernel)
-- waits
def jxm_c296 : jc_Cn := (260, 2, [.inr (some (some 359)), .inl (1, .ofNat 0)], (2, [(1, .negSucc 2147483647, .ofNat 2147483647)], [], [], [], [9, 12, 13, 14, 15, 16, 17, 18, 21, 22, 23, 24, 25]), [(359, 10, 11), (359, 0, 1)], [((2, [(1, .negSucc 2147483647, .ofNat 2147483647)], [], [], [], [9, 12, 13, 14, 15, 16, 17, 18, 21, 22, 23, 24, 25]), some (.inl (1, .ofNat 0)))])
def jxm_c296_N : jc_Nt := []
set_option maxRecDepth 1000000 in
theorem jxm_c296_ok (hX : jc_Xo jxm X) : jc_Con jP jxm X jxm_c296 := jc_mth_ok (Z := (jxm, [], jT, [], jxm_S0, jxm_c296_N, .ofNat 100000)) (f := 100000) jxm_ok hX jT_ok jc_c0 (by decide +kernel)
end Jjxm41

/-! contracts of the reference (15); written by wip/jc/e5.py -/
section Jjxm15
variable {X : J_H → Prop}
-- readNumber3.4
def jxm_c74 : jc_Cn := (192, 2, [.inr (some (some 359)), .inl (0, .ofNat 144), .inl (1, .ofNat 0), .inl (2, .ofNat 0)], (3, [(1, .negSucc 2147483647, .ofNat 2147483647), (2, .negSucc 2147483647, .ofNat 2147483647)], [], [], [], [8, 9, 10, 11, 12, 13, 14, 15, 16, 17, 18, 19, 21, 22, 23, 24, 25]), [(359, 15, 16), (359, 16, 17), (359, 17, 18), (359, 18, 19), (359, 19, 20), (359, 20, 21), (359, 21, 22), (361, 144, 145)], [((1, [], [], [], [], [8, 9, 10, 11, 12, 13, 14, 15, 16, 17, 18, 19, 21, 22, 23, 24, 25]), some (.inl (0, .ofNat 0))), ((1, [], [], [], [], [8, 9, 10, 11, 12, 13, 14, 15, 16, 17, 18, 19, 21, 22, 23, 24, 25]), some (.inl (0, .ofNat 1)))])
def jxm_c74_N : jc_Nt := []
set_option maxRecDepth 1000000 in
theorem jxm_c74_ok (hX : jc_Xo jxm X) : jc_Con jP jxm X jxm_c74 := jc_mth_ok (Z := (jxm, [], jT, [jxm_c48], jxm_S0, jxm_c74_N, .ofNat 100000)) (f := 100000) jxm_ok hX jT_ok (jc_c1 (jxm_c48_ok hX) jc_c0) (by decide +kernel)
-- readNumber3.5
def jxm_c75 : jc_Cn := (192, 2, [.inr (some (some 359)), .inl (0, .ofNat 145), .inl (1, .ofNat 0), .inl (2, .ofNat 0)], (3, [(1, .negSucc 2147483647, .ofNat 2147483647), (2, .negSucc 2147483647, .ofNat 2147483647)], [], [], [], [8, 9, 10, 11, 12, 13, 14, 15, 16, 17, 18, 19, 21, 22, 23, 24, 25]), [(359, 15, 16), (359, 16, 17), (359, 17, 18), (359, 18, 19), (359, 19, 20), (359, 20, 21), (359, 21, 22), (361, 145, 146)], [((1, [], [], [], [], [8, 9, 10, 11, 12, 13, 14, 15, 16, 17, 18, 19, 21, 22, 23, 24, 25]), some (.inl (0, .ofNat 0))), ((1, [], [], [], [], [8, 9, 10, 11, 12, 13, 14, 15, 16, 17, 18, 19, 21, 22, 23, 24, 25]), some (.inl (0, .ofNat 1)))])
def jxm_c75_N : jc_Nt := []
set_option maxRecDepth 1000000 in
theorem jxm_c75_ok (hX : jc_Xo jxm X) : jc_Con jP jxm X jxm_c75 := jc_mth_ok (Z := (jxm, [], jT, [jxm_c48], jxm_S0, jxm_c75_N, .ofNat 100000)) (f := 100000) jxm_ok hX jT_ok (jc_c1 (jxm_c48_ok hX) jc_c0) (by decide +kernel)
-- readNumber4.0
def jxm_c76 : jc_Cn := (192, 2, [.inr (some (some 359)), .inl (0, .ofNat 168), .inl (1, .ofNat 0), .inl (2, .ofNat 0)], (3, [(1, .negSucc 2147483647, .ofNat 2147483647), (2, .negSucc 2147483647, .ofNat 2147483647)], [], [], [], [8, 9, 10, 11, 12, 13, 14, 15, 16, 17, 18, 19, 21, 22, 23, 24, 25]), [(359, 15, 16), (359, 16, 17), (359, 17, 18), (359, 18, 19), (359, 19, 20), (359, 20, 21), (359, 21, 22), (361, 168, 169)], [((1, [], [], [], [], [8, 9, 10, 11, 12, 13, 14, 15, 16, 17, 18, 19, 21, 22, 23, 24, 25]), some (.inl (0, .ofNat 0))), ((1, [], [], [], [], [8, 9, 10, 11, 12, 13, 14, 15, 16, 17, 18, 19, 21, 22, 23, 24, 25]), some (.inl (0, .ofNat 1)))])
def jxm_c76_N : jc_Nt := []
set_option maxRecDepth 1000000 in
theorem jxm_c76_ok (hX : jc_Xo jxm X) : jc_Con jP jxm X jxm_c76 := jc_mth_ok (Z := (jxm, [], jT, [jxm_c48], jxm_S0, jxm_c76_N, .ofNat 100000)) (f := 100000) jxm_ok hX jT_ok (jc_c1 (jxm_c48_ok hX) jc_c0) (by decide +kernel)
-- readNumber4.3
def jxm_c77 : jc_Cn := (192, 2, [.inr (some (some 359)), .inl (0, .ofNat 171), .inl (1, .ofNat 0), .inl (2, .ofNat 0)], (3, [(1, .negSucc 2147483647, .ofNat 2147483647), (2, .negSucc 2147483647, .ofNat 2147483647)], [], [], [], [8, 9, 10, 11, 12, 13, 14, 15, 16, 17, 18, 19, 21, 22, 23, 24, 25]), [(359, 15, 16), (359, 16, 17), (359, 17, 18), (359, 18, 19), (359, 19, 20), (359, 20, 21), (359, 21, 22), (361, 171, 172)], [((1, [], [], [], [], [8, 9, 10, 11, 12, 13, 14, 15, 16, 17, 18, 19, 21, 22, 23, 24, 25]), some (.inl (0, .ofNat 0))), ((1, [], [], [], [], [8, 9, 10, 11, 12, 13, 14, 15, 16, 17, 18, 19, 21, 22, 23, 24, 25]), some (.inl (0, .ofNat 1)))])
def jxm_c77_N : jc_Nt := []
set_option maxRecDepth 1000000 in
theorem jxm_c77_ok (hX : jc_Xo jxm X) : jc_Con jP jxm X jxm_c77 := jc_mth_ok (Z := (jxm, [], jT, [jxm_c48], jxm_S0, jxm_c77_N, .ofNat 100000)) (f := 100000) jxm_ok hX jT_ok (jc_c1 (jxm_c48_ok hX) jc_c0) (by decide +kernel)
-- readNumber4.4
def jxm_c78 : jc_Cn := (192, 2, [.inr (some (some 359)), .inl (0, .ofNat 172), .inl (1, .ofNat 0), .inl (2, .ofNat 0)], (3, [(1, .negSucc 2147483647, .ofNat 2147483647), (2, .negSucc 2147483647, .ofNat 2147483647)], [], [], [], [8, 9, 10, 11, 12, 13, 14, 15, 16, 17, 18, 19, 21, 22, 23, 24, 25]), [(359, 15, 16), (359, 16, 17), (359, 17, 18), (359, 18, 19), (359, 19, 20), (359, 20, 21), (359, 21, 22), (361, 172, 173)], [((1, [], [], [], [], [8, 9, 10, 11, 12, 13, 14, 15, 16, 17, 18, 19, 21, 22, 23, 24, 25]), some (.inl (0, .ofNat 0))), ((1, [], [], [], [], [8, 9, 10, 11, 12, 13, 14, 15, 16, 17, 18, 19, 21, 22, 23, 24, 25]), some (.inl (0, .ofNat 1)))])
def jxm_c78_N : jc_Nt := []
set_option maxRecDepth 1000000 in
theorem jxm_c78_ok (hX : jc_Xo jxm X) : jc_Con jP jxm X jxm_c78 := jc_mth_ok (Z := (jxm, [], jT, [jxm_c48], jxm_S0, jxm_c78_N, .ofNat 100000)) (f := 100000) jxm_ok hX jT_ok (jc_c1 (jxm_c48_ok hX) jc_c0) (by decide +kernel)
-- readNumber4.5
def jxm_c79 : jc_Cn := (192, 2, [.inr (some (some 359)), .inl (0, .ofNat 173), .inl (1, .ofNat 0), .inl (2, .ofNat 0)], (3, [(1, .negSucc 2147483647, .ofNat 2147483647), (2, .negSucc 2147483647, .ofNat 2147483647)], [], [], [], [8, 9, 10, 11, 12, 13, 14, 15, 16, 17, 18, 19, 21, 22, 23, 24, 25]), [(359, 15, 16), (359, 16, 17), (359, 17, 18), (359, 18, 19), (359, 19, 20), (359, 20, 21), (359, 21, 22), (361, 173, 174)], [((1, [], [], [], [], [8, 9, 10, 11, 12, 13, 14, 15, 16, 17, 18, 19, 21, 22, 23, 24, 25]), some (.inl (0, .ofNat 0))), ((1, [], [], [], [], [8, 9, 10, 11, 12, 13, 14, 15, 16, 17, 18, 19, 21, 22, 23, 24, 25]), some (.inl (0, .ofNat 1)))])
def jxm_c79_N : jc_Nt := []
set_option maxRecDepth 1000000 in
theorem jxm_c79_ok (hX : jc_Xo jxm X) : jc_Con jP jxm X jxm_c79 := jc_mth_ok (Z := (jxm, [], jT, [jxm_c48], jxm_S0, jxm_c79_N, .ofNat 100000)) (f := 100000) jxm_ok hX jT_ok (jc_c1 (jxm_c48_ok hX) jc_c0) (by decide +kernel)
end Jjxm15

/-! contracts of the reference (43); written by wip/jc/e5.py -/
section Jjxm43
variable {X : J_H → Prop}
-- ends
def jxm_c298 : jc_Cn := (264, 12, [.inr (some (some 359)), .inl (1, .ofNat 0), .inl (2, .ofNat 0)], (3, [(1, .ofNat 0, .ofNat 1), (2, .negSucc 2147483647, .ofNat 2147483647)], [], [], [], [9, 12, 13, 14, 15, 16, 17, 18, 21, 22, 23, 24, 25]), [(360, 0, 602), (363, 0, 602), (362, 0, 602), (368, 0, 5), (359, 23, 24), (359, 10, 11), (359, 0, 1)], [((2, [(1, .negSucc 2147483647, .ofNat 2147483647)], [], [], [], [9, 12, 13, 14, 15, 16, 17, 18, 21, 22, 23, 24, 25]), some (.inl (1, .ofNat 0)))])
def jxm_c298_N : jc_Nt := []
set_option maxRecDepth 1000000 in
theorem jxm_c298_ok (hX : jc_Xo jxm X) (hg13 : jc_Con jP jxm X jxm_g13) (hg19 : jc_Con jP jxm X jxm_g19) (hg20 : jc_Con jP jxm X jxm_g20) (hg34 : jc_Con jP jxm X jxm_g34) (hg40 : jc_Con jP jxm X jxm_g40) (hg41 : jc_Con jP jxm X jxm_g41) : jc_Con jP jxm X jxm_c298 := jc_mth_ok (Z := (jxm, [], jT, [jxm_g13, jxm_g34, jxm_c22, jxm_c0, jxm_c28, jxm_c47], jxm_S0, jxm_c298_N, .ofNat 100000)) (f := 100000) jxm_ok hX jT_ok (jc_c1 hg13 (jc_c1 hg34 (jc_c1 (jxm_c22_ok hX) (jc_c1 (jxm_c0_ok hX) (jc_c1 (jxm_c28_ok hX) (jc_c1 (jxm_c47_ok hX hg19 hg20 hg40 hg41) jc_c0)))))) (by decide +kernel)
-- when
def jxm_c299 : jc_Cn := (265, 12, [.inr (some (some 359)), .inl (1, .ofNat 0)], (2, [(1, .negSucc 2147483647, .ofNat 2147483647)], [], [], [], [9, 12, 13, 14, 15, 16, 17, 18, 21, 22, 23, 24, 25]), [(360, 0, 602), (363, 0, 602), (362, 0, 602), (368, 0, 5), (359, 23, 24), (359, 10, 11), (359, 0, 1)], [((2, [(1, .negSucc 2147483647, .ofNat 2147483647)], [], [], [], [9, 12, 13, 14, 15, 16, 17, 18, 21, 22, 23, 24, 25]), some (.inl (1, .ofNat 0)))])
def jxm_c299_N : jc_Nt := []
set_option maxRecDepth 1000000 in
theorem jxm_c299_ok (hX : jc_Xo jxm X) (hg1 : jc_Con jP jxm X jxm_g1) (hg2 : jc_Con jP jxm X jxm_g2) (hg3 : jc_Con jP jxm X jxm_g3) (hg4 : jc_Con jP jxm X jxm_g4) (hg5 : jc_Con jP jxm X jxm_g5) (hg19 : jc_Con jP jxm X jxm_g19) (hg20 : jc_Con jP jxm X jxm_g20) (hg22 : jc_Con jP jxm X jxm_g22) (hg23 : jc_Con jP jxm X jxm_g23) (hg24 : jc_Con jP jxm X jxm_g24) (hg25 : jc_Con jP jxm X jxm_g25) (hg26 : jc_Con jP jxm X jxm_g26) (hg40 : jc_Con jP jxm X jxm_g40) (hg41 : jc_Con jP jxm X jxm_g41) : jc_Con jP jxm X jxm_c299 := jc_mth_ok (Z := (jxm, [], jT, [jxm_g1, jxm_g2, jxm_g3, jxm_g4, jxm_g5, jxm_g22, jxm_g23, jxm_g24, jxm_g25, jxm_g26, jxm_c47], jxm_S0, jxm_c299_N, .ofNat 100000)) (f := 100000) jxm_ok hX jT_ok (jc_c1 hg1 (jc_c1 hg2 (jc_c1 hg3 (jc_c1 hg4 (jc_c1 hg5 (jc_c1 hg22 (jc_c1 hg23 (jc_c1 hg24 (jc_c1 hg25 (jc_c1 hg26 (jc_c1 (jxm_c47_ok hX hg19 hg20 hg40 hg41) jc_c0))))))))))) (by decide +kernel)
-- status
def jxm_c300 : jc_Cn := (168, 0, [.inr (some (some 359))], (1, [], [], [], [], [9, 12, 13, 14, 15, 16, 17, 18, 21, 22, 23, 24, 25]), [(359, 10, 11), (359, 0, 1)], [((2, [(1, .negSucc 2147483647, .ofNat 2147483647)], [], [], [], [9, 12, 13, 14, 15, 16, 17, 18, 21, 22, 23, 24, 25]), some (.inl (1, .ofNat 0)))])
def jxm_c300_N : jc_Nt := []
set_option maxRecDepth 1000000 in
theorem jxm_c300_ok (hX : jc_Xo jxm X) : jc_Con jP jxm X jxm_c300 := jc_mth_ok (Z := (jxm, [], jT, [], jxm_S0, jxm_c300_N, .ofNat 100000)) (f := 100000) jxm_ok hX jT_ok jc_c0 (by decide +kernel)
-- fault
def jxm_c301 : jc_Cn := (202, 0, [.inr (some (some 359)), .inl (1, .ofNat 0)], (2, [(1, .negSucc 2147483647, .ofNat 2147483647)], [], [], [], [9, 12, 13, 14, 15, 16, 17, 18, 21, 22, 23, 24, 25]), [(359, 10, 11), (359, 0, 1)], [((2, [(1, .negSucc 2147483647, .ofNat 2147483647)], [], [], [], [9, 12, 13, 14, 15, 16, 17, 18, 21, 22, 23, 24, 25]), some (.inl (1, .ofNat 0)))])
def jxm_c301_N : jc_Nt := []
set_option maxRecDepth 1000000 in
theorem jxm_c301_ok (hX : jc_Xo jxm X) : jc_Con jP jxm X jxm_c301 := jc_mth_ok (Z := (jxm, [], jT, [], jxm_S0, jxm_c301_N, .ofNat 100000)) (f := 100000) jxm_ok hX jT_ok jc_c0 (by decide +kernel)
-- out
def jxm_c302 : jc_Cn := (297, 0, [.inr (some (some 359)), .inl (1, .ofNat 0)], (2, [(1, .negSucc 2147483647, .ofNat 2147483647)], [], [], [], [9, 12, 13, 14, 15, 16, 17, 18, 21, 22, 23, 24, 25]), [(359, 10, 11), (359, 0, 1)], [((2, [(1, .negSucc 127, .ofNat 127)], [], [], [], [9, 12, 13, 14, 15, 16, 17, 18, 21, 22, 23, 24, 25]), some (.inl (1, .ofNat 0)))])
def jxm_c302_N : jc_Nt := []
set_option maxRecDepth 1000000 in
theorem jxm_c302_ok (hX : jc_Xo jxm X) : jc_Con jP jxm X jxm_c302 := jc_mth_ok (Z := (jxm, [], jT, [], jxm_S0, jxm_c302_N, .ofNat 100000)) (f := 100000) jxm_ok hX jT_ok jc_c0 (by decide +kernel)
end Jjxm43

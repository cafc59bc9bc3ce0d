/-! contracts of the reference (37); written by wip/jc/e5.py -/
section Jjxm37
variable {X : J_H → Prop}
-- swap1.4
def jxm_c187 : jc_Cn := (273, 14, [.inr (some (some 359)), .inl (0, .ofNat 1), .inl (1, .ofNat 0)], (2, [(1, .negSucc 2147483647, .ofNat 2147483647)], [(2949323, .inl (0, .ofNat 4))], [], [], [9, 12, 13, 14, 15, 16, 17, 18, 21, 22, 23, 24, 25]), [(360, 0, 602), (363, 0, 602), (362, 0, 602), (368, 0, 5), (359, 23, 24), (359, 10, 11), (359, 0, 1)], [((2, [(1, .negSucc 2147483647, .ofNat 2147483647)], [(2949323, .inl (0, .ofNat 4))], [], [], [9, 12, 13, 14, 15, 16, 17, 18, 21, 22, 23, 24, 25]), some (.inl (1, .ofNat 0)))])
def jxm_c187_N : jc_Nt := []
set_option maxRecDepth 1000000 in
theorem jxm_c187_ok (hX : jc_Xo jxm X) (hg4 : jc_Con jP jxm X jxm_g4) (hg19 : jc_Con jP jxm X jxm_g19) (hg20 : jc_Con jP jxm X jxm_g20) (hg25 : jc_Con jP jxm X jxm_g25) (hg40 : jc_Con jP jxm X jxm_g40) (hg41 : jc_Con jP jxm X jxm_g41) : jc_Con jP jxm X jxm_c187 := jc_mth_ok (Z := (jxm, [], jT, [jxm_g4, jxm_g25, jxm_c103, jxm_c108], jxm_S0, jxm_c187_N, .ofNat 100000)) (f := 100000) jxm_ok hX jT_ok (jc_c1 hg4 (jc_c1 hg25 (jc_c1 (jxm_c103_ok hX hg19 hg20 hg40 hg41) (jc_c1 (jxm_c108_ok hX hg4 hg19 hg20 hg25 hg40 hg41) jc_c0)))) (by decide +kernel)
-- swap2.4
def jxm_c188 : jc_Cn := (273, 14, [.inr (some (some 359)), .inl (0, .ofNat 2), .inl (1, .ofNat 0)], (2, [(1, .negSucc 2147483647, .ofNat 2147483647)], [(2949323, .inl (0, .ofNat 4))], [], [], [9, 12, 13, 14, 15, 16, 17, 18, 21, 22, 23, 24, 25]), [(360, 0, 602), (363, 0, 602), (362, 0, 602), (368, 0, 5), (359, 23, 24), (359, 10, 11), (359, 0, 1)], [((2, [(1, .negSucc 2147483647, .ofNat 2147483647)], [(2949323, .inl (0, .ofNat 4))], [], [], [9, 12, 13, 14, 15, 16, 17, 18, 21, 22, 23, 24, 25]), some (.inl (1, .ofNat 0)))])
def jxm_c188_N : jc_Nt := []
set_option maxRecDepth 1000000 in
theorem jxm_c188_ok (hX : jc_Xo jxm X) (hg4 : jc_Con jP jxm X jxm_g4) (hg19 : jc_Con jP jxm X jxm_g19) (hg20 : jc_Con jP jxm X jxm_g20) (hg25 : jc_Con jP jxm X jxm_g25) (hg40 : jc_Con jP jxm X jxm_g40) (hg41 : jc_Con jP jxm X jxm_g41) : jc_Con jP jxm X jxm_c188 := jc_mth_ok (Z := (jxm, [], jT, [jxm_g4, jxm_g25, jxm_c103, jxm_c108], jxm_S0, jxm_c188_N, .ofNat 100000)) (f := 100000) jxm_ok hX jT_ok (jc_c1 hg4 (jc_c1 hg25 (jc_c1 (jxm_c103_ok hX hg19 hg20 hg40 hg41) (jc_c1 (jxm_c108_ok hX hg4 hg19 hg20 hg25 hg40 hg41) jc_c0)))) (by decide +kernel)
-- swap3.4
def jxm_c189 : jc_Cn := (273, 14, [.inr (some (some 359)), .inl (0, .ofNat 3), .inl (1, .ofNat 0)], (2, [(1, .negSucc 2147483647, .ofNat 2147483647)], [(2949323, .inl (0, .ofNat 4))], [], [], [9, 12, 13, 14, 15, 16, 17, 18, 21, 22, 23, 24, 25]), [(360, 0, 602), (363, 0, 602), (362, 0, 602), (368, 0, 5), (359, 23, 24), (359, 10, 11), (359, 0, 1)], [((2, [(1, .negSucc 2147483647, .ofNat 2147483647)], [(2949323, .inl (0, .ofNat 4))], [], [], [9, 12, 13, 14, 15, 16, 17, 18, 21, 22, 23, 24, 25]), some (.inl (1, .ofNat 0)))])
def jxm_c189_N : jc_Nt := []
set_option maxRecDepth 1000000 in
theorem jxm_c189_ok (hX : jc_Xo jxm X) (hg4 : jc_Con jP jxm X jxm_g4) (hg19 : jc_Con jP jxm X jxm_g19) (hg20 : jc_Con jP jxm X jxm_g20) (hg25 : jc_Con jP jxm X jxm_g25) (hg40 : jc_Con jP jxm X jxm_g40) (hg41 : jc_Con jP jxm X jxm_g41) : jc_Con jP jxm X jxm_c189 := jc_mth_ok (Z := (jxm, [], jT, [jxm_g4, jxm_g25, jxm_c103, jxm_c108], jxm_S0, jxm_c189_N, .ofNat 100000)) (f := 100000) jxm_ok hX jT_ok (jc_c1 hg4 (jc_c1 hg25 (jc_c1 (jxm_c103_ok hX hg19 hg20 hg40 hg41) (jc_c1 (jxm_c108_ok hX hg4 hg19 hg20 hg25 hg40 hg41) jc_c0)))) (by decide +kernel)
-- swap4.4
def jxm_c190 : jc_Cn := (273, 2, [.inr (some (some 359)), .inl (0, .ofNat 4), .inl (1, .ofNat 0)], (2, [(1, .negSucc 2147483647, .ofNat 2147483647)], [(2949323, .inl (0, .ofNat 4))], [], [], [9, 12, 13, 14, 15, 16, 17, 18, 21, 22, 23, 24, 25]), [(360, 0, 602), (363, 0, 602), (362, 0, 602), (368, 0, 5), (359, 23, 24), (359, 10, 11), (359, 0, 1)], [((1, [], [(2949323, .inl (0, .ofNat 4))], [], [], [9, 12, 13, 14, 15, 16, 17, 18, 21, 22, 23, 24, 25]), some (.inl (0, .negSucc 0)))])
def jxm_c190_N : jc_Nt := []
set_option maxRecDepth 1000000 in
theorem jxm_c190_ok (hX : jc_Xo jxm X) : jc_Con jP jxm X jxm_c190 := jc_mth_ok (Z := (jxm, [], jT, [], jxm_S0, jxm_c190_N, .ofNat 100000)) (f := 100000) jxm_ok hX jT_ok jc_c0 (by decide +kernel)
end Jjxm37

/-! contracts of the reference (30); written by wip/jc/e5.py -/
section Jjxm30
variable {X : J_H → Prop}
-- swap
def jxm_c166 : jc_Cn := (273, 14, [.inr (some (some 359)), .inl (1, .ofNat 0), .inl (2, .ofNat 0)], (3, [(1, .negSucc 2147483647, .ofNat 2147483647), (2, .negSucc 2147483647, .ofNat 2147483647)], [], [], [], [9, 12, 13, 14, 15, 16, 17, 18, 21, 22, 23, 24, 25]), [(360, 0, 602), (363, 0, 602), (362, 0, 602), (368, 0, 5), (359, 23, 24), (359, 10, 11), (359, 0, 1)], [((2, [(1, .negSucc 2147483647, .ofNat 2147483647)], [], [], [], [9, 12, 13, 14, 15, 16, 17, 18, 21, 22, 23, 24, 25]), some (.inl (1, .ofNat 0)))])
def jxm_c166_N : jc_Nt := []
set_option maxRecDepth 1000000 in
theorem jxm_c166_ok (hX : jc_Xo jxm X) (hg2 : jc_Con jP jxm X jxm_g2) (hg3 : jc_Con jP jxm X jxm_g3) (hg4 : jc_Con jP jxm X jxm_g4) (hg5 : jc_Con jP jxm X jxm_g5) (hg19 : jc_Con jP jxm X jxm_g19) (hg20 : jc_Con jP jxm X jxm_g20) (hg23 : jc_Con jP jxm X jxm_g23) (hg24 : jc_Con jP jxm X jxm_g24) (hg25 : jc_Con jP jxm X jxm_g25) (hg26 : jc_Con jP jxm X jxm_g26) (hg40 : jc_Con jP jxm X jxm_g40) (hg41 : jc_Con jP jxm X jxm_g41) : jc_Con jP jxm X jxm_c166 := jc_mth_ok (Z := (jxm, [], jT, [jxm_g2, jxm_g3, jxm_g4, jxm_g5, jxm_g23, jxm_g24, jxm_g25, jxm_g26, jxm_c103, jxm_c106, jxm_c107, jxm_c108, jxm_c109], jxm_S0, jxm_c166_N, .ofNat 100000)) (f := 100000) jxm_ok hX jT_ok (jc_c1 hg2 (jc_c1 hg3 (jc_c1 hg4 (jc_c1 hg5 (jc_c1 hg23 (jc_c1 hg24 (jc_c1 hg25 (jc_c1 hg26 (jc_c1 (jxm_c103_ok hX hg19 hg20 hg40 hg41) (jc_c1 (jxm_c106_ok hX hg2 hg19 hg20 hg23 hg40 hg41) (jc_c1 (jxm_c107_ok hX hg3 hg19 hg20 hg24 hg40 hg41) (jc_c1 (jxm_c108_ok hX hg4 hg19 hg20 hg25 hg40 hg41) (jc_c1 (jxm_c109_ok hX hg5 hg19 hg20 hg26 hg40 hg41) jc_c0))))))))))))) (by decide +kernel)
end Jjxm30

/-! contracts of the reference (41); written by wip/jc/e5.py -/
section Jjxm41
variable {X : J_H → Prop}
-- swap3.5
def jxm_c194 : jc_Cn := (273, 14, [.inr (some (some 359)), .inl (0, .ofNat 3), .inl (1, .ofNat 0)], (2, [(1, .negSucc 2147483647, .ofNat 2147483647)], [(2949323, .inl (0, .ofNat 5))], [], [], [9, 12, 13, 14, 15, 16, 17, 18, 21, 22, 23, 24, 25]), [(360, 0, 602), (363, 0, 602), (362, 0, 602), (368, 0, 5), (359, 23, 24), (359, 10, 11), (359, 0, 1)], [((2, [(1, .negSucc 2147483647, .ofNat 2147483647)], [(2949323, .inl (0, .ofNat 5))], [], [], [9, 12, 13, 14, 15, 16, 17, 18, 21, 22, 23, 24, 25]), some (.inl (1, .ofNat 0)))])
def jxm_c194_N : jc_Nt := []
set_option maxRecDepth 1000000 in
theorem jxm_c194_ok (hX : jc_Xo jxm X) (hg5 : jc_Con jP jxm X jxm_g5) (hg19 : jc_Con jP jxm X jxm_g19) (hg20 : jc_Con jP jxm X jxm_g20) (hg26 : jc_Con jP jxm X jxm_g26) (hg40 : jc_Con jP jxm X jxm_g40) (hg41 : jc_Con jP jxm X jxm_g41) : jc_Con jP jxm X jxm_c194 := jc_mth_ok (Z := (jxm, [], jT, [jxm_g5, jxm_g26, jxm_c103, jxm_c109], jxm_S0, jxm_c194_N, .ofNat 100000)) (f := 100000) jxm_ok hX jT_ok (jc_c1 hg5 (jc_c1 hg26 (jc_c1 (jxm_c103_ok hX hg19 hg20 hg40 hg41) (jc_c1 (jxm_c109_ok hX hg5 hg19 hg20 hg26 hg40 hg41) jc_c0)))) (by decide +kernel)
end Jjxm41

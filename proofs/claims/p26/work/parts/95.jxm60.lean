/-! contracts of the reference (60); written by wip/jc/e5.py -/
section Jjxm60
variable {X : J_H → Prop}
-- train
def jxm_c312 : jc_Cn := (240, 5, [.inr (some (some 359)), .inl (1, .ofNat 0), .inl (2, .ofNat 0)], (3, [(1, .negSucc 2147483647, .ofNat 2147483647), (2, .negSucc 2147483647, .ofNat 2147483647)], [], [], [], [9, 12, 13, 14, 15, 16, 17, 18, 21, 22, 23, 24, 25]), [(359, 10, 11), (359, 0, 1)], [((2, [(1, .negSucc 2147483647, .ofNat 2147483647)], [], [], [], [9, 12, 13, 14, 15, 16, 17, 18, 21, 22, 23, 24, 25]), some (.inl (1, .ofNat 0)))])
def jxm_c312_N : jc_Nt := []
set_option maxRecDepth 1000000 in
theorem jxm_c312_ok (hX : jc_Xo jxm X) : jc_Con jP jxm X jxm_c312 := jc_mth_ok (Z := (jxm, [], jT, [jxm_c1, jxm_c2, jxm_c3, jxm_c4, jxm_c5, jxm_c23, jxm_c24, jxm_c25, jxm_c26, jxm_c27, jxm_c306], jxm_S0, jxm_c312_N, .ofNat 100000)) (f := 100000) jxm_ok hX jT_ok (jc_c1 (jxm_c1_ok hX) (jc_c1 (jxm_c2_ok hX) (jc_c1 (jxm_c3_ok hX) (jc_c1 (jxm_c4_ok hX) (jc_c1 (jxm_c5_ok hX) (jc_c1 (jxm_c23_ok hX) (jc_c1 (jxm_c24_ok hX) (jc_c1 (jxm_c25_ok hX) (jc_c1 (jxm_c26_ok hX) (jc_c1 (jxm_c27_ok hX) (jc_c1 (jxm_c306_ok hX) jc_c0))))))))))) (by decide +kernel)
end Jjxm60

/-! contracts of the reference (10); written by wip/jc/e5.py -/
section Jjxm10
variable {X : J_H → Prop}
-- sets1
def jxm_c31 : jc_Cn := (216, 8, [.inr (some (some 359)), .inl (0, .ofNat 1)], (3, [(1, .ofNat 2, .ofNat 5), (2, .ofNat 0, .ofNat 1)], [(2949210, .inl (2, .ofNat 0)), (2949323, .inl (1, .ofNat 0))], [], [], [9, 10, 11, 12, 13, 14, 15, 16, 17, 18, 21, 22, 23, 24, 25]), [(360, 0, 602)], [((3, [(1, .ofNat 1, .ofNat 2), (2, .ofNat 2, .ofNat 5)], [(2949210, .inl (1, .ofNat 0)), (2949323, .inl (2, .ofNat 0))], [], [], [9, 10, 11, 12, 13, 14, 15, 16, 17, 18, 21, 22, 23, 24, 25]), none)])
def jxm_c31_N : jc_Nt := []
set_option maxRecDepth 1000000 in
theorem jxm_c31_ok (hX : jc_Xo jxm X) : jc_Con jP jxm X jxm_c31 := jc_mth_ok (Z := (jxm, [], jT, [jxm_c8], jxm_S2, jxm_c31_N, .ofNat 100000)) (f := 100000) jxm_ok hX jT_ok (jc_c1 (jxm_c8_ok hX) jc_c0) (by decide +kernel)
end Jjxm10

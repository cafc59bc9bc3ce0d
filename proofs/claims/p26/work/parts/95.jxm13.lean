/-! contracts of the reference (13); written by wip/jc/e5.py -/
section Jjxm13
variable {X : J_H → Prop}
-- sets4
def jxm_c34 : jc_Cn := (216, 8, [.inr (some (some 359)), .inl (0, .ofNat 4)], (3, [(1, .ofNat 5, .ofNat 5), (2, .ofNat 0, .ofNat 1)], [(2949294, .inl (2, .ofNat 0)), (2949323, .inl (1, .ofNat 0))], [], [], [9, 10, 11, 12, 13, 14, 15, 16, 17, 18, 21, 22, 23, 24, 25]), [(360, 0, 602)], [((2, [(1, .ofNat 1, .ofNat 2)], [(2949294, .inl (1, .ofNat 0)), (2949323, .inl (0, .ofNat 5))], [], [], [9, 10, 11, 12, 13, 14, 15, 16, 17, 18, 21, 22, 23, 24, 25]), none)])
def jxm_c34_N : jc_Nt := []
set_option maxRecDepth 1000000 in
theorem jxm_c34_ok (hX : jc_Xo jxm X) : jc_Con jP jxm X jxm_c34 := jc_mth_ok (Z := (jxm, [], jT, [jxm_c8], jxm_S5, jxm_c34_N, .ofNat 100000)) (f := 100000) jxm_ok hX jT_ok (jc_c1 (jxm_c8_ok hX) jc_c0) (by decide +kernel)
end Jjxm13

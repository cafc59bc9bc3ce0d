/-! contracts of the reference (33); written by wip/jc/e5.py -/
section Jjxm33
variable {X : J_H → Prop}
-- passes
def jxm_c172 : jc_Cn := (254, 2, [.inr (some (some 359)), .inl (1, .ofNat 0), .inl (2, .ofNat 0)], (3, [(1, .negSucc 2147483647, .ofNat 2147483647), (2, .negSucc 2147483647, .ofNat 2147483647)], [], [], [], [9, 12, 13, 14, 15, 16, 17, 18, 21, 22, 23, 24, 25]), [(359, 10, 11), (359, 0, 1)], [((2, [(1, .negSucc 0, .ofNat 7)], [], [], [], [9, 12, 13, 14, 15, 16, 17, 18, 21, 22, 23, 24, 25]), some (.inl (1, .ofNat 0)))])
def jxm_c172_N : jc_Nt := []
set_option maxRecDepth 1000000 in
theorem jxm_c172_ok (hX : jc_Xo jxm X) : jc_Con jP jxm X jxm_c172 := jc_mth_ok (Z := (jxm, [], jT, [], jxm_S0, jxm_c172_N, .ofNat 100000)) (f := 100000) jxm_ok hX jT_ok jc_c0 (by decide +kernel)
end Jjxm33

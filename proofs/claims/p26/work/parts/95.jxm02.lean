/-! contracts of the reference (2); written by wip/jc/e5.py -/
section Jjxm2
variable {X : J_H → Prop}
-- couldGo0
def jxm_c11 : jc_Cn := (217, 7, [.inr (some (some 359)), .inl (0, .ofNat 0), .inl (3, .ofNat 0)], (4, [(1, .ofNat 1, .ofNat 5), (2, .ofNat 1, .ofNat 2), (3, .ofNat 0, .ofNat 31)], [(2949182, .inl (2, .ofNat 0)), (2949323, .inl (1, .ofNat 0))], [], [], [9, 10, 11, 12, 13, 14, 15, 16, 17, 18, 21, 22, 23, 24, 25]), [], [((4, [(1, .ofNat 0, .ofNat 1), (2, .ofNat 1, .ofNat 2), (3, .ofNat 1, .ofNat 5)], [(2949182, .inl (2, .ofNat 0)), (2949323, .inl (3, .ofNat 0))], [], [], [9, 10, 11, 12, 13, 14, 15, 16, 17, 18, 21, 22, 23, 24, 25]), some (.inl (1, .ofNat 0)))])
def jxm_c11_N : jc_Nt := []
set_option maxRecDepth 1000000 in
theorem jxm_c11_ok (hX : jc_Xo jxm X) : jc_Con jP jxm X jxm_c11 := jc_mth_ok (Z := (jxm, [], jT, [jxm_c10], jxm_S0, jxm_c11_N, .ofNat 100000)) (f := 100000) jxm_ok hX jT_ok (jc_c1 (jxm_c10_ok hX) jc_c0) (by decide +kernel)
end Jjxm2

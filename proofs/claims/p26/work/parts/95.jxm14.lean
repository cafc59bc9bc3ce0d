/-! contracts of the reference (14); written by wip/jc/e5.py -/
section Jjxm14
variable {X : J_H → Prop}
-- arrives0
def jxm_c35 : jc_Cn := (223, 4, [.inr (some (some 359)), .inl (0, .ofNat 0)], (2, [(1, .ofNat 1, .ofNat 5)], [(2949182, .inl (0, .ofNat 2)), (2949323, .inl (1, .ofNat 0))], [], [], [9, 10, 11, 12, 13, 14, 15, 16, 17, 18, 21, 22, 23, 24, 25]), [(360, 0, 602)], [((3, [(1, .ofNat 1, .ofNat 3), (2, .ofNat 1, .ofNat 5)], [(2949182, .inl (1, .ofNat 0)), (2949323, .inl (2, .ofNat 0))], [], [], [9, 10, 11, 12, 13, 14, 15, 16, 17, 18, 21, 22, 23, 24, 25]), none)])
def jxm_c35_N : jc_Nt := []
set_option maxRecDepth 1000000 in
theorem jxm_c35_ok (hX : jc_Xo jxm X) : jc_Con jP jxm X jxm_c35 := jc_mth_ok (Z := (jxm, [], jT, [], jxm_S6, jxm_c35_N, .ofNat 100000)) (f := 100000) jxm_ok hX jT_ok jc_c0 (by decide +kernel)
-- arrives1
def jxm_c36 : jc_Cn := (223, 4, [.inr (some (some 359)), .inl (0, .ofNat 1)], (2, [(1, .ofNat 2, .ofNat 5)], [(2949210, .inl (0, .ofNat 2)), (2949323, .inl (1, .ofNat 0))], [], [], [9, 10, 11, 12, 13, 14, 15, 16, 17, 18, 21, 22, 23, 24, 25]), [(360, 0, 602)], [((3, [(1, .ofNat 1, .ofNat 3), (2, .ofNat 2, .ofNat 5)], [(2949210, .inl (1, .ofNat 0)), (2949323, .inl (2, .ofNat 0))], [], [], [9, 10, 11, 12, 13, 14, 15, 16, 17, 18, 21, 22, 23, 24, 25]), none)])
def jxm_c36_N : jc_Nt := []
set_option maxRecDepth 1000000 in
theorem jxm_c36_ok (hX : jc_Xo jxm X) : jc_Con jP jxm X jxm_c36 := jc_mth_ok (Z := (jxm, [], jT, [], jxm_S7, jxm_c36_N, .ofNat 100000)) (f := 100000) jxm_ok hX jT_ok jc_c0 (by decide +kernel)
-- arrives2
def jxm_c37 : jc_Cn := (223, 4, [.inr (some (some 359)), .inl (0, .ofNat 2)], (2, [(1, .ofNat 3, .ofNat 5)], [(2949238, .inl (0, .ofNat 2)), (2949323, .inl (1, .ofNat 0))], [], [], [9, 10, 11, 12, 13, 14, 15, 16, 17, 18, 21, 22, 23, 24, 25]), [(360, 0, 602)], [((3, [(1, .ofNat 1, .ofNat 3), (2, .ofNat 3, .ofNat 5)], [(2949238, .inl (1, .ofNat 0)), (2949323, .inl (2, .ofNat 0))], [], [], [9, 10, 11, 12, 13, 14, 15, 16, 17, 18, 21, 22, 23, 24, 25]), none)])
def jxm_c37_N : jc_Nt := []
set_option maxRecDepth 1000000 in
theorem jxm_c37_ok (hX : jc_Xo jxm X) : jc_Con jP jxm X jxm_c37 := jc_mth_ok (Z := (jxm, [], jT, [], jxm_S8, jxm_c37_N, .ofNat 100000)) (f := 100000) jxm_ok hX jT_ok jc_c0 (by decide +kernel)
end Jjxm14

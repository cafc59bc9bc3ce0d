/-! contracts of the reference (21); written by wip/jc/e5.py -/
section Jjxm21
variable {X : J_H → Prop}
-- readTrain5
def jxm_c85 : jc_Cn := (197, 1, [.inr (some (some 359))], (1, [], [(2957515, .inl (0, .ofNat 5))], [], [], [8, 10, 11, 12, 13, 14, 15, 16, 17, 18, 19, 21, 22, 23, 24, 25]), [(359, 15, 16), (359, 16, 17), (359, 17, 18), (359, 18, 19), (359, 19, 20), (359, 20, 21), (359, 21, 22), (367, 0, 12), (361, 56, 196), (361, 203, 204)], [((1, [], [(2957515, .inl (0, .ofNat 5))], [], [], [8, 10, 11, 12, 13, 14, 15, 16, 17, 18, 19, 21, 22, 23, 24, 25]), some (.inl (0, .ofNat 0)))])
def jxm_c85_N : jc_Nt := []
set_option maxRecDepth 1000000 in
theorem jxm_c85_ok (hX : jc_Xo jxm X) : jc_Con jP jxm X jxm_c85 := jc_mth_ok (Z := (jxm, [], jT, [], jxm_S0, jxm_c85_N, .ofNat 100000)) (f := 100000) jxm_ok hX jT_ok jc_c0 (by decide +kernel)
end Jjxm21

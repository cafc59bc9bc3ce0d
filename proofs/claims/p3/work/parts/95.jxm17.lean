/-! contracts of the reference (17); written by wip/jc/e5.py -/
section Jjxm17
variable {X : J_H → Prop}
-- readTrain1
def jxm_c81 : jc_Cn := (197, 5, [.inr (some (some 359))], (1, [], [(2957515, .inl (0, .ofNat 1))], [], [], [8, 10, 11, 12, 13, 14, 15, 16, 17, 18, 19, 21, 22, 23, 24, 25]), [(359, 15, 16), (359, 16, 17), (359, 17, 18), (359, 18, 19), (359, 19, 20), (359, 20, 21), (359, 21, 22), (367, 0, 12), (361, 56, 196), (361, 203, 204)], [((2, [(1, .ofNat 1, .ofNat 2)], [(2957515, .inl (1, .ofNat 0))], [], [], [8, 10, 11, 12, 13, 14, 15, 16, 17, 18, 19, 21, 22, 23, 24, 25]), some (.inl (0, .ofNat 0))), ((1, [], [(2957515, .inl (0, .ofNat 2))], [], [], [8, 10, 11, 12, 13, 14, 15, 16, 17, 18, 19, 21, 22, 23, 24, 25]), some (.inl (0, .ofNat 1)))])
def jxm_c81_N : jc_Nt := [none,
  none,
  none,
  none,
  none,
  none,
  none,
  none,
  none,
  none,
  none,
  some [none, none, none, none, none, none, none, none, some ([(8, none, (1, [], [(2957515, .inl (0, .ofNat 1))], [], [], [8, 10, 11, 12, 13, 14, 16, 17, 18, 19, 21, 22, 23, 24, 25]), [(0, .inr (some (some 359))), (1, .inl (0, .ofNat 1)), (2, .inl (0, .ofNat 0))]),
    (7, none, (1, [], [(2957515, .inl (0, .ofNat 1))], [], [], [8, 10, 11, 12, 13, 14, 16, 17, 18, 19, 21, 22, 23, 24, 25]), [(0, .inr (some (some 359))), (1, .inl (0, .ofNat 1)), (2, .inl (0, .ofNat 1))]),
    (6, none, (1, [], [(2957515, .inl (0, .ofNat 1))], [], [], [8, 10, 11, 12, 13, 14, 16, 17, 18, 19, 21, 22, 23, 24, 25]), [(0, .inr (some (some 359))), (1, .inl (0, .ofNat 1)), (2, .inl (0, .ofNat 2))]),
    (5, none, (1, [], [(2957515, .inl (0, .ofNat 1))], [], [], [8, 10, 11, 12, 13, 14, 16, 17, 18, 19, 21, 22, 23, 24, 25]), [(0, .inr (some (some 359))), (1, .inl (0, .ofNat 1)), (2, .inl (0, .ofNat 3))]),
    (4, none, (1, [], [(2957515, .inl (0, .ofNat 1))], [], [], [8, 10, 11, 12, 13, 14, 16, 17, 18, 19, 21, 22, 23, 24, 25]), [(0, .inr (some (some 359))), (1, .inl (0, .ofNat 1)), (2, .inl (0, .ofNat 4))]),
    (3, none, (1, [], [(2957515, .inl (0, .ofNat 1))], [], [], [8, 10, 11, 12, 13, 14, 16, 17, 18, 19, 21, 22, 23, 24, 25]), [(0, .inr (some (some 359))), (1, .inl (0, .ofNat 1)), (2, .inl (0, .ofNat 5))]),
    (2, none, (1, [], [(2957515, .inl (0, .ofNat 1))], [], [], [8, 10, 11, 12, 13, 14, 16, 17, 18, 19, 21, 22, 23, 24, 25]), [(0, .inr (some (some 359))), (1, .inl (0, .ofNat 1)), (2, .inl (0, .ofNat 6))]),
    (1, none, (1, [], [(2957515, .inl (0, .ofNat 1))], [], [], [8, 10, 11, 12, 13, 14, 16, 17, 18, 19, 21, 22, 23, 24, 25]), [(0, .inr (some (some 359))), (1, .inl (0, .ofNat 1)), (2, .inl (0, .ofNat 7))])]), none, none, none, none, none, none, none]]
set_option maxRecDepth 1000000 in
theorem jxm_c81_ok (hX : jc_Xo jxm X) : jc_Con jP jxm X jxm_c81 := jc_mth_ok (Z := (jxm, [], jT, [jxm_c48, jxm_c50, jxm_c64, jxm_c65, jxm_c66, jxm_c67, jxm_c49, jxm_c51], jxm_S12, jxm_c81_N, .ofNat 100000)) (f := 100000) jxm_ok hX jT_ok (jc_c1 (jxm_c48_ok hX) (jc_c1 (jxm_c50_ok hX) (jc_c1 (jxm_c64_ok hX) (jc_c1 (jxm_c65_ok hX) (jc_c1 (jxm_c66_ok hX) (jc_c1 (jxm_c67_ok hX) (jc_c1 (jxm_c49_ok hX) (jc_c1 (jxm_c51_ok hX) jc_c0)))))))) (by decide +kernel)
end Jjxm17

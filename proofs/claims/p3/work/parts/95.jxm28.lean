/-! contracts of the reference (28); written by wip/jc/e5.py -/
section Jjxm28
variable {X : J_H → Prop}
-- drops3.5
def jxm_c162 : jc_Cn := (275, 1, [.inr (some (some 359)), .inl (0, .ofNat 3)], (1, [], [(2949323, .inl (0, .ofNat 5))], [], [], [9, 10, 11, 12, 13, 14, 15, 16, 17, 18, 21, 22, 23, 24, 25]), [(360, 0, 602)], [((1, [], [(2949323, .inl (0, .ofNat 4))], [], [], [9, 10, 11, 12, 13, 14, 15, 16, 17, 18, 21, 22, 23, 24, 25]), none)])
def jxm_c162_N : jc_Nt := [some [none, none, none, none, none, none, none, none, none, none, none, some ([(7, none, (1, [], [(2949323, .inl (0, .ofNat 5)), (2949416, .inl (0, .ofNat 0))], [], [], [9, 10, 11, 12, 13, 14, 15, 16, 17, 18, 21, 22, 23, 24, 25]), [(0, .inr (some (some 359))), (1, .inl (0, .ofNat 3)), (2, .inl (0, .negSucc 0))]),
    (8, none, (1, [], [(2949323, .inl (0, .ofNat 5)), (2949416, .inl (0, .ofNat 1))], [], [], [9, 10, 11, 12, 13, 14, 15, 16, 17, 18, 21, 22, 23, 24, 25]), [(0, .inr (some (some 359))), (1, .inl (0, .ofNat 3)), (2, .inl (0, .ofNat 0))]),
    (9, none, (1, [], [(2949323, .inl (0, .ofNat 5)), (2949416, .inl (0, .ofNat 2))], [], [], [9, 10, 11, 12, 13, 14, 15, 16, 17, 18, 21, 22, 23, 24, 25]), [(0, .inr (some (some 359))), (1, .inl (0, .ofNat 3)), (2, .inl (0, .ofNat 1))]),
    (10, none, (1, [], [(2949323, .inl (0, .ofNat 5)), (2949416, .inl (0, .ofNat 3))], [], [], [9, 10, 11, 12, 13, 14, 15, 16, 17, 18, 21, 22, 23, 24, 25]), [(0, .inr (some (some 359))), (1, .inl (0, .ofNat 3)), (2, .inl (0, .ofNat 2))]),
    (11, none, (1, [], [(2949323, .inl (0, .ofNat 5)), (2949416, .inl (0, .ofNat 4))], [], [], [9, 10, 11, 12, 13, 14, 15, 16, 17, 18, 21, 22, 23, 24, 25]), [(0, .inr (some (some 359))), (1, .inl (0, .ofNat 3)), (2, .inl (0, .ofNat 3))]),
    (7, none, (1, [], [(2949323, .inl (0, .ofNat 5)), (2949416, .inl (0, .ofNat 1))], [], [], [9, 10, 11, 12, 13, 14, 15, 16, 17, 18, 21, 22, 23, 24, 25]), [(0, .inr (some (some 359))), (1, .inl (0, .ofNat 3)), (2, .inl (0, .negSucc 0))]),
    (8, none, (1, [], [(2949323, .inl (0, .ofNat 5)), (2949416, .inl (0, .ofNat 2))], [], [], [9, 10, 11, 12, 13, 14, 15, 16, 17, 18, 21, 22, 23, 24, 25]), [(0, .inr (some (some 359))), (1, .inl (0, .ofNat 3)), (2, .inl (0, .ofNat 0))]),
    (9, none, (1, [], [(2949323, .inl (0, .ofNat 5)), (2949416, .inl (0, .ofNat 3))], [], [], [9, 10, 11, 12, 13, 14, 15, 16, 17, 18, 21, 22, 23, 24, 25]), [(0, .inr (some (some 359))), (1, .inl (0, .ofNat 3)), (2, .inl (0, .ofNat 1))]),
    (10, none, (1, [], [(2949323, .inl (0, .ofNat 5)), (2949416, .inl (0, .ofNat 4))], [], [], [9, 10, 11, 12, 13, 14, 15, 16, 17, 18, 21, 22, 23, 24, 25]), [(0, .inr (some (some 359))), (1, .inl (0, .ofNat 3)), (2, .inl (0, .ofNat 2))]),
    (7, none, (1, [], [(2949323, .inl (0, .ofNat 5)), (2949416, .inl (0, .ofNat 2))], [], [], [9, 10, 11, 12, 13, 14, 15, 16, 17, 18, 21, 22, 23, 24, 25]), [(0, .inr (some (some 359))), (1, .inl (0, .ofNat 3)), (2, .inl (0, .negSucc 0))]),
    (8, none, (1, [], [(2949323, .inl (0, .ofNat 5)), (2949416, .inl (0, .ofNat 3))], [], [], [9, 10, 11, 12, 13, 14, 15, 16, 17, 18, 21, 22, 23, 24, 25]), [(0, .inr (some (some 359))), (1, .inl (0, .ofNat 3)), (2, .inl (0, .ofNat 0))]),
    (9, none, (1, [], [(2949323, .inl (0, .ofNat 5)), (2949416, .inl (0, .ofNat 4))], [], [], [9, 10, 11, 12, 13, 14, 15, 16, 17, 18, 21, 22, 23, 24, 25]), [(0, .inr (some (some 359))), (1, .inl (0, .ofNat 3)), (2, .inl (0, .ofNat 1))]),
    (7, none, (1, [], [(2949323, .inl (0, .ofNat 5)), (2949416, .inl (0, .ofNat 3))], [], [], [9, 10, 11, 12, 13, 14, 15, 16, 17, 18, 21, 22, 23, 24, 25]), [(0, .inr (some (some 359))), (1, .inl (0, .ofNat 3)), (2, .inl (0, .negSucc 0))]),
    (8, none, (1, [], [(2949323, .inl (0, .ofNat 5)), (2949416, .inl (0, .ofNat 4))], [], [], [9, 10, 11, 12, 13, 14, 15, 16, 17, 18, 21, 22, 23, 24, 25]), [(0, .inr (some (some 359))), (1, .inl (0, .ofNat 3)), (2, .inl (0, .ofNat 0))]),
    (7, none, (1, [], [(2949323, .inl (0, .ofNat 5)), (2949416, .inl (0, .ofNat 4))], [], [], [9, 10, 11, 12, 13, 14, 15, 16, 17, 18, 21, 22, 23, 24, 25]), [(0, .inr (some (some 359))), (1, .inl (0, .ofNat 3)), (2, .inl (0, .negSucc 0))])]), none, none, none, none],
  none,
  none,
  some [some ([(6, none, (1, [], [(2949323, .inl (0, .ofNat 5))], [], [], [9, 10, 11, 12, 13, 14, 15, 16, 17, 18, 21, 22, 23, 24, 25]), [(0, .inr (some (some 359))), (1, .inl (0, .ofNat 3)), (2, .inl (0, .ofNat 0))]),
    (5, none, (1, [], [(2949323, .inl (0, .ofNat 5))], [], [], [9, 10, 11, 12, 13, 14, 15, 16, 17, 18, 21, 22, 23, 24, 25]), [(0, .inr (some (some 359))), (1, .inl (0, .ofNat 3)), (2, .inl (0, .ofNat 1))]),
    (4, none, (1, [], [(2949323, .inl (0, .ofNat 5))], [], [], [9, 10, 11, 12, 13, 14, 15, 16, 17, 18, 21, 22, 23, 24, 25]), [(0, .inr (some (some 359))), (1, .inl (0, .ofNat 3)), (2, .inl (0, .ofNat 2))]),
    (3, none, (1, [], [(2949323, .inl (0, .ofNat 5))], [], [], [9, 10, 11, 12, 13, 14, 15, 16, 17, 18, 21, 22, 23, 24, 25]), [(0, .inr (some (some 359))), (1, .inl (0, .ofNat 3)), (2, .inl (0, .ofNat 3))]),
    (2, none, (1, [], [(2949323, .inl (0, .ofNat 5))], [], [], [9, 10, 11, 12, 13, 14, 15, 16, 17, 18, 21, 22, 23, 24, 25]), [(0, .inr (some (some 359))), (1, .inl (0, .ofNat 3)), (2, .inl (0, .ofNat 4))])]), none, none, none, none, none, none, none, none, none, none, none, none, none, none, none],
  none,
  none,
  none,
  none,
  none,
  none,
  none,
  none,
  none,
  none,
  some [none, none, none, none, none, none, none, none, none, none, none, some ([(1, none, (2, [(1, .ofNat 0, .ofNat 4)], [(2949323, .inl (0, .ofNat 5))], [], [], [9, 10, 11, 12, 13, 14, 15, 16, 17, 18, 19, 21, 22, 23, 24]), [(0, .inr (some (some 359))), (1, .inl (0, .ofNat 3)), (2, .inl (0, .ofNat 5)), (3, .inl (1, .ofNat 0)), (4, .inl (0, .ofNat 4))])]), none, none, none, none]]
set_option maxRecDepth 1000000 in
theorem jxm_c162_ok (hX : jc_Xo jxm X) : jc_Con jP jxm X jxm_c162 := jc_mth_ok (Z := (jxm, [(78, (79, false)), (79, (79, true)), (80, (109, false))], jT, [jxm_c139, jxm_c140, jxm_c141, jxm_c142, jxm_c143, jxm_c144, jxm_c145, jxm_c146, jxm_c147, jxm_c148], jxm_S20, jxm_c162_N, .ofNat 100000)) (f := 100000) jxm_ok hX jT_ok (jc_c1 (jxm_c139_ok hX) (jc_c1 (jxm_c140_ok hX) (jc_c1 (jxm_c141_ok hX) (jc_c1 (jxm_c142_ok hX) (jc_c1 (jxm_c143_ok hX) (jc_c1 (jxm_c144_ok hX) (jc_c1 (jxm_c145_ok hX) (jc_c1 (jxm_c146_ok hX) (jc_c1 (jxm_c147_ok hX) (jc_c1 (jxm_c148_ok hX) jc_c0)))))))))) (by decide +kernel)
end Jjxm28

/-! contracts of the reference (62); written by wip/jc/e5.py -/
section Jjxm62
variable {X : J_H → Prop}
-- time
def jxm_c320 : jc_Cn := (252, 2, [.inr (some (some 359)), .inl (1, .ofNat 0), .inl (2, .ofNat 0), .inl (3, .ofNat 0)], (4, [(1, .negSucc 2147483647, .ofNat 2147483647), (2, .negSucc 2147483647, .ofNat 2147483647), (3, .ofNat 0, .ofNat 1)], [], [], [], [9, 12, 13, 14, 15, 16, 17, 18, 21, 22, 23, 24, 25]), [(359, 10, 11), (359, 0, 1)], [((2, [(1, .negSucc 2147483647, .ofNat 2147483647)], [], [], [], [9, 12, 13, 14, 15, 16, 17, 18, 21, 22, 23, 24, 25]), some (.inl (1, .ofNat 0)))])
def jxm_c320_N : jc_Nt := []
set_option maxRecDepth 1000000 in
theorem jxm_c320_ok (hX : jc_Xo jxm X) : jc_Con jP jxm X jxm_c320 := jc_mth_ok (Z := (jxm, [], jT, [], jxm_S0, jxm_c320_N, .ofNat 100000)) (f := 100000) jxm_ok hX jT_ok jc_c0 (by decide +kernel)
-- together
def jxm_c321 : jc_Cn := (253, 2, [.inr (some (some 359)), .inl (1, .ofNat 0), .inl (2, .ofNat 0), .inl (3, .ofNat 0)], (4, [(1, .negSucc 2147483647, .ofNat 2147483647), (2, .negSucc 2147483647, .ofNat 2147483647), (3, .ofNat 0, .ofNat 1)], [], [], [], [9, 12, 13, 14, 15, 16, 17, 18, 21, 22, 23, 24, 25]), [(359, 10, 11), (359, 0, 1)], [((2, [(1, .negSucc 2147483647, .ofNat 2147483647)], [], [], [], [9, 12, 13, 14, 15, 16, 17, 18, 21, 22, 23, 24, 25]), some (.inl (1, .ofNat 0)))])
def jxm_c321_N : jc_Nt := []
set_option maxRecDepth 1000000 in
theorem jxm_c321_ok (hX : jc_Xo jxm X) : jc_Con jP jxm X jxm_c321 := jc_mth_ok (Z := (jxm, [], jT, [], jxm_S0, jxm_c321_N, .ofNat 100000)) (f := 100000) jxm_ok hX jT_ok jc_c0 (by decide +kernel)
-- stood
def jxm_c322 : jc_Cn := (255, 2, [.inr (some (some 359)), .inl (1, .ofNat 0)], (2, [(1, .negSucc 2147483647, .ofNat 2147483647)], [], [], [], [9, 12, 13, 14, 15, 16, 17, 18, 21, 22, 23, 24, 25]), [(359, 10, 11), (359, 0, 1)], [((2, [(1, .negSucc 2147483647, .ofNat 2147483647)], [], [], [], [9, 12, 13, 14, 15, 16, 17, 18, 21, 22, 23, 24, 25]), some (.inl (1, .ofNat 0)))])
def jxm_c322_N : jc_Nt := []
set_option maxRecDepth 1000000 in
theorem jxm_c322_ok (hX : jc_Xo jxm X) : jc_Con jP jxm X jxm_c322 := jc_mth_ok (Z := (jxm, [], jT, [], jxm_S0, jxm_c322_N, .ofNat 100000)) (f := 100000) jxm_ok hX jT_ok jc_c0 (by decide +kernel)
-- late
def jxm_c323 : jc_Cn := (256, 3, [.inr (some (some 359)), .inl (1, .ofNat 0), .inl (2, .ofNat 0)], (3, [(1, .negSucc 2147483647, .ofNat 2147483647), (2, .negSucc 2147483647, .ofNat 2147483647)], [], [], [], [9, 12, 13, 14, 15, 16, 17, 18, 21, 22, 23, 24, 25]), [(359, 10, 11), (359, 0, 1)], [((2, [(1, .negSucc 2147483647, .ofNat 2147483647)], [], [], [], [9, 12, 13, 14, 15, 16, 17, 18, 21, 22, 23, 24, 25]), some (.inl (1, .ofNat 0)))])
def jxm_c323_n79_0 : List jc_Nd := [(1, some 4, (5, [(1, .ofNat 0, .ofNat 6), (2, .negSucc 2147483647, .ofNat 2147483647), (3, .negSucc 2147483647, .ofNat 2147483647), (4, .ofNat 0, .ofNat 6)], [], [], [], [9, 12, 13, 14, 15, 16, 17, 18, 21, 22, 23, 24, 25]), [(0, .inr (some (some 359))), (1, .inl (0, .ofNat 0)), (2, .inl (1, .ofNat 0)), (3, .inl (2, .ofNat 0)), (4, .inl (3, .ofNat 0)), (5, .inl (4, .ofNat 0))]),
    (1, some 4, (5, [(1, .ofNat 0, .ofNat 6), (2, .negSucc 2147483647, .ofNat 2147483647), (3, .negSucc 2147483647, .ofNat 2147483647), (4, .ofNat 0, .ofNat 6)], [], [], [], [9, 12, 13, 14, 15, 16, 17, 18, 21, 22, 23, 24, 25]), [(0, .inr (some (some 359))), (1, .inl (0, .ofNat 1)), (2, .inl (1, .ofNat 0)), (3, .inl (2, .ofNat 0)), (4, .inl (3, .ofNat 0)), (5, .inl (4, .ofNat 0))]),
    (1, some 4, (5, [(1, .ofNat 0, .ofNat 6), (2, .negSucc 2147483647, .ofNat 2147483647), (3, .negSucc 2147483647, .ofNat 2147483647), (4, .ofNat 0, .ofNat 6)], [], [], [], [9, 12, 13, 14, 15, 16, 17, 18, 21, 22, 23, 24, 25]), [(0, .inr (some (some 359))), (1, .inl (0, .ofNat 2)), (2, .inl (1, .ofNat 0)), (3, .inl (2, .ofNat 0)), (4, .inl (3, .ofNat 0)), (5, .inl (4, .ofNat 0))]),
    (1, some 4, (5, [(1, .ofNat 0, .ofNat 6), (2, .negSucc 2147483647, .ofNat 2147483647), (3, .negSucc 2147483647, .ofNat 2147483647), (4, .ofNat 0, .ofNat 6)], [], [], [], [9, 12, 13, 14, 15, 16, 17, 18, 21, 22, 23, 24, 25]), [(0, .inr (some (some 359))), (1, .inl (0, .ofNat 3)), (2, .inl (1, .ofNat 0)), (3, .inl (2, .ofNat 0)), (4, .inl (3, .ofNat 0)), (5, .inl (4, .ofNat 0))]),
    (1, some 4, (5, [(1, .ofNat 0, .ofNat 6), (2, .negSucc 2147483647, .ofNat 2147483647), (3, .negSucc 2147483647, .ofNat 2147483647), (4, .ofNat 0, .ofNat 6)], [], [], [], [9, 12, 13, 14, 15, 16, 17, 18, 21, 22, 23, 24, 25]), [(0, .inr (some (some 359))), (1, .inl (0, .ofNat 4)), (2, .inl (1, .ofNat 0)), (3, .inl (2, .ofNat 0)), (4, .inl (3, .ofNat 0)), (5, .inl (4, .ofNat 0))])]
def jxm_c323_N : jc_Nt := [none,
  none,
  none,
  none,
  some [none, none, none, none, none, none, none, none, none, none, none, none, none, none, none, some (jxm_c323_n79_0)]]
noncomputable def jxm_c323_Z : jc_Ce := (jxm, [], jT, [], jxm_S0, jxm_c323_N, .ofNat 100000)
set_option maxRecDepth 1000000 in
theorem jxm_c323_k79_0 : jc_ndc jxm_c323_Z 100000 jxm_c323 79 jxm_c323_n79_0 = true := by decide +kernel
set_option maxRecDepth 1000000 in
theorem jxm_c323_s : jc_mtg jxm_c323_Z 100000 jxm_c323 = true := by decide +kernel
theorem jxm_c323_h : ∀ pc ns, ja_n2 jxm_c323_N pc = some ns → jc_ndc jxm_c323_Z 100000 jxm_c323 pc ns = true := by
  intro pc ns h
  have hp := jc_inl_ok (ja_ch2_ok (p := fun i (_ : List jc_Nd) => jc_inl i [79]) (L := jxm_c323_N) (by decide +kernel) h)
  simp only [List.mem_cons, List.not_mem_nil, or_false] at hp
  subst hp
  · exact (Option.some.inj (h.symm.trans (show ja_n2 jxm_c323_N 79 = some jxm_c323_n79_0 from rfl))) ▸ jxm_c323_k79_0
theorem jxm_c323_ok (hX : jc_Xo jxm X) : jc_Con jP jxm X jxm_c323 := jc_mthc_ok (Z := jxm_c323_Z) (f := 100000) jxm_ok hX jT_ok jc_c0 jxm_c323_s jxm_c323_h
-- event_
def jxm_c324 : jc_Cn := (257, 1, [.inr (some (some 359)), .inl (1, .ofNat 0), .inl (2, .ofNat 0)], (3, [(1, .negSucc 2147483647, .ofNat 2147483647), (2, .negSucc 2147483647, .ofNat 2147483647)], [], [], [], [9, 12, 13, 14, 15, 16, 17, 18, 21, 22, 23, 24, 25]), [(359, 10, 11), (359, 0, 1)], [((2, [(1, .negSucc 2147483647, .ofNat 2147483647)], [], [], [], [9, 12, 13, 14, 15, 16, 17, 18, 21, 22, 23, 24, 25]), some (.inl (1, .ofNat 0)))])
def jxm_c324_N : jc_Nt := []
set_option maxRecDepth 1000000 in
theorem jxm_c324_ok (hX : jc_Xo jxm X) : jc_Con jP jxm X jxm_c324 := jc_mth_ok (Z := (jxm, [], jT, [], jxm_S0, jxm_c324_N, .ofNat 100000)) (f := 100000) jxm_ok hX jT_ok jc_c0 (by decide +kernel)
-- use
def jxm_c325 : jc_Cn := (258, 2, [.inr (some (some 359)), .inl (1, .ofNat 0)], (2, [(1, .negSucc 2147483647, .ofNat 2147483647)], [], [], [], [9, 12, 13, 14, 15, 16, 17, 18, 21, 22, 23, 24, 25]), [(359, 10, 11), (359, 0, 1)], [((2, [(1, .negSucc 2147483647, .ofNat 2147483647)], [], [], [], [9, 12, 13, 14, 15, 16, 17, 18, 21, 22, 23, 24, 25]), some (.inl (1, .ofNat 0)))])
def jxm_c325_N : jc_Nt := []
set_option maxRecDepth 1000000 in
theorem jxm_c325_ok (hX : jc_Xo jxm X) : jc_Con jP jxm X jxm_c325 := jc_mth_ok (Z := (jxm, [], jT, [], jxm_S0, jxm_c325_N, .ofNat 100000)) (f := 100000) jxm_ok hX jT_ok jc_c0 (by decide +kernel)
-- gone
def jxm_c326 : jc_Cn := (259, 2, [.inr (some (some 359)), .inl (1, .ofNat 0), .inl (2, .ofNat 0)], (3, [(1, .negSucc 2147483647, .ofNat 2147483647), (2, .negSucc 2147483647, .ofNat 2147483647)], [], [], [], [9, 12, 13, 14, 15, 16, 17, 18, 21, 22, 23, 24, 25]), [(359, 10, 11), (359, 0, 1)], [((2, [(1, .negSucc 2147483647, .ofNat 2147483647)], [], [], [], [9, 12, 13, 14, 15, 16, 17, 18, 21, 22, 23, 24, 25]), some (.inl (1, .ofNat 0)))])
def jxm_c326_N : jc_Nt := []
set_option maxRecDepth 1000000 in
theorem jxm_c326_ok (hX : jc_Xo jxm X) : jc_Con jP jxm X jxm_c326 := jc_mth_ok (Z := (jxm, [], jT, [], jxm_S0, jxm_c326_N, .ofNat 100000)) (f := 100000) jxm_ok hX jT_ok jc_c0 (by decide +kernel)
-- waits
def jxm_c327 : jc_Cn := (260, 2, [.inr (some (some 359)), .inl (1, .ofNat 0)], (2, [(1, .negSucc 2147483647, .ofNat 2147483647)], [], [], [], [9, 12, 13, 14, 15, 16, 17, 18, 21, 22, 23, 24, 25]), [(359, 10, 11), (359, 0, 1)], [((2, [(1, .negSucc 2147483647, .ofNat 2147483647)], [], [], [], [9, 12, 13, 14, 15, 16, 17, 18, 21, 22, 23, 24, 25]), some (.inl (1, .ofNat 0)))])
def jxm_c327_N : jc_Nt := []
set_option maxRecDepth 1000000 in
theorem jxm_c327_ok (hX : jc_Xo jxm X) : jc_Con jP jxm X jxm_c327 := jc_mth_ok (Z := (jxm, [], jT, [], jxm_S0, jxm_c327_N, .ofNat 100000)) (f := 100000) jxm_ok hX jT_ok jc_c0 (by decide +kernel)
-- ahead
def jxm_c328 : jc_Cn := (262, 11, [.inr (some (some 359)), .inl (1, .ofNat 0), .inl (2, .ofNat 0), .inl (3, .ofNat 0)], (4, [(1, .negSucc 2147483647, .ofNat 2147483647), (2, .ofNat 0, .ofNat 1), (3, .negSucc 2147483647, .ofNat 2147483647)], [], [], [], [9, 12, 13, 14, 15, 16, 17, 18, 21, 22, 23, 24, 25]), [(360, 0, 602), (363, 0, 602), (362, 0, 602), (368, 0, 5), (359, 23, 24), (359, 10, 11), (359, 0, 1)], [((2, [(1, .negSucc 2147483647, .ofNat 2147483647)], [], [], [], [9, 12, 13, 14, 15, 16, 17, 18, 21, 22, 23, 24, 25]), some (.inl (1, .ofNat 0)))])
def jxm_c328_N : jc_Nt := [none,
  none,
  some [none, none, none, none, none, none, none, some ([(1, some 4, (5, [(1, .ofNat 0, .ofNat 99), (2, .ofNat 0, .ofNat 1), (3, .ofNat 0, .ofNat 5), (4, .ofNat 0, .ofNat 99)], [], [], [], [9, 12, 13, 14, 15, 16, 17, 18, 21, 22, 23, 24, 25]), [(0, .inr (some (some 359))), (1, .inl (1, .ofNat 0)), (2, .inl (2, .ofNat 0)), (3, .inl (3, .ofNat 0)), (4, .inl (4, .ofNat 0))])]), none, none, none, none, none, none, none, none]]
set_option maxRecDepth 1000000 in
theorem jxm_c328_ok (hX : jc_Xo jxm X) (hg13 : jc_Con jP jxm X jxm_g13) (hg19 : jc_Con jP jxm X jxm_g19) (hg20 : jc_Con jP jxm X jxm_g20) (hg34 : jc_Con jP jxm X jxm_g34) (hg40 : jc_Con jP jxm X jxm_g40) (hg41 : jc_Con jP jxm X jxm_g41) : jc_Con jP jxm X jxm_c328 := jc_mth_ok (Z := (jxm, [], jT, [jxm_g13, jxm_g34, jxm_c16, jxm_c22, jxm_c46, jxm_c0, jxm_c28], jxm_S0, jxm_c328_N, .ofNat 100000)) (f := 100000) jxm_ok hX jT_ok (jc_c1 hg13 (jc_c1 hg34 (jc_c1 (jxm_c16_ok hX) (jc_c1 (jxm_c22_ok hX) (jc_c1 (jxm_c46_ok hX hg19 hg20 hg40 hg41) (jc_c1 (jxm_c0_ok hX) (jc_c1 (jxm_c28_ok hX) jc_c0))))))) (by decide +kernel)
-- ends
def jxm_c329 : jc_Cn := (264, 12, [.inr (some (some 359)), .inl (1, .ofNat 0), .inl (2, .ofNat 0)], (3, [(1, .ofNat 0, .ofNat 1), (2, .negSucc 2147483647, .ofNat 2147483647)], [], [], [], [9, 12, 13, 14, 15, 16, 17, 18, 21, 22, 23, 24, 25]), [(360, 0, 602), (363, 0, 602), (362, 0, 602), (368, 0, 5), (359, 23, 24), (359, 10, 11), (359, 0, 1)], [((2, [(1, .negSucc 2147483647, .ofNat 2147483647)], [], [], [], [9, 12, 13, 14, 15, 16, 17, 18, 21, 22, 23, 24, 25]), some (.inl (1, .ofNat 0)))])
def jxm_c329_N : jc_Nt := []
set_option maxRecDepth 1000000 in
theorem jxm_c329_ok (hX : jc_Xo jxm X) (hg13 : jc_Con jP jxm X jxm_g13) (hg19 : jc_Con jP jxm X jxm_g19) (hg20 : jc_Con jP jxm X jxm_g20) (hg34 : jc_Con jP jxm X jxm_g34) (hg40 : jc_Con jP jxm X jxm_g40) (hg41 : jc_Con jP jxm X jxm_g41) : jc_Con jP jxm X jxm_c329 := jc_mth_ok (Z := (jxm, [], jT, [jxm_g13, jxm_g34, jxm_c22, jxm_c0, jxm_c28, jxm_c47], jxm_S0, jxm_c329_N, .ofNat 100000)) (f := 100000) jxm_ok hX jT_ok (jc_c1 hg13 (jc_c1 hg34 (jc_c1 (jxm_c22_ok hX) (jc_c1 (jxm_c0_ok hX) (jc_c1 (jxm_c28_ok hX) (jc_c1 (jxm_c47_ok hX hg19 hg20 hg40 hg41) jc_c0)))))) (by decide +kernel)
-- when
def jxm_c330 : jc_Cn := (265, 12, [.inr (some (some 359)), .inl (1, .ofNat 0)], (2, [(1, .negSucc 2147483647, .ofNat 2147483647)], [], [], [], [9, 12, 13, 14, 15, 16, 17, 18, 21, 22, 23, 24, 25]), [(360, 0, 602), (363, 0, 602), (362, 0, 602), (368, 0, 5), (359, 23, 24), (359, 10, 11), (359, 0, 1)], [((2, [(1, .negSucc 2147483647, .ofNat 2147483647)], [], [], [], [9, 12, 13, 14, 15, 16, 17, 18, 21, 22, 23, 24, 25]), some (.inl (1, .ofNat 0)))])
def jxm_c330_N : jc_Nt := []
set_option maxRecDepth 1000000 in
theorem jxm_c330_ok (hX : jc_Xo jxm X) (hg1 : jc_Con jP jxm X jxm_g1) (hg2 : jc_Con jP jxm X jxm_g2) (hg3 : jc_Con jP jxm X jxm_g3) (hg4 : jc_Con jP jxm X jxm_g4) (hg5 : jc_Con jP jxm X jxm_g5) (hg19 : jc_Con jP jxm X jxm_g19) (hg20 : jc_Con jP jxm X jxm_g20) (hg22 : jc_Con jP jxm X jxm_g22) (hg23 : jc_Con jP jxm X jxm_g23) (hg24 : jc_Con jP jxm X jxm_g24) (hg25 : jc_Con jP jxm X jxm_g25) (hg26 : jc_Con jP jxm X jxm_g26) (hg40 : jc_Con jP jxm X jxm_g40) (hg41 : jc_Con jP jxm X jxm_g41) : jc_Con jP jxm X jxm_c330 := jc_mth_ok (Z := (jxm, [], jT, [jxm_g1, jxm_g2, jxm_g3, jxm_g4, jxm_g5, jxm_g22, jxm_g23, jxm_g24, jxm_g25, jxm_g26, jxm_c47], jxm_S0, jxm_c330_N, .ofNat 100000)) (f := 100000) jxm_ok hX jT_ok (jc_c1 hg1 (jc_c1 hg2 (jc_c1 hg3 (jc_c1 hg4 (jc_c1 hg5 (jc_c1 hg22 (jc_c1 hg23 (jc_c1 hg24 (jc_c1 hg25 (jc_c1 hg26 (jc_c1 (jxm_c47_ok hX hg19 hg20 hg40 hg41) jc_c0))))))))))) (by decide +kernel)
-- status
def jxm_c331 : jc_Cn := (168, 0, [.inr (some (some 359))], (1, [], [], [], [], [9, 12, 13, 14, 15, 16, 17, 18, 21, 22, 23, 24, 25]), [(359, 10, 11), (359, 0, 1)], [((2, [(1, .negSucc 2147483647, .ofNat 2147483647)], [], [], [], [9, 12, 13, 14, 15, 16, 17, 18, 21, 22, 23, 24, 25]), some (.inl (1, .ofNat 0)))])
def jxm_c331_N : jc_Nt := []
set_option maxRecDepth 1000000 in
theorem jxm_c331_ok (hX : jc_Xo jxm X) : jc_Con jP jxm X jxm_c331 := jc_mth_ok (Z := (jxm, [], jT, [], jxm_S0, jxm_c331_N, .ofNat 100000)) (f := 100000) jxm_ok hX jT_ok jc_c0 (by decide +kernel)
-- fault
def jxm_c332 : jc_Cn := (202, 0, [.inr (some (some 359)), .inl (1, .ofNat 0)], (2, [(1, .negSucc 2147483647, .ofNat 2147483647)], [], [], [], [9, 12, 13, 14, 15, 16, 17, 18, 21, 22, 23, 24, 25]), [(359, 10, 11), (359, 0, 1)], [((2, [(1, .negSucc 2147483647, .ofNat 2147483647)], [], [], [], [9, 12, 13, 14, 15, 16, 17, 18, 21, 22, 23, 24, 25]), some (.inl (1, .ofNat 0)))])
def jxm_c332_N : jc_Nt := []
set_option maxRecDepth 1000000 in
theorem jxm_c332_ok (hX : jc_Xo jxm X) : jc_Con jP jxm X jxm_c332 := jc_mth_ok (Z := (jxm, [], jT, [], jxm_S0, jxm_c332_N, .ofNat 100000)) (f := 100000) jxm_ok hX jT_ok jc_c0 (by decide +kernel)
-- out
def jxm_c333 : jc_Cn := (297, 0, [.inr (some (some 359)), .inl (1, .ofNat 0)], (2, [(1, .negSucc 2147483647, .ofNat 2147483647)], [], [], [], [9, 12, 13, 14, 15, 16, 17, 18, 21, 22, 23, 24, 25]), [(359, 10, 11), (359, 0, 1)], [((2, [(1, .negSucc 127, .ofNat 127)], [], [], [], [9, 12, 13, 14, 15, 16, 17, 18, 21, 22, 23, 24, 25]), some (.inl (1, .ofNat 0)))])
def jxm_c333_N : jc_Nt := []
set_option maxRecDepth 1000000 in
theorem jxm_c333_ok (hX : jc_Xo jxm X) : jc_Con jP jxm X jxm_c333 := jc_mth_ok (Z := (jxm, [], jT, [], jxm_S0, jxm_c333_N, .ofNat 100000)) (f := 100000) jxm_ok hX jT_ok jc_c0 (by decide +kernel)
end Jjxm62

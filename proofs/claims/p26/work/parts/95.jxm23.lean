/-! contracts of the reference (23); written by wip/jc/e5.py -/
section Jjxm23
variable {X : J_H → Prop}
set_option maxRecDepth 1000000 in
theorem jxm_c84_s : jc_mtg jxm_c84_Z 100000 jxm_c84 = true := by decide +kernel
theorem jxm_c84_h : ∀ pc ns, ja_n2 jxm_c84_N pc = some ns → jc_ndc jxm_c84_Z 100000 jxm_c84 pc ns = true := by
  intro pc ns h
  have hp := jc_inl_ok (ja_ch2_ok (p := fun i (_ : List jc_Nd) => jc_inl i [184]) (L := jxm_c84_N) (by decide +kernel) h)
  simp only [List.mem_cons, List.not_mem_nil, or_false] at hp
  subst hp
  · exact (Option.some.inj (h.symm.trans (show ja_n2 jxm_c84_N 184 = some jxm_c84_n184_0 from rfl))) ▸ jxm_c84_k184_0
theorem jxm_c84_ok (hX : jc_Xo jxm X) : jc_Con jP jxm X jxm_c84 := jc_mthc_ok (Z := jxm_c84_Z) (f := 100000) jxm_ok hX jT_ok (jc_c1 (jxm_c48_ok hX) (jc_c1 (jxm_c50_ok hX) (jc_c1 (jxm_c76_ok hX) (jc_c1 (jxm_c77_ok hX) (jc_c1 (jxm_c78_ok hX) (jc_c1 (jxm_c79_ok hX) (jc_c1 (jxm_c49_ok hX) (jc_c1 (jxm_c51_ok hX) jc_c0)))))))) jxm_c84_s jxm_c84_h
-- readTrain5
def jxm_c85 : jc_Cn := (197, 1, [.inr (some (some 359))], (1, [], [(2957515, .inl (0, .ofNat 5))], [], [], [8, 10, 11, 12, 13, 14, 15, 16, 17, 18, 19, 21, 22, 23, 24, 25]), [(359, 15, 16), (359, 16, 17), (359, 17, 18), (359, 18, 19), (359, 19, 20), (359, 20, 21), (359, 21, 22), (367, 0, 12), (361, 56, 196), (361, 203, 204)], [((1, [], [(2957515, .inl (0, .ofNat 5))], [], [], [8, 10, 11, 12, 13, 14, 15, 16, 17, 18, 19, 21, 22, 23, 24, 25]), some (.inl (0, .ofNat 0)))])
def jxm_c85_N : jc_Nt := []
set_option maxRecDepth 1000000 in
theorem jxm_c85_ok (hX : jc_Xo jxm X) : jc_Con jP jxm X jxm_c85 := jc_mth_ok (Z := (jxm, [], jT, [], jxm_S0, jxm_c85_N, .ofNat 100000)) (f := 100000) jxm_ok hX jT_ok jc_c0 (by decide +kernel)
-- next0
def jxm_c86 : jc_Cn := (204, 3, [.inr (some (some 359)), .inl (0, .ofNat 0)], (3, [(1, .ofNat 1, .ofNat 5), (2, .ofNat 1, .ofNat 2)], [(2949182, .inl (2, .ofNat 0)), (2949323, .inl (1, .ofNat 0))], [], [], [9, 12, 13, 14, 15, 16, 17, 18, 21, 22, 23, 24, 25]), [], [((4, [(1, .ofNat 0, .ofNat 6), (2, .ofNat 1, .ofNat 2), (3, .ofNat 1, .ofNat 5)], [(2949182, .inl (2, .ofNat 0)), (2949323, .inl (3, .ofNat 0))], [], [], [9, 12, 13, 14, 15, 16, 17, 18, 21, 22, 23, 24, 25]), some (.inl (1, .ofNat 0)))])
def jxm_c86_N : jc_Nt := []
set_option maxRecDepth 1000000 in
theorem jxm_c86_ok (hX : jc_Xo jxm X) : jc_Con jP jxm X jxm_c86 := jc_mth_ok (Z := (jxm, [], jT, [], jxm_S0, jxm_c86_N, .ofNat 100000)) (f := 100000) jxm_ok hX jT_ok jc_c0 (by decide +kernel)
-- sectionOf0
def jxm_c87 : jc_Cn := (209, 4, [.inr (some (some 359)), .inl (0, .ofNat 0)], (3, [(1, .ofNat 1, .ofNat 5), (2, .ofNat 1, .ofNat 2)], [(2949182, .inl (2, .ofNat 0)), (2949323, .inl (1, .ofNat 0))], [], [], [9, 12, 13, 14, 15, 16, 17, 18, 21, 22, 23, 24, 25]), [], [((4, [(1, .ofNat 0, .ofNat 6), (2, .ofNat 1, .ofNat 2), (3, .ofNat 1, .ofNat 5)], [(2949182, .inl (2, .ofNat 0)), (2949323, .inl (3, .ofNat 0))], [], [], [9, 12, 13, 14, 15, 16, 17, 18, 21, 22, 23, 24, 25]), some (.inl (1, .ofNat 0)))])
def jxm_c87_N : jc_Nt := []
set_option maxRecDepth 1000000 in
theorem jxm_c87_ok (hX : jc_Xo jxm X) : jc_Con jP jxm X jxm_c87 := jc_mth_ok (Z := (jxm, [], jT, [jxm_c86], jxm_S0, jxm_c87_N, .ofNat 100000)) (f := 100000) jxm_ok hX jT_ok (jc_c1 (jxm_c86_ok hX) jc_c0) (by decide +kernel)
-- next1
def jxm_c88 : jc_Cn := (204, 3, [.inr (some (some 359)), .inl (0, .ofNat 1)], (3, [(1, .ofNat 2, .ofNat 5), (2, .ofNat 1, .ofNat 2)], [(2949210, .inl (2, .ofNat 0)), (2949323, .inl (1, .ofNat 0))], [], [], [9, 12, 13, 14, 15, 16, 17, 18, 21, 22, 23, 24, 25]), [], [((4, [(1, .ofNat 0, .ofNat 6), (2, .ofNat 1, .ofNat 2), (3, .ofNat 2, .ofNat 5)], [(2949210, .inl (2, .ofNat 0)), (2949323, .inl (3, .ofNat 0))], [], [], [9, 12, 13, 14, 15, 16, 17, 18, 21, 22, 23, 24, 25]), some (.inl (1, .ofNat 0)))])
def jxm_c88_N : jc_Nt := []
set_option maxRecDepth 1000000 in
theorem jxm_c88_ok (hX : jc_Xo jxm X) : jc_Con jP jxm X jxm_c88 := jc_mth_ok (Z := (jxm, [], jT, [], jxm_S0, jxm_c88_N, .ofNat 100000)) (f := 100000) jxm_ok hX jT_ok jc_c0 (by decide +kernel)
-- sectionOf1
def jxm_c89 : jc_Cn := (209, 4, [.inr (some (some 359)), .inl (0, .ofNat 1)], (3, [(1, .ofNat 2, .ofNat 5), (2, .ofNat 1, .ofNat 2)], [(2949210, .inl (2, .ofNat 0)), (2949323, .inl (1, .ofNat 0))], [], [], [9, 12, 13, 14, 15, 16, 17, 18, 21, 22, 23, 24, 25]), [], [((4, [(1, .ofNat 0, .ofNat 6), (2, .ofNat 1, .ofNat 2), (3, .ofNat 2, .ofNat 5)], [(2949210, .inl (2, .ofNat 0)), (2949323, .inl (3, .ofNat 0))], [], [], [9, 12, 13, 14, 15, 16, 17, 18, 21, 22, 23, 24, 25]), some (.inl (1, .ofNat 0)))])
def jxm_c89_N : jc_Nt := []
set_option maxRecDepth 1000000 in
theorem jxm_c89_ok (hX : jc_Xo jxm X) : jc_Con jP jxm X jxm_c89 := jc_mth_ok (Z := (jxm, [], jT, [jxm_c88], jxm_S0, jxm_c89_N, .ofNat 100000)) (f := 100000) jxm_ok hX jT_ok (jc_c1 (jxm_c88_ok hX) jc_c0) (by decide +kernel)
-- next2
def jxm_c90 : jc_Cn := (204, 3, [.inr (some (some 359)), .inl (0, .ofNat 2)], (3, [(1, .ofNat 3, .ofNat 5), (2, .ofNat 1, .ofNat 2)], [(2949238, .inl (2, .ofNat 0)), (2949323, .inl (1, .ofNat 0))], [], [], [9, 12, 13, 14, 15, 16, 17, 18, 21, 22, 23, 24, 25]), [], [((4, [(1, .ofNat 0, .ofNat 6), (2, .ofNat 1, .ofNat 2), (3, .ofNat 3, .ofNat 5)], [(2949238, .inl (2, .ofNat 0)), (2949323, .inl (3, .ofNat 0))], [], [], [9, 12, 13, 14, 15, 16, 17, 18, 21, 22, 23, 24, 25]), some (.inl (1, .ofNat 0)))])
def jxm_c90_N : jc_Nt := []
set_option maxRecDepth 1000000 in
theorem jxm_c90_ok (hX : jc_Xo jxm X) : jc_Con jP jxm X jxm_c90 := jc_mth_ok (Z := (jxm, [], jT, [], jxm_S0, jxm_c90_N, .ofNat 100000)) (f := 100000) jxm_ok hX jT_ok jc_c0 (by decide +kernel)
-- sectionOf2
def jxm_c91 : jc_Cn := (209, 4, [.inr (some (some 359)), .inl (0, .ofNat 2)], (3, [(1, .ofNat 3, .ofNat 5), (2, .ofNat 1, .ofNat 2)], [(2949238, .inl (2, .ofNat 0)), (2949323, .inl (1, .ofNat 0))], [], [], [9, 12, 13, 14, 15, 16, 17, 18, 21, 22, 23, 24, 25]), [], [((4, [(1, .ofNat 0, .ofNat 6), (2, .ofNat 1, .ofNat 2), (3, .ofNat 3, .ofNat 5)], [(2949238, .inl (2, .ofNat 0)), (2949323, .inl (3, .ofNat 0))], [], [], [9, 12, 13, 14, 15, 16, 17, 18, 21, 22, 23, 24, 25]), some (.inl (1, .ofNat 0)))])
def jxm_c91_N : jc_Nt := []
set_option maxRecDepth 1000000 in
theorem jxm_c91_ok (hX : jc_Xo jxm X) : jc_Con jP jxm X jxm_c91 := jc_mth_ok (Z := (jxm, [], jT, [jxm_c90], jxm_S0, jxm_c91_N, .ofNat 100000)) (f := 100000) jxm_ok hX jT_ok (jc_c1 (jxm_c90_ok hX) jc_c0) (by decide +kernel)
-- next3
def jxm_c92 : jc_Cn := (204, 3, [.inr (some (some 359)), .inl (0, .ofNat 3)], (3, [(1, .ofNat 4, .ofNat 5), (2, .ofNat 1, .ofNat 2)], [(2949266, .inl (2, .ofNat 0)), (2949323, .inl (1, .ofNat 0))], [], [], [9, 12, 13, 14, 15, 16, 17, 18, 21, 22, 23, 24, 25]), [], [((4, [(1, .ofNat 0, .ofNat 6), (2, .ofNat 1, .ofNat 2), (3, .ofNat 4, .ofNat 5)], [(2949266, .inl (2, .ofNat 0)), (2949323, .inl (3, .ofNat 0))], [], [], [9, 12, 13, 14, 15, 16, 17, 18, 21, 22, 23, 24, 25]), some (.inl (1, .ofNat 0)))])
def jxm_c92_N : jc_Nt := []
set_option maxRecDepth 1000000 in
theorem jxm_c92_ok (hX : jc_Xo jxm X) : jc_Con jP jxm X jxm_c92 := jc_mth_ok (Z := (jxm, [], jT, [], jxm_S0, jxm_c92_N, .ofNat 100000)) (f := 100000) jxm_ok hX jT_ok jc_c0 (by decide +kernel)
-- sectionOf3
def jxm_c93 : jc_Cn := (209, 4, [.inr (some (some 359)), .inl (0, .ofNat 3)], (3, [(1, .ofNat 4, .ofNat 5), (2, .ofNat 1, .ofNat 2)], [(2949266, .inl (2, .ofNat 0)), (2949323, .inl (1, .ofNat 0))], [], [], [9, 12, 13, 14, 15, 16, 17, 18, 21, 22, 23, 24, 25]), [], [((4, [(1, .ofNat 0, .ofNat 6), (2, .ofNat 1, .ofNat 2), (3, .ofNat 4, .ofNat 5)], [(2949266, .inl (2, .ofNat 0)), (2949323, .inl (3, .ofNat 0))], [], [], [9, 12, 13, 14, 15, 16, 17, 18, 21, 22, 23, 24, 25]), some (.inl (1, .ofNat 0)))])
def jxm_c93_N : jc_Nt := []
set_option maxRecDepth 1000000 in
theorem jxm_c93_ok (hX : jc_Xo jxm X) : jc_Con jP jxm X jxm_c93 := jc_mth_ok (Z := (jxm, [], jT, [jxm_c92], jxm_S0, jxm_c93_N, .ofNat 100000)) (f := 100000) jxm_ok hX jT_ok (jc_c1 (jxm_c92_ok hX) jc_c0) (by decide +kernel)
-- next4
def jxm_c94 : jc_Cn := (204, 3, [.inr (some (some 359)), .inl (0, .ofNat 4)], (3, [(1, .ofNat 5, .ofNat 5), (2, .ofNat 1, .ofNat 2)], [(2949294, .inl (2, .ofNat 0)), (2949323, .inl (1, .ofNat 0))], [], [], [9, 12, 13, 14, 15, 16, 17, 18, 21, 22, 23, 24, 25]), [], [((3, [(1, .ofNat 0, .ofNat 6), (2, .ofNat 1, .ofNat 2)], [(2949294, .inl (2, .ofNat 0)), (2949323, .inl (0, .ofNat 5))], [], [], [9, 12, 13, 14, 15, 16, 17, 18, 21, 22, 23, 24, 25]), some (.inl (1, .ofNat 0)))])
def jxm_c94_N : jc_Nt := []
set_option maxRecDepth 1000000 in
theorem jxm_c94_ok (hX : jc_Xo jxm X) : jc_Con jP jxm X jxm_c94 := jc_mth_ok (Z := (jxm, [], jT, [], jxm_S0, jxm_c94_N, .ofNat 100000)) (f := 100000) jxm_ok hX jT_ok jc_c0 (by decide +kernel)
-- sectionOf4
def jxm_c95 : jc_Cn := (209, 4, [.inr (some (some 359)), .inl (0, .ofNat 4)], (3, [(1, .ofNat 5, .ofNat 5), (2, .ofNat 1, .ofNat 2)], [(2949294, .inl (2, .ofNat 0)), (2949323, .inl (1, .ofNat 0))], [], [], [9, 12, 13, 14, 15, 16, 17, 18, 21, 22, 23, 24, 25]), [], [((3, [(1, .ofNat 0, .ofNat 6), (2, .ofNat 1, .ofNat 2)], [(2949294, .inl (2, .ofNat 0)), (2949323, .inl (0, .ofNat 5))], [], [], [9, 12, 13, 14, 15, 16, 17, 18, 21, 22, 23, 24, 25]), some (.inl (1, .ofNat 0)))])
def jxm_c95_N : jc_Nt := []
set_option maxRecDepth 1000000 in
theorem jxm_c95_ok (hX : jc_Xo jxm X) : jc_Con jP jxm X jxm_c95 := jc_mth_ok (Z := (jxm, [], jT, [jxm_c94], jxm_S0, jxm_c95_N, .ofNat 100000)) (f := 100000) jxm_ok hX jT_ok (jc_c1 (jxm_c94_ok hX) jc_c0) (by decide +kernel)
-- freeOnes
def jxm_c96 : jc_Cn := (235, 7, [.inr (some (some 359)), .inl (1, .ofNat 0)], (2, [(1, .ofNat 0, .ofNat 6)], [], [], [], [9, 12, 13, 14, 15, 16, 17, 18, 21, 22, 23, 24, 25]), [(359, 10, 11), (359, 0, 1)], [((2, [(1, .ofNat 0, .ofNat 3)], [], [], [], [9, 12, 13, 14, 15, 16, 17, 18, 21, 22, 23, 24, 25]), some (.inl (1, .ofNat 0)))])
def jxm_c96_N : jc_Nt := [some [none, none, none, none, some ([(4, none, (1, [], [], [], [], [9, 12, 13, 14, 15, 16, 17, 18, 21, 22, 23, 24, 25]), [(0, .inr (some (some 359))), (1, .inl (0, .ofNat 0)), (2, .inl (0, .ofNat 0)), (3, .inl (0, .ofNat 0))]),
    (4, none, (1, [], [], [], [], [9, 12, 13, 14, 15, 16, 17, 18, 21, 22, 23, 24, 25]), [(0, .inr (some (some 359))), (1, .inl (0, .ofNat 1)), (2, .inl (0, .ofNat 0)), (3, .inl (0, .ofNat 0))]),
    (4, none, (1, [], [], [], [], [9, 12, 13, 14, 15, 16, 17, 18, 21, 22, 23, 24, 25]), [(0, .inr (some (some 359))), (1, .inl (0, .ofNat 2)), (2, .inl (0, .ofNat 0)), (3, .inl (0, .ofNat 0))]),
    (4, none, (1, [], [], [], [], [9, 12, 13, 14, 15, 16, 17, 18, 21, 22, 23, 24, 25]), [(0, .inr (some (some 359))), (1, .inl (0, .ofNat 3)), (2, .inl (0, .ofNat 0)), (3, .inl (0, .ofNat 0))]),
    (4, none, (1, [], [], [], [], [9, 12, 13, 14, 15, 16, 17, 18, 21, 22, 23, 24, 25]), [(0, .inr (some (some 359))), (1, .inl (0, .ofNat 4)), (2, .inl (0, .ofNat 0)), (3, .inl (0, .ofNat 0))]),
    (4, none, (1, [], [], [], [], [9, 12, 13, 14, 15, 16, 17, 18, 21, 22, 23, 24, 25]), [(0, .inr (some (some 359))), (1, .inl (0, .ofNat 5)), (2, .inl (0, .ofNat 0)), (3, .inl (0, .ofNat 0))]),
    (4, none, (1, [], [], [], [], [9, 12, 13, 14, 15, 16, 17, 18, 21, 22, 23, 24, 25]), [(0, .inr (some (some 359))), (1, .inl (0, .ofNat 6)), (2, .inl (0, .ofNat 0)), (3, .inl (0, .ofNat 0))]),
    (3, none, (2, [(1, .ofNat 0, .ofNat 1)], [], [], [], [9, 12, 13, 14, 15, 16, 17, 18, 21, 22, 23, 24, 25]), [(0, .inr (some (some 359))), (1, .inl (0, .ofNat 0)), (2, .inl (1, .ofNat 0)), (3, .inl (0, .ofNat 1))]),
    (3, none, (2, [(1, .ofNat 0, .ofNat 1)], [], [], [], [9, 12, 13, 14, 15, 16, 17, 18, 21, 22, 23, 24, 25]), [(0, .inr (some (some 359))), (1, .inl (0, .ofNat 1)), (2, .inl (1, .ofNat 0)), (3, .inl (0, .ofNat 1))]),
    (3, none, (2, [(1, .ofNat 0, .ofNat 1)], [], [], [], [9, 12, 13, 14, 15, 16, 17, 18, 21, 22, 23, 24, 25]), [(0, .inr (some (some 359))), (1, .inl (0, .ofNat 2)), (2, .inl (1, .ofNat 0)), (3, .inl (0, .ofNat 1))]),
    (3, none, (2, [(1, .ofNat 0, .ofNat 1)], [], [], [], [9, 12, 13, 14, 15, 16, 17, 18, 21, 22, 23, 24, 25]), [(0, .inr (some (some 359))), (1, .inl (0, .ofNat 3)), (2, .inl (1, .ofNat 0)), (3, .inl (0, .ofNat 1))]),
    (3, none, (2, [(1, .ofNat 0, .ofNat 1)], [], [], [], [9, 12, 13, 14, 15, 16, 17, 18, 21, 22, 23, 24, 25]), [(0, .inr (some (some 359))), (1, .inl (0, .ofNat 4)), (2, .inl (1, .ofNat 0)), (3, .inl (0, .ofNat 1))]),
    (3, none, (2, [(1, .ofNat 0, .ofNat 1)], [], [], [], [9, 12, 13, 14, 15, 16, 17, 18, 21, 22, 23, 24, 25]), [(0, .inr (some (some 359))), (1, .inl (0, .ofNat 5)), (2, .inl (1, .ofNat 0)), (3, .inl (0, .ofNat 1))]),
    (3, none, (2, [(1, .ofNat 0, .ofNat 1)], [], [], [], [9, 12, 13, 14, 15, 16, 17, 18, 21, 22, 23, 24, 25]), [(0, .inr (some (some 359))), (1, .inl (0, .ofNat 6)), (2, .inl (1, .ofNat 0)), (3, .inl (0, .ofNat 1))]),
    (2, none, (2, [(1, .ofNat 0, .ofNat 2)], [], [], [], [9, 12, 13, 14, 15, 16, 17, 18, 21, 22, 23, 24, 25]), [(0, .inr (some (some 359))), (1, .inl (0, .ofNat 0)), (2, .inl (1, .ofNat 0)), (3, .inl (0, .ofNat 2))]),
    (2, none, (2, [(1, .ofNat 0, .ofNat 2)], [], [], [], [9, 12, 13, 14, 15, 16, 17, 18, 21, 22, 23, 24, 25]), [(0, .inr (some (some 359))), (1, .inl (0, .ofNat 1)), (2, .inl (1, .ofNat 0)), (3, .inl (0, .ofNat 2))]),
    (2, none, (2, [(1, .ofNat 0, .ofNat 2)], [], [], [], [9, 12, 13, 14, 15, 16, 17, 18, 21, 22, 23, 24, 25]), [(0, .inr (some (some 359))), (1, .inl (0, .ofNat 2)), (2, .inl (1, .ofNat 0)), (3, .inl (0, .ofNat 2))]),
    (2, none, (2, [(1, .ofNat 0, .ofNat 2)], [], [], [], [9, 12, 13, 14, 15, 16, 17, 18, 21, 22, 23, 24, 25]), [(0, .inr (some (some 359))), (1, .inl (0, .ofNat 3)), (2, .inl (1, .ofNat 0)), (3, .inl (0, .ofNat 2))]),
    (2, none, (2, [(1, .ofNat 0, .ofNat 2)], [], [], [], [9, 12, 13, 14, 15, 16, 17, 18, 21, 22, 23, 24, 25]), [(0, .inr (some (some 359))), (1, .inl (0, .ofNat 4)), (2, .inl (1, .ofNat 0)), (3, .inl (0, .ofNat 2))]),
    (2, none, (2, [(1, .ofNat 0, .ofNat 2)], [], [], [], [9, 12, 13, 14, 15, 16, 17, 18, 21, 22, 23, 24, 25]), [(0, .inr (some (some 359))), (1, .inl (0, .ofNat 5)), (2, .inl (1, .ofNat 0)), (3, .inl (0, .ofNat 2))]),
    (2, none, (2, [(1, .ofNat 0, .ofNat 2)], [], [], [], [9, 12, 13, 14, 15, 16, 17, 18, 21, 22, 23, 24, 25]), [(0, .inr (some (some 359))), (1, .inl (0, .ofNat 6)), (2, .inl (1, .ofNat 0)), (3, .inl (0, .ofNat 2))]),
    (1, none, (2, [(1, .ofNat 0, .ofNat 3)], [], [], [], [9, 12, 13, 14, 15, 16, 17, 18, 21, 22, 23, 24, 25]), [(0, .inr (some (some 359))), (1, .inl (0, .ofNat 0)), (2, .inl (1, .ofNat 0)), (3, .inl (0, .ofNat 3))]),
    (1, none, (2, [(1, .ofNat 0, .ofNat 3)], [], [], [], [9, 12, 13, 14, 15, 16, 17, 18, 21, 22, 23, 24, 25]), [(0, .inr (some (some 359))), (1, .inl (0, .ofNat 1)), (2, .inl (1, .ofNat 0)), (3, .inl (0, .ofNat 3))]),
    (1, none, (2, [(1, .ofNat 0, .ofNat 3)], [], [], [], [9, 12, 13, 14, 15, 16, 17, 18, 21, 22, 23, 24, 25]), [(0, .inr (some (some 359))), (1, .inl (0, .ofNat 2)), (2, .inl (1, .ofNat 0)), (3, .inl (0, .ofNat 3))]),
    (1, none, (2, [(1, .ofNat 0, .ofNat 3)], [], [], [], [9, 12, 13, 14, 15, 16, 17, 18, 21, 22, 23, 24, 25]), [(0, .inr (some (some 359))), (1, .inl (0, .ofNat 3)), (2, .inl (1, .ofNat 0)), (3, .inl (0, .ofNat 3))]),
    (1, none, (2, [(1, .ofNat 0, .ofNat 3)], [], [], [], [9, 12, 13, 14, 15, 16, 17, 18, 21, 22, 23, 24, 25]), [(0, .inr (some (some 359))), (1, .inl (0, .ofNat 4)), (2, .inl (1, .ofNat 0)), (3, .inl (0, .ofNat 3))]),
    (1, none, (2, [(1, .ofNat 0, .ofNat 3)], [], [], [], [9, 12, 13, 14, 15, 16, 17, 18, 21, 22, 23, 24, 25]), [(0, .inr (some (some 359))), (1, .inl (0, .ofNat 5)), (2, .inl (1, .ofNat 0)), (3, .inl (0, .ofNat 3))]),
    (1, none, (2, [(1, .ofNat 0, .ofNat 3)], [], [], [], [9, 12, 13, 14, 15, 16, 17, 18, 21, 22, 23, 24, 25]), [(0, .inr (some (some 359))), (1, .inl (0, .ofNat 6)), (2, .inl (1, .ofNat 0)), (3, .inl (0, .ofNat 3))])]), none, none, none, none, none, none, none, none, none, none, none]]
set_option maxRecDepth 1000000 in
theorem jxm_c96_ok (hX : jc_Xo jxm X) : jc_Con jP jxm X jxm_c96 := jc_mth_ok (Z := (jxm, [], jT, [jxm_c7], jxm_S0, jxm_c96_N, .ofNat 100000)) (f := 100000) jxm_ok hX jT_ok (jc_c1 (jxm_c7_ok hX) jc_c0) (by decide +kernel)
-- doesFit
def jxm_c97 : jc_Cn := (241, 2, [.inr (some (some 359)), .inl (1, .ofNat 0), .inl (2, .ofNat 0)], (3, [(1, .ofNat 0, .ofNat 4), (2, .ofNat 0, .ofNat 6)], [], [], [], [9, 12, 13, 14, 15, 16, 17, 18, 21, 22, 23, 24, 25]), [], [((2, [(1, .ofNat 0, .ofNat 1)], [], [], [], [9, 12, 13, 14, 15, 16, 17, 18, 21, 22, 23, 24, 25]), some (.inl (1, .ofNat 0)))])
def jxm_c97_N : jc_Nt := [some [none, none, some ([(4, none, (2, [(1, .ofNat 0, .ofNat 4)], [], [], [], [9, 12, 13, 14, 15, 16, 17, 18, 21, 22, 23, 24, 25]), [(0, .inr (some (some 359))), (1, .inl (1, .ofNat 0)), (2, .inl (0, .ofNat 0)), (3, .inl (0, .ofNat 0))]),
    (4, none, (2, [(1, .ofNat 0, .ofNat 4)], [], [], [], [9, 12, 13, 14, 15, 16, 17, 18, 21, 22, 23, 24, 25]), [(0, .inr (some (some 359))), (1, .inl (1, .ofNat 0)), (2, .inl (0, .ofNat 1)), (3, .inl (0, .ofNat 0))]),
    (4, none, (2, [(1, .ofNat 0, .ofNat 4)], [], [], [], [9, 12, 13, 14, 15, 16, 17, 18, 21, 22, 23, 24, 25]), [(0, .inr (some (some 359))), (1, .inl (1, .ofNat 0)), (2, .inl (0, .ofNat 2)), (3, .inl (0, .ofNat 0))]),
    (4, none, (2, [(1, .ofNat 0, .ofNat 4)], [], [], [], [9, 12, 13, 14, 15, 16, 17, 18, 21, 22, 23, 24, 25]), [(0, .inr (some (some 359))), (1, .inl (1, .ofNat 0)), (2, .inl (0, .ofNat 3)), (3, .inl (0, .ofNat 0))]),
    (4, none, (2, [(1, .ofNat 0, .ofNat 4)], [], [], [], [9, 12, 13, 14, 15, 16, 17, 18, 21, 22, 23, 24, 25]), [(0, .inr (some (some 359))), (1, .inl (1, .ofNat 0)), (2, .inl (0, .ofNat 4)), (3, .inl (0, .ofNat 0))]),
    (4, none, (2, [(1, .ofNat 0, .ofNat 4)], [], [], [], [9, 12, 13, 14, 15, 16, 17, 18, 21, 22, 23, 24, 25]), [(0, .inr (some (some 359))), (1, .inl (1, .ofNat 0)), (2, .inl (0, .ofNat 5)), (3, .inl (0, .ofNat 0))]),
    (4, none, (2, [(1, .ofNat 0, .ofNat 4)], [], [], [], [9, 12, 13, 14, 15, 16, 17, 18, 21, 22, 23, 24, 25]), [(0, .inr (some (some 359))), (1, .inl (1, .ofNat 0)), (2, .inl (0, .ofNat 6)), (3, .inl (0, .ofNat 0))]),
    (3, none, (2, [(1, .ofNat 0, .ofNat 4)], [], [], [], [9, 12, 13, 14, 15, 16, 17, 18, 21, 22, 23, 24, 25]), [(0, .inr (some (some 359))), (1, .inl (1, .ofNat 0)), (2, .inl (0, .ofNat 0)), (3, .inl (0, .ofNat 1))]),
    (3, none, (2, [(1, .ofNat 0, .ofNat 4)], [], [], [], [9, 12, 13, 14, 15, 16, 17, 18, 21, 22, 23, 24, 25]), [(0, .inr (some (some 359))), (1, .inl (1, .ofNat 0)), (2, .inl (0, .ofNat 1)), (3, .inl (0, .ofNat 1))]),
    (3, none, (2, [(1, .ofNat 0, .ofNat 4)], [], [], [], [9, 12, 13, 14, 15, 16, 17, 18, 21, 22, 23, 24, 25]), [(0, .inr (some (some 359))), (1, .inl (1, .ofNat 0)), (2, .inl (0, .ofNat 2)), (3, .inl (0, .ofNat 1))]),
    (3, none, (2, [(1, .ofNat 0, .ofNat 4)], [], [], [], [9, 12, 13, 14, 15, 16, 17, 18, 21, 22, 23, 24, 25]), [(0, .inr (some (some 359))), (1, .inl (1, .ofNat 0)), (2, .inl (0, .ofNat 3)), (3, .inl (0, .ofNat 1))]),
    (3, none, (2, [(1, .ofNat 0, .ofNat 4)], [], [], [], [9, 12, 13, 14, 15, 16, 17, 18, 21, 22, 23, 24, 25]), [(0, .inr (some (some 359))), (1, .inl (1, .ofNat 0)), (2, .inl (0, .ofNat 4)), (3, .inl (0, .ofNat 1))]),
    (3, none, (2, [(1, .ofNat 0, .ofNat 4)], [], [], [], [9, 12, 13, 14, 15, 16, 17, 18, 21, 22, 23, 24, 25]), [(0, .inr (some (some 359))), (1, .inl (1, .ofNat 0)), (2, .inl (0, .ofNat 5)), (3, .inl (0, .ofNat 1))]),
    (3, none, (2, [(1, .ofNat 0, .ofNat 4)], [], [], [], [9, 12, 13, 14, 15, 16, 17, 18, 21, 22, 23, 24, 25]), [(0, .inr (some (some 359))), (1, .inl (1, .ofNat 0)), (2, .inl (0, .ofNat 6)), (3, .inl (0, .ofNat 1))]),
    (2, none, (2, [(1, .ofNat 0, .ofNat 4)], [], [], [], [9, 12, 13, 14, 15, 16, 17, 18, 21, 22, 23, 24, 25]), [(0, .inr (some (some 359))), (1, .inl (1, .ofNat 0)), (2, .inl (0, .ofNat 0)), (3, .inl (0, .ofNat 2))]),
    (2, none, (2, [(1, .ofNat 0, .ofNat 4)], [], [], [], [9, 12, 13, 14, 15, 16, 17, 18, 21, 22, 23, 24, 25]), [(0, .inr (some (some 359))), (1, .inl (1, .ofNat 0)), (2, .inl (0, .ofNat 1)), (3, .inl (0, .ofNat 2))]),
    (2, none, (2, [(1, .ofNat 0, .ofNat 4)], [], [], [], [9, 12, 13, 14, 15, 16, 17, 18, 21, 22, 23, 24, 25]), [(0, .inr (some (some 359))), (1, .inl (1, .ofNat 0)), (2, .inl (0, .ofNat 2)), (3, .inl (0, .ofNat 2))]),
    (2, none, (2, [(1, .ofNat 0, .ofNat 4)], [], [], [], [9, 12, 13, 14, 15, 16, 17, 18, 21, 22, 23, 24, 25]), [(0, .inr (some (some 359))), (1, .inl (1, .ofNat 0)), (2, .inl (0, .ofNat 3)), (3, .inl (0, .ofNat 2))]),
    (2, none, (2, [(1, .ofNat 0, .ofNat 4)], [], [], [], [9, 12, 13, 14, 15, 16, 17, 18, 21, 22, 23, 24, 25]), [(0, .inr (some (some 359))), (1, .inl (1, .ofNat 0)), (2, .inl (0, .ofNat 4)), (3, .inl (0, .ofNat 2))]),
    (2, none, (2, [(1, .ofNat 0, .ofNat 4)], [], [], [], [9, 12, 13, 14, 15, 16, 17, 18, 21, 22, 23, 24, 25]), [(0, .inr (some (some 359))), (1, .inl (1, .ofNat 0)), (2, .inl (0, .ofNat 5)), (3, .inl (0, .ofNat 2))]),
    (2, none, (2, [(1, .ofNat 0, .ofNat 4)], [], [], [], [9, 12, 13, 14, 15, 16, 17, 18, 21, 22, 23, 24, 25]), [(0, .inr (some (some 359))), (1, .inl (1, .ofNat 0)), (2, .inl (0, .ofNat 6)), (3, .inl (0, .ofNat 2))]),
    (1, none, (2, [(1, .ofNat 0, .ofNat 4)], [], [], [], [9, 12, 13, 14, 15, 16, 17, 18, 21, 22, 23, 24, 25]), [(0, .inr (some (some 359))), (1, .inl (1, .ofNat 0)), (2, .inl (0, .ofNat 0)), (3, .inl (0, .ofNat 3))]),
    (1, none, (2, [(1, .ofNat 0, .ofNat 4)], [], [], [], [9, 12, 13, 14, 15, 16, 17, 18, 21, 22, 23, 24, 25]), [(0, .inr (some (some 359))), (1, .inl (1, .ofNat 0)), (2, .inl (0, .ofNat 1)), (3, .inl (0, .ofNat 3))]),
    (1, none, (2, [(1, .ofNat 0, .ofNat 4)], [], [], [], [9, 12, 13, 14, 15, 16, 17, 18, 21, 22, 23, 24, 25]), [(0, .inr (some (some 359))), (1, .inl (1, .ofNat 0)), (2, .inl (0, .ofNat 2)), (3, .inl (0, .ofNat 3))]),
    (1, none, (2, [(1, .ofNat 0, .ofNat 4)], [], [], [], [9, 12, 13, 14, 15, 16, 17, 18, 21, 22, 23, 24, 25]), [(0, .inr (some (some 359))), (1, .inl (1, .ofNat 0)), (2, .inl (0, .ofNat 3)), (3, .inl (0, .ofNat 3))]),
    (1, none, (2, [(1, .ofNat 0, .ofNat 4)], [], [], [], [9, 12, 13, 14, 15, 16, 17, 18, 21, 22, 23, 24, 25]), [(0, .inr (some (some 359))), (1, .inl (1, .ofNat 0)), (2, .inl (0, .ofNat 4)), (3, .inl (0, .ofNat 3))]),
    (1, none, (2, [(1, .ofNat 0, .ofNat 4)], [], [], [], [9, 12, 13, 14, 15, 16, 17, 18, 21, 22, 23, 24, 25]), [(0, .inr (some (some 359))), (1, .inl (1, .ofNat 0)), (2, .inl (0, .ofNat 5)), (3, .inl (0, .ofNat 3))]),
    (1, none, (2, [(1, .ofNat 0, .ofNat 4)], [], [], [], [9, 12, 13, 14, 15, 16, 17, 18, 21, 22, 23, 24, 25]), [(0, .inr (some (some 359))), (1, .inl (1, .ofNat 0)), (2, .inl (0, .ofNat 6)), (3, .inl (0, .ofNat 3))])]), none, none, none, none, none, none, none, none, none, none, none, none, none]]
set_option maxRecDepth 1000000 in
theorem jxm_c97_ok (hX : jc_Xo jxm X) : jc_Con jP jxm X jxm_c97 := jc_mth_ok (Z := (jxm, [], jT, [], jxm_S0, jxm_c97_N, .ofNat 100000)) (f := 100000) jxm_ok hX jT_ok jc_c0 (by decide +kernel)
-- waitsFor0
def jxm_c98 : jc_Cn := (244, 9, [.inr (some (some 359)), .inl (0, .ofNat 0)], (2, [(1, .ofNat 1, .ofNat 5)], [(2949323, .inl (1, .ofNat 0))], [], [], [9, 12, 13, 14, 15, 16, 17, 18, 21, 22, 23, 24, 25]), [], [((2, [(1, .ofNat 1, .ofNat 5)], [(2949323, .inl (1, .ofNat 0))], [], [], [9, 12, 13, 14, 15, 16, 17, 18, 21, 22, 23, 24, 25]), some (.inl (0, .ofNat 0))), ((3, [(1, .negSucc 2147483647, .ofNat 2147483647), (2, .ofNat 1, .ofNat 5)], [(2949323, .inl (2, .ofNat 0))], [], [], [9, 12, 13, 14, 15, 16, 17, 18, 21, 22, 23, 24, 25]), some (.inl (1, .ofNat 0)))])
def jxm_c98_N : jc_Nt := [none,
  none,
  some [none, none, none, none, none, none, none, none, none, none, none, none, none, some ([(6, none, (3, [(1, .ofNat 0, .ofNat 6), (2, .ofNat 1, .ofNat 5)], [(2949182, .inl (0, .ofNat 1)), (2949183, .inl (1, .ofNat 0)), (2949323, .inl (2, .ofNat 0))], [], [], [9, 12, 13, 14, 15, 16, 17, 18, 21, 22, 23, 24, 25]), [(0, .inr (some (some 359))), (1, .inl (0, .ofNat 0)), (2, .inl (0, .negSucc 0)), (3, .inl (0, .ofNat 0)), (4, .inl (0, .ofNat 0))]),
    (5, none, (4, [(1, .ofNat 0, .ofNat 1), (2, .ofNat 0, .ofNat 6), (3, .ofNat 1, .ofNat 5)], [(2949182, .inl (0, .ofNat 1)), (2949183, .inl (2, .ofNat 0)), (2949323, .inl (3, .ofNat 0))], [], [], [9, 12, 13, 14, 15, 16, 17, 18, 21, 22, 23, 24, 25]), [(0, .inr (some (some 359))), (1, .inl (0, .ofNat 0)), (2, .inl (0, .negSucc 0)), (3, .inl (1, .ofNat 0)), (4, .inl (0, .ofNat 1))]),
    (4, none, (4, [(1, .ofNat 0, .ofNat 127), (2, .ofNat 0, .ofNat 6), (3, .ofNat 2, .ofNat 5)], [(2949182, .inl (0, .ofNat 1)), (2949183, .inl (2, .ofNat 0)), (2949323, .inl (3, .ofNat 0))], [], [], [9, 12, 13, 14, 15, 16, 17, 18, 21, 22, 23, 24, 25]), [(0, .inr (some (some 359))), (1, .inl (0, .ofNat 0)), (2, .inl (0, .negSucc 0)), (3, .inl (1, .ofNat 0)), (4, .inl (0, .ofNat 2))]),
    (3, none, (4, [(1, .ofNat 0, .ofNat 127), (2, .ofNat 0, .ofNat 6), (3, .ofNat 3, .ofNat 5)], [(2949182, .inl (0, .ofNat 1)), (2949183, .inl (2, .ofNat 0)), (2949323, .inl (3, .ofNat 0))], [], [], [9, 12, 13, 14, 15, 16, 17, 18, 21, 22, 23, 24, 25]), [(0, .inr (some (some 359))), (1, .inl (0, .ofNat 0)), (2, .inl (0, .negSucc 0)), (3, .inl (1, .ofNat 0)), (4, .inl (0, .ofNat 3))]),
    (2, none, (4, [(1, .ofNat 0, .ofNat 127), (2, .ofNat 0, .ofNat 6), (3, .ofNat 4, .ofNat 5)], [(2949182, .inl (0, .ofNat 1)), (2949183, .inl (2, .ofNat 0)), (2949323, .inl (3, .ofNat 0))], [], [], [9, 12, 13, 14, 15, 16, 17, 18, 21, 22, 23, 24, 25]), [(0, .inr (some (some 359))), (1, .inl (0, .ofNat 0)), (2, .inl (0, .negSucc 0)), (3, .inl (1, .ofNat 0)), (4, .inl (0, .ofNat 4))]),
    (1, none, (3, [(1, .ofNat 0, .ofNat 127), (2, .ofNat 0, .ofNat 6)], [(2949182, .inl (0, .ofNat 1)), (2949183, .inl (2, .ofNat 0)), (2949323, .inl (0, .ofNat 5))], [], [], [9, 12, 13, 14, 15, 16, 17, 18, 21, 22, 23, 24, 25]), [(0, .inr (some (some 359))), (1, .inl (0, .ofNat 0)), (2, .inl (0, .negSucc 0)), (3, .inl (1, .ofNat 0)), (4, .inl (0, .ofNat 5))])]), none, none]]
set_option maxRecDepth 1000000 in
theorem jxm_c98_ok (hX : jc_Xo jxm X) : jc_Con jP jxm X jxm_c98 := jc_mth_ok (Z := (jxm, [], jT, [jxm_c86, jxm_c1, jxm_c2, jxm_c3, jxm_c4, jxm_c5, jxm_c87, jxm_c9, jxm_c17], jxm_S0, jxm_c98_N, .ofNat 100000)) (f := 100000) jxm_ok hX jT_ok (jc_c1 (jxm_c86_ok hX) (jc_c1 (jxm_c1_ok hX) (jc_c1 (jxm_c2_ok hX) (jc_c1 (jxm_c3_ok hX) (jc_c1 (jxm_c4_ok hX) (jc_c1 (jxm_c5_ok hX) (jc_c1 (jxm_c87_ok hX) (jc_c1 (jxm_c9_ok hX) (jc_c1 (jxm_c17_ok hX) jc_c0))))))))) (by decide +kernel)
-- waitsFor1
def jxm_c99 : jc_Cn := (244, 9, [.inr (some (some 359)), .inl (0, .ofNat 1)], (2, [(1, .ofNat 2, .ofNat 5)], [(2949323, .inl (1, .ofNat 0))], [], [], [9, 12, 13, 14, 15, 16, 17, 18, 21, 22, 23, 24, 25]), [], [((2, [(1, .ofNat 2, .ofNat 5)], [(2949323, .inl (1, .ofNat 0))], [], [], [9, 12, 13, 14, 15, 16, 17, 18, 21, 22, 23, 24, 25]), some (.inl (0, .ofNat 0))), ((3, [(1, .negSucc 2147483647, .ofNat 2147483647), (2, .ofNat 2, .ofNat 5)], [(2949323, .inl (2, .ofNat 0))], [], [], [9, 12, 13, 14, 15, 16, 17, 18, 21, 22, 23, 24, 25]), some (.inl (1, .ofNat 0)))])
def jxm_c99_N : jc_Nt := [none,
  none,
  some [none, none, none, none, none, none, none, none, none, none, none, none, none, some ([(6, none, (3, [(1, .ofNat 0, .ofNat 6), (2, .ofNat 2, .ofNat 5)], [(2949210, .inl (0, .ofNat 1)), (2949211, .inl (1, .ofNat 0)), (2949323, .inl (2, .ofNat 0))], [], [], [9, 12, 13, 14, 15, 16, 17, 18, 21, 22, 23, 24, 25]), [(0, .inr (some (some 359))), (1, .inl (0, .ofNat 1)), (2, .inl (0, .negSucc 0)), (3, .inl (0, .ofNat 0)), (4, .inl (0, .ofNat 0))]),
    (5, none, (4, [(1, .ofNat 0, .ofNat 1), (2, .ofNat 0, .ofNat 6), (3, .ofNat 2, .ofNat 5)], [(2949210, .inl (0, .ofNat 1)), (2949211, .inl (2, .ofNat 0)), (2949323, .inl (3, .ofNat 0))], [], [], [9, 12, 13, 14, 15, 16, 17, 18, 21, 22, 23, 24, 25]), [(0, .inr (some (some 359))), (1, .inl (0, .ofNat 1)), (2, .inl (0, .negSucc 0)), (3, .inl (1, .ofNat 0)), (4, .inl (0, .ofNat 1))]),
    (4, none, (4, [(1, .ofNat 0, .ofNat 127), (2, .ofNat 0, .ofNat 6), (3, .ofNat 2, .ofNat 5)], [(2949210, .inl (0, .ofNat 1)), (2949211, .inl (2, .ofNat 0)), (2949323, .inl (3, .ofNat 0))], [], [], [9, 12, 13, 14, 15, 16, 17, 18, 21, 22, 23, 24, 25]), [(0, .inr (some (some 359))), (1, .inl (0, .ofNat 1)), (2, .inl (0, .negSucc 0)), (3, .inl (1, .ofNat 0)), (4, .inl (0, .ofNat 2))]),
    (3, none, (4, [(1, .ofNat 0, .ofNat 127), (2, .ofNat 0, .ofNat 6), (3, .ofNat 3, .ofNat 5)], [(2949210, .inl (0, .ofNat 1)), (2949211, .inl (2, .ofNat 0)), (2949323, .inl (3, .ofNat 0))], [], [], [9, 12, 13, 14, 15, 16, 17, 18, 21, 22, 23, 24, 25]), [(0, .inr (some (some 359))), (1, .inl (0, .ofNat 1)), (2, .inl (0, .negSucc 0)), (3, .inl (1, .ofNat 0)), (4, .inl (0, .ofNat 3))]),
    (2, none, (4, [(1, .ofNat 0, .ofNat 127), (2, .ofNat 0, .ofNat 6), (3, .ofNat 4, .ofNat 5)], [(2949210, .inl (0, .ofNat 1)), (2949211, .inl (2, .ofNat 0)), (2949323, .inl (3, .ofNat 0))], [], [], [9, 12, 13, 14, 15, 16, 17, 18, 21, 22, 23, 24, 25]), [(0, .inr (some (some 359))), (1, .inl (0, .ofNat 1)), (2, .inl (0, .negSucc 0)), (3, .inl (1, .ofNat 0)), (4, .inl (0, .ofNat 4))]),
    (1, none, (3, [(1, .ofNat 0, .ofNat 127), (2, .ofNat 0, .ofNat 6)], [(2949210, .inl (0, .ofNat 1)), (2949211, .inl (2, .ofNat 0)), (2949323, .inl (0, .ofNat 5))], [], [], [9, 12, 13, 14, 15, 16, 17, 18, 21, 22, 23, 24, 25]), [(0, .inr (some (some 359))), (1, .inl (0, .ofNat 1)), (2, .inl (0, .negSucc 0)), (3, .inl (1, .ofNat 0)), (4, .inl (0, .ofNat 5))])]), none, none]]
set_option maxRecDepth 1000000 in
theorem jxm_c99_ok (hX : jc_Xo jxm X) : jc_Con jP jxm X jxm_c99 := jc_mth_ok (Z := (jxm, [], jT, [jxm_c88, jxm_c1, jxm_c2, jxm_c3, jxm_c4, jxm_c5, jxm_c89, jxm_c9, jxm_c18], jxm_S0, jxm_c99_N, .ofNat 100000)) (f := 100000) jxm_ok hX jT_ok (jc_c1 (jxm_c88_ok hX) (jc_c1 (jxm_c1_ok hX) (jc_c1 (jxm_c2_ok hX) (jc_c1 (jxm_c3_ok hX) (jc_c1 (jxm_c4_ok hX) (jc_c1 (jxm_c5_ok hX) (jc_c1 (jxm_c89_ok hX) (jc_c1 (jxm_c9_ok hX) (jc_c1 (jxm_c18_ok hX) jc_c0))))))))) (by decide +kernel)
end Jjxm23

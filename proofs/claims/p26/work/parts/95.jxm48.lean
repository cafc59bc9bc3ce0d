/-! contracts of the reference (48); written by wip/jc/e5.py -/
section Jjxm48
variable {X : J_H → Prop}
set_option maxRecDepth 1000000 in
theorem jxm_c203_k51_0 : jc_ndc jxm_c203_Z 100000 jxm_c203 51 jxm_c203_n51_0 = true := by decide +kernel
set_option maxRecDepth 1000000 in
theorem jxm_c203_k51_1 : jc_ndc jxm_c203_Z 100000 jxm_c203 51 jxm_c203_n51_1 = true := by decide +kernel
set_option maxRecDepth 1000000 in
theorem jxm_c203_s : jc_mtg jxm_c203_Z 100000 jxm_c203 = true := by decide +kernel
theorem jxm_c203_h : ∀ pc ns, ja_n2 jxm_c203_N pc = some ns → jc_ndc jxm_c203_Z 100000 jxm_c203 pc ns = true := by
  intro pc ns h
  have hp := jc_inl_ok (ja_ch2_ok (p := fun i (_ : List jc_Nd) => jc_inl i [51]) (L := jxm_c203_N) (by decide +kernel) h)
  simp only [List.mem_cons, List.not_mem_nil, or_false] at hp
  subst hp
  · exact (Option.some.inj (h.symm.trans (show ja_n2 jxm_c203_N 51 = some (jxm_c203_n51_0 ++ jxm_c203_n51_1) from rfl))) ▸ (jc_ndc_app jxm_c203_k51_0 jxm_c203_k51_1)
theorem jxm_c203_ok (hX : jc_Xo jxm X) : jc_Con jP jxm X jxm_c203 := jc_mthc_ok (Z := jxm_c203_Z) (f := 100000) jxm_ok hX jT_ok jc_c0 jxm_c203_s jxm_c203_h
-- hold
def jxm_c204 : jc_Cn := (284, 2, [.inr (some (some 359)), .inl (1, .ofNat 0), .inl (2, .ofNat 0)], (3, [(1, .negSucc 2147483647, .ofNat 2147483647), (2, .negSucc 2147483647, .ofNat 2147483647)], [], [], [], [9, 12, 13, 14, 15, 16, 17, 18, 21, 22, 23, 24, 25]), [(359, 10, 11), (359, 0, 1), (360, 0, 602), (363, 0, 602), (362, 0, 602), (368, 0, 5), (359, 23, 24), (364, 0, 6020), (359, 13, 14)], [((2, [(1, .negSucc 2147483647, .ofNat 2147483647)], [], [], [], [9, 12, 13, 14, 15, 16, 17, 18, 21, 22, 23, 24, 25]), some (.inl (1, .ofNat 0)))])
def jxm_c204_N : jc_Nt := []
set_option maxRecDepth 1000000 in
theorem jxm_c204_ok (hX : jc_Xo jxm X) (hg44 : jc_Con jP jxm X jxm_g44) : jc_Con jP jxm X jxm_c204 := jc_mth_ok (Z := (jxm, [], jT, [jxm_g44], jxm_S0, jxm_c204_N, .ofNat 100000)) (f := 100000) jxm_ok hX jT_ok (jc_c1 hg44 jc_c0) (by decide +kernel)
-- start
def jxm_c205 : jc_Cn := (287, 2, [.inr (some (some 359)), .inl (1, .ofNat 0), .inl (2, .ofNat 0)], (3, [(1, .negSucc 2147483647, .ofNat 2147483647), (2, .negSucc 2147483647, .ofNat 2147483647)], [], [], [], [9, 12, 13, 14, 15, 16, 17, 18, 21, 22, 23, 24, 25]), [(359, 10, 11), (359, 0, 1), (360, 0, 602), (363, 0, 602), (362, 0, 602), (368, 0, 5), (359, 23, 24), (364, 0, 6020), (359, 13, 14)], [((2, [(1, .negSucc 2147483647, .ofNat 2147483647)], [], [], [], [9, 12, 13, 14, 15, 16, 17, 18, 21, 22, 23, 24, 25]), some (.inl (1, .ofNat 0)))])
def jxm_c205_N : jc_Nt := []
set_option maxRecDepth 1000000 in
theorem jxm_c205_ok (hX : jc_Xo jxm X) (hg44 : jc_Con jP jxm X jxm_g44) : jc_Con jP jxm X jxm_c205 := jc_mth_ok (Z := (jxm, [], jT, [jxm_g44], jxm_S0, jxm_c205_N, .ofNat 100000)) (f := 100000) jxm_ok hX jT_ok (jc_c1 hg44 jc_c0) (by decide +kernel)
-- stall
def jxm_c206 : jc_Cn := (288, 2, [.inr (some (some 359)), .inl (1, .ofNat 0), .inl (2, .ofNat 0)], (3, [(1, .negSucc 2147483647, .ofNat 2147483647), (2, .negSucc 2147483647, .ofNat 2147483647)], [], [], [], [9, 12, 13, 14, 15, 16, 17, 18, 21, 22, 23, 24, 25]), [(359, 10, 11), (359, 0, 1), (360, 0, 602), (363, 0, 602), (362, 0, 602), (368, 0, 5), (359, 23, 24), (364, 0, 6020), (359, 13, 14)], [((2, [(1, .negSucc 2147483647, .ofNat 2147483647)], [], [], [], [9, 12, 13, 14, 15, 16, 17, 18, 21, 22, 23, 24, 25]), some (.inl (1, .ofNat 0)))])
def jxm_c206_N : jc_Nt := []
set_option maxRecDepth 1000000 in
theorem jxm_c206_ok (hX : jc_Xo jxm X) (hg44 : jc_Con jP jxm X jxm_g44) : jc_Con jP jxm X jxm_c206 := jc_mth_ok (Z := (jxm, [], jT, [jxm_g44], jxm_S0, jxm_c206_N, .ofNat 100000)) (f := 100000) jxm_ok hX jT_ok (jc_c1 hg44 jc_c0) (by decide +kernel)
-- shut
def jxm_c207 : jc_Cn := (285, 8, [.inr (some (some 359)), .inl (1, .ofNat 0), .inl (2, .ofNat 0), .inl (3, .ofNat 0)], (4, [(1, .negSucc 2147483647, .ofNat 2147483647), (2, .negSucc 2147483647, .ofNat 2147483647), (3, .ofNat 0, .ofNat 1)], [], [], [], [9, 12, 13, 14, 15, 16, 17, 18, 21, 22, 23, 24, 25]), [(359, 10, 11), (359, 0, 1), (360, 0, 602), (363, 0, 602), (362, 0, 602), (368, 0, 5), (359, 23, 24), (364, 0, 6020), (359, 13, 14)], [((2, [(1, .negSucc 0, .ofNat 21)], [], [], [], [9, 12, 13, 14, 15, 16, 17, 18, 21, 22, 23, 24, 25]), some (.inl (1, .ofNat 0)))])
def jxm_c207_N : jc_Nt := [none,
  none,
  none,
  none,
  some [none, none, none, none, none, none, some ([(8, none, (5, [(1, .ofNat 0, .ofNat 6), (2, .ofNat 0, .ofNat 2), (3, .ofNat 0, .ofNat 1), (4, .ofNat 0, .ofNat 1)], [], [], [], [9, 12, 13, 14, 15, 16, 17, 18, 21, 22, 23, 24, 25]), [(0, .inr (some (some 359))), (1, .inl (1, .ofNat 0)), (2, .inl (2, .ofNat 0)), (3, .inl (3, .ofNat 0)), (4, .inl (4, .ofNat 0)), (5, .inl (0, .ofNat 0)), (6, .inl (0, .ofNat 0))]),
    (7, none, (6, [(1, .ofNat 0, .ofNat 6), (2, .ofNat 0, .ofNat 2), (3, .ofNat 0, .ofNat 1), (4, .ofNat 0, .ofNat 1), (5, .ofNat 0, .ofNat 3)], [], [], [], [9, 12, 13, 14, 15, 16, 17, 18, 21, 22, 23, 24, 25]), [(0, .inr (some (some 359))), (1, .inl (1, .ofNat 0)), (2, .inl (2, .ofNat 0)), (3, .inl (3, .ofNat 0)), (4, .inl (4, .ofNat 0)), (5, .inl (5, .ofNat 0)), (6, .inl (0, .ofNat 1))]),
    (6, none, (6, [(1, .ofNat 0, .ofNat 6), (2, .ofNat 0, .ofNat 2), (3, .ofNat 0, .ofNat 1), (4, .ofNat 0, .ofNat 1), (5, .ofNat 0, .ofNat 6)], [], [], [], [9, 12, 13, 14, 15, 16, 17, 18, 21, 22, 23, 24, 25]), [(0, .inr (some (some 359))), (1, .inl (1, .ofNat 0)), (2, .inl (2, .ofNat 0)), (3, .inl (3, .ofNat 0)), (4, .inl (4, .ofNat 0)), (5, .inl (5, .ofNat 0)), (6, .inl (0, .ofNat 2))]),
    (5, none, (6, [(1, .ofNat 0, .ofNat 6), (2, .ofNat 0, .ofNat 2), (3, .ofNat 0, .ofNat 1), (4, .ofNat 0, .ofNat 1), (5, .ofNat 0, .ofNat 9)], [], [], [], [9, 12, 13, 14, 15, 16, 17, 18, 21, 22, 23, 24, 25]), [(0, .inr (some (some 359))), (1, .inl (1, .ofNat 0)), (2, .inl (2, .ofNat 0)), (3, .inl (3, .ofNat 0)), (4, .inl (4, .ofNat 0)), (5, .inl (5, .ofNat 0)), (6, .inl (0, .ofNat 3))]),
    (4, none, (6, [(1, .ofNat 0, .ofNat 6), (2, .ofNat 0, .ofNat 2), (3, .ofNat 0, .ofNat 1), (4, .ofNat 0, .ofNat 1), (5, .ofNat 0, .ofNat 12)], [], [], [], [9, 12, 13, 14, 15, 16, 17, 18, 21, 22, 23, 24, 25]), [(0, .inr (some (some 359))), (1, .inl (1, .ofNat 0)), (2, .inl (2, .ofNat 0)), (3, .inl (3, .ofNat 0)), (4, .inl (4, .ofNat 0)), (5, .inl (5, .ofNat 0)), (6, .inl (0, .ofNat 4))]),
    (3, none, (6, [(1, .ofNat 0, .ofNat 6), (2, .ofNat 0, .ofNat 2), (3, .ofNat 0, .ofNat 1), (4, .ofNat 0, .ofNat 1), (5, .ofNat 0, .ofNat 15)], [], [], [], [9, 12, 13, 14, 15, 16, 17, 18, 21, 22, 23, 24, 25]), [(0, .inr (some (some 359))), (1, .inl (1, .ofNat 0)), (2, .inl (2, .ofNat 0)), (3, .inl (3, .ofNat 0)), (4, .inl (4, .ofNat 0)), (5, .inl (5, .ofNat 0)), (6, .inl (0, .ofNat 5))]),
    (2, none, (6, [(1, .ofNat 0, .ofNat 6), (2, .ofNat 0, .ofNat 2), (3, .ofNat 0, .ofNat 1), (4, .ofNat 0, .ofNat 1), (5, .ofNat 0, .ofNat 18)], [], [], [], [9, 12, 13, 14, 15, 16, 17, 18, 21, 22, 23, 24, 25]), [(0, .inr (some (some 359))), (1, .inl (1, .ofNat 0)), (2, .inl (2, .ofNat 0)), (3, .inl (3, .ofNat 0)), (4, .inl (4, .ofNat 0)), (5, .inl (5, .ofNat 0)), (6, .inl (0, .ofNat 6))]),
    (1, none, (6, [(1, .ofNat 0, .ofNat 6), (2, .ofNat 0, .ofNat 2), (3, .ofNat 0, .ofNat 1), (4, .ofNat 0, .ofNat 1), (5, .ofNat 0, .ofNat 21)], [], [], [], [9, 12, 13, 14, 15, 16, 17, 18, 21, 22, 23, 24, 25]), [(0, .inr (some (some 359))), (1, .inl (1, .ofNat 0)), (2, .inl (2, .ofNat 0)), (3, .inl (3, .ofNat 0)), (4, .inl (4, .ofNat 0)), (5, .inl (5, .ofNat 0)), (6, .inl (0, .ofNat 7))])]), none, none, none, none, none, none, none, none, none]]
set_option maxRecDepth 1000000 in
theorem jxm_c207_ok (hX : jc_Xo jxm X) (hg44 : jc_Con jP jxm X jxm_g44) : jc_Con jP jxm X jxm_c207 := jc_mth_ok (Z := (jxm, [], jT, [jxm_c96, jxm_g44], jxm_S0, jxm_c207_N, .ofNat 100000)) (f := 100000) jxm_ok hX jT_ok (jc_c1 (jxm_c96_ok hX) (jc_c1 hg44 jc_c0)) (by decide +kernel)
end Jjxm48

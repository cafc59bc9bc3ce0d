/-! contracts of the reference (27); written by wip/jc/e5.py -/
section Jjxm27
variable {X : J_H → Prop}
set_option maxRecDepth 1000000 in
theorem jxm_c154_k48_0 : jc_ndc jxm_c154_Z 100000 jxm_c154 48 jxm_c154_n48_0 = true := by decide +kernel
set_option maxRecDepth 1000000 in
theorem jxm_c154_k235_0 : jc_ndc jxm_c154_Z 100000 jxm_c154 235 jxm_c154_n235_0 = true := by decide +kernel
set_option maxRecDepth 1000000 in
theorem jxm_c154_s : jc_mtg jxm_c154_Z 100000 jxm_c154 = true := by decide +kernel
theorem jxm_c154_h : ∀ pc ns, ja_n2 jxm_c154_N pc = some ns → jc_ndc jxm_c154_Z 100000 jxm_c154 pc ns = true := by
  intro pc ns h
  have hp := jc_inl_ok (ja_ch2_ok (p := fun i (_ : List jc_Nd) => jc_inl i [11, 48, 235]) (L := jxm_c154_N) (by decide +kernel) h)
  simp only [List.mem_cons, List.not_mem_nil, or_false] at hp
  rcases hp with rfl | rfl | rfl
  · exact (Option.some.inj (h.symm.trans (show ja_n2 jxm_c154_N 11 = some jxm_c154_n11_0 from rfl))) ▸ jxm_c154_k11_0
  · exact (Option.some.inj (h.symm.trans (show ja_n2 jxm_c154_N 48 = some jxm_c154_n48_0 from rfl))) ▸ jxm_c154_k48_0
  · exact (Option.some.inj (h.symm.trans (show ja_n2 jxm_c154_N 235 = some jxm_c154_n235_0 from rfl))) ▸ jxm_c154_k235_0
theorem jxm_c154_ok (hX : jc_Xo jxm X) : jc_Con jP jxm X jxm_c154 := jc_mthc_ok (Z := jxm_c154_Z) (f := 100000) jxm_ok hX jT_ok (jc_c1 (jxm_c139_ok hX) (jc_c1 (jxm_c140_ok hX) (jc_c1 (jxm_c141_ok hX) (jc_c1 (jxm_c142_ok hX) (jc_c1 (jxm_c143_ok hX) (jc_c1 (jxm_c144_ok hX) (jc_c1 (jxm_c145_ok hX) (jc_c1 (jxm_c146_ok hX) (jc_c1 (jxm_c147_ok hX) (jc_c1 (jxm_c148_ok hX) jc_c0)))))))))) jxm_c154_s jxm_c154_h
-- drops0.4
def jxm_c155 : jc_Cn := (275, 1, [.inr (some (some 359)), .inl (0, .ofNat 0)], (1, [], [(2949323, .inl (0, .ofNat 4))], [], [], [9, 10, 11, 12, 13, 14, 15, 16, 17, 18, 21, 22, 23, 24, 25]), [(360, 0, 602)], [((1, [], [(2949323, .inl (0, .ofNat 3))], [], [], [9, 10, 11, 12, 13, 14, 15, 16, 17, 18, 21, 22, 23, 24, 25]), none)])
def jxm_c155_n11_0 : List jc_Nd := [(7, none, (1, [], [(2949323, .inl (0, .ofNat 4)), (2949416, .inl (0, .ofNat 0))], [], [], [9, 10, 11, 12, 13, 14, 15, 16, 17, 18, 21, 22, 23, 24, 25]), [(0, .inr (some (some 359))), (1, .inl (0, .ofNat 0)), (2, .inl (0, .negSucc 0))]),
    (8, none, (1, [], [(2949323, .inl (0, .ofNat 4)), (2949416, .inl (0, .ofNat 1))], [], [], [9, 10, 11, 12, 13, 14, 15, 16, 17, 18, 21, 22, 23, 24, 25]), [(0, .inr (some (some 359))), (1, .inl (0, .ofNat 0)), (2, .inl (0, .ofNat 0))]),
    (9, none, (1, [], [(2949323, .inl (0, .ofNat 4)), (2949416, .inl (0, .ofNat 2))], [], [], [9, 10, 11, 12, 13, 14, 15, 16, 17, 18, 21, 22, 23, 24, 25]), [(0, .inr (some (some 359))), (1, .inl (0, .ofNat 0)), (2, .inl (0, .ofNat 1))]),
    (10, none, (1, [], [(2949323, .inl (0, .ofNat 4)), (2949416, .inl (0, .ofNat 3))], [], [], [9, 10, 11, 12, 13, 14, 15, 16, 17, 18, 21, 22, 23, 24, 25]), [(0, .inr (some (some 359))), (1, .inl (0, .ofNat 0)), (2, .inl (0, .ofNat 2))]),
    (11, none, (1, [], [(2949323, .inl (0, .ofNat 4)), (2949416, .inl (0, .ofNat 4))], [], [], [9, 10, 11, 12, 13, 14, 15, 16, 17, 18, 21, 22, 23, 24, 25]), [(0, .inr (some (some 359))), (1, .inl (0, .ofNat 0)), (2, .inl (0, .ofNat 3))]),
    (7, none, (1, [], [(2949323, .inl (0, .ofNat 4)), (2949416, .inl (0, .ofNat 1))], [], [], [9, 10, 11, 12, 13, 14, 15, 16, 17, 18, 21, 22, 23, 24, 25]), [(0, .inr (some (some 359))), (1, .inl (0, .ofNat 0)), (2, .inl (0, .negSucc 0))]),
    (8, none, (1, [], [(2949323, .inl (0, .ofNat 4)), (2949416, .inl (0, .ofNat 2))], [], [], [9, 10, 11, 12, 13, 14, 15, 16, 17, 18, 21, 22, 23, 24, 25]), [(0, .inr (some (some 359))), (1, .inl (0, .ofNat 0)), (2, .inl (0, .ofNat 0))]),
    (9, none, (1, [], [(2949323, .inl (0, .ofNat 4)), (2949416, .inl (0, .ofNat 3))], [], [], [9, 10, 11, 12, 13, 14, 15, 16, 17, 18, 21, 22, 23, 24, 25]), [(0, .inr (some (some 359))), (1, .inl (0, .ofNat 0)), (2, .inl (0, .ofNat 1))]),
    (10, none, (1, [], [(2949323, .inl (0, .ofNat 4)), (2949416, .inl (0, .ofNat 4))], [], [], [9, 10, 11, 12, 13, 14, 15, 16, 17, 18, 21, 22, 23, 24, 25]), [(0, .inr (some (some 359))), (1, .inl (0, .ofNat 0)), (2, .inl (0, .ofNat 2))]),
    (7, none, (1, [], [(2949323, .inl (0, .ofNat 4)), (2949416, .inl (0, .ofNat 2))], [], [], [9, 10, 11, 12, 13, 14, 15, 16, 17, 18, 21, 22, 23, 24, 25]), [(0, .inr (some (some 359))), (1, .inl (0, .ofNat 0)), (2, .inl (0, .negSucc 0))]),
    (8, none, (1, [], [(2949323, .inl (0, .ofNat 4)), (2949416, .inl (0, .ofNat 3))], [], [], [9, 10, 11, 12, 13, 14, 15, 16, 17, 18, 21, 22, 23, 24, 25]), [(0, .inr (some (some 359))), (1, .inl (0, .ofNat 0)), (2, .inl (0, .ofNat 0))]),
    (9, none, (1, [], [(2949323, .inl (0, .ofNat 4)), (2949416, .inl (0, .ofNat 4))], [], [], [9, 10, 11, 12, 13, 14, 15, 16, 17, 18, 21, 22, 23, 24, 25]), [(0, .inr (some (some 359))), (1, .inl (0, .ofNat 0)), (2, .inl (0, .ofNat 1))]),
    (7, none, (1, [], [(2949323, .inl (0, .ofNat 4)), (2949416, .inl (0, .ofNat 3))], [], [], [9, 10, 11, 12, 13, 14, 15, 16, 17, 18, 21, 22, 23, 24, 25]), [(0, .inr (some (some 359))), (1, .inl (0, .ofNat 0)), (2, .inl (0, .negSucc 0))]),
    (8, none, (1, [], [(2949323, .inl (0, .ofNat 4)), (2949416, .inl (0, .ofNat 4))], [], [], [9, 10, 11, 12, 13, 14, 15, 16, 17, 18, 21, 22, 23, 24, 25]), [(0, .inr (some (some 359))), (1, .inl (0, .ofNat 0)), (2, .inl (0, .ofNat 0))]),
    (7, none, (1, [], [(2949323, .inl (0, .ofNat 4)), (2949416, .inl (0, .ofNat 4))], [], [], [9, 10, 11, 12, 13, 14, 15, 16, 17, 18, 21, 22, 23, 24, 25]), [(0, .inr (some (some 359))), (1, .inl (0, .ofNat 0)), (2, .inl (0, .negSucc 0))])]
def jxm_c155_n48_0 : List jc_Nd := [(6, none, (1, [], [(2949323, .inl (0, .ofNat 4))], [], [], [9, 10, 11, 12, 13, 14, 15, 16, 17, 18, 21, 22, 23, 24, 25]), [(0, .inr (some (some 359))), (1, .inl (0, .ofNat 0)), (2, .inl (0, .ofNat 0))]),
    (5, none, (1, [], [(2949323, .inl (0, .ofNat 4))], [], [], [9, 10, 11, 12, 13, 14, 15, 16, 17, 18, 21, 22, 23, 24, 25]), [(0, .inr (some (some 359))), (1, .inl (0, .ofNat 0)), (2, .inl (0, .ofNat 1))]),
    (4, none, (1, [], [(2949323, .inl (0, .ofNat 4))], [], [], [9, 10, 11, 12, 13, 14, 15, 16, 17, 18, 21, 22, 23, 24, 25]), [(0, .inr (some (some 359))), (1, .inl (0, .ofNat 0)), (2, .inl (0, .ofNat 2))])]
def jxm_c155_n48_1 : List jc_Nd := [(3, none, (1, [], [(2949323, .inl (0, .ofNat 4))], [], [], [9, 10, 11, 12, 13, 14, 15, 16, 17, 18, 21, 22, 23, 24, 25]), [(0, .inr (some (some 359))), (1, .inl (0, .ofNat 0)), (2, .inl (0, .ofNat 3))]),
    (2, none, (1, [], [(2949323, .inl (0, .ofNat 4))], [], [], [9, 10, 11, 12, 13, 14, 15, 16, 17, 18, 21, 22, 23, 24, 25]), [(0, .inr (some (some 359))), (1, .inl (0, .ofNat 0)), (2, .inl (0, .ofNat 4))])]
def jxm_c155_n235_0 : List jc_Nd := [(1, none, (2, [(1, .ofNat 0, .ofNat 3)], [(2949323, .inl (0, .ofNat 4))], [], [], [9, 10, 11, 12, 13, 14, 15, 16, 17, 18, 19, 21, 22, 23, 25]), [(0, .inr (some (some 359))), (1, .inl (0, .ofNat 0)), (2, .inl (0, .ofNat 4)), (3, .inl (1, .ofNat 0)), (4, .inl (0, .ofNat 3))])]
def jxm_c155_N : jc_Nt := [some [none, none, none, none, none, none, none, none, none, none, none, some (jxm_c155_n11_0), none, none, none, none],
  none,
  none,
  some [some ((jxm_c155_n48_0 ++ jxm_c155_n48_1)), none, none, none, none, none, none, none, none, none, none, none, none, none, none, none],
  none,
  none,
  none,
  none,
  none,
  none,
  none,
  none,
  none,
  none,
  some [none, none, none, none, none, none, none, none, none, none, none, some (jxm_c155_n235_0), none, none, none, none]]
noncomputable def jxm_c155_Z : jc_Ce := (jxm, [(75, (76, false)), (76, (77, false)), (77, (78, false)), (78, (78, true)), (80, (138, false)), (81, (82, false)), (82, (83, false)), (83, (84, false)), (84, (84, true))], jT, [jxm_c139, jxm_c140, jxm_c141, jxm_c142, jxm_c143, jxm_c144, jxm_c145, jxm_c146, jxm_c147, jxm_c148], jxm_S19, jxm_c155_N, .ofNat 100000)
set_option maxRecDepth 1000000 in
theorem jxm_c155_k11_0 : jc_ndc jxm_c155_Z 100000 jxm_c155 11 jxm_c155_n11_0 = true := by decide +kernel
set_option maxRecDepth 1000000 in
theorem jxm_c155_k48_0 : jc_ndc jxm_c155_Z 100000 jxm_c155 48 jxm_c155_n48_0 = true := by decide +kernel
set_option maxRecDepth 1000000 in
theorem jxm_c155_k48_1 : jc_ndc jxm_c155_Z 100000 jxm_c155 48 jxm_c155_n48_1 = true := by decide +kernel
set_option maxRecDepth 1000000 in
theorem jxm_c155_k235_0 : jc_ndc jxm_c155_Z 100000 jxm_c155 235 jxm_c155_n235_0 = true := by decide +kernel
set_option maxRecDepth 1000000 in
theorem jxm_c155_s : jc_mtg jxm_c155_Z 100000 jxm_c155 = true := by decide +kernel
theorem jxm_c155_h : ∀ pc ns, ja_n2 jxm_c155_N pc = some ns → jc_ndc jxm_c155_Z 100000 jxm_c155 pc ns = true := by
  intro pc ns h
  have hp := jc_inl_ok (ja_ch2_ok (p := fun i (_ : List jc_Nd) => jc_inl i [11, 48, 235]) (L := jxm_c155_N) (by decide +kernel) h)
  simp only [List.mem_cons, List.not_mem_nil, or_false] at hp
  rcases hp with rfl | rfl | rfl
  · exact (Option.some.inj (h.symm.trans (show ja_n2 jxm_c155_N 11 = some jxm_c155_n11_0 from rfl))) ▸ jxm_c155_k11_0
  · exact (Option.some.inj (h.symm.trans (show ja_n2 jxm_c155_N 48 = some (jxm_c155_n48_0 ++ jxm_c155_n48_1) from rfl))) ▸ (jc_ndc_app jxm_c155_k48_0 jxm_c155_k48_1)
  · exact (Option.some.inj (h.symm.trans (show ja_n2 jxm_c155_N 235 = some jxm_c155_n235_0 from rfl))) ▸ jxm_c155_k235_0
theorem jxm_c155_ok (hX : jc_Xo jxm X) : jc_Con jP jxm X jxm_c155 := jc_mthc_ok (Z := jxm_c155_Z) (f := 100000) jxm_ok hX jT_ok (jc_c1 (jxm_c139_ok hX) (jc_c1 (jxm_c140_ok hX) (jc_c1 (jxm_c141_ok hX) (jc_c1 (jxm_c142_ok hX) (jc_c1 (jxm_c143_ok hX) (jc_c1 (jxm_c144_ok hX) (jc_c1 (jxm_c145_ok hX) (jc_c1 (jxm_c146_ok hX) (jc_c1 (jxm_c147_ok hX) (jc_c1 (jxm_c148_ok hX) jc_c0)))))))))) jxm_c155_s jxm_c155_h
-- drops1.4
def jxm_c156 : jc_Cn := (275, 1, [.inr (some (some 359)), .inl (0, .ofNat 1)], (1, [], [(2949323, .inl (0, .ofNat 4))], [], [], [9, 10, 11, 12, 13, 14, 15, 16, 17, 18, 21, 22, 23, 24, 25]), [(360, 0, 602)], [((1, [], [(2949323, .inl (0, .ofNat 3))], [], [], [9, 10, 11, 12, 13, 14, 15, 16, 17, 18, 21, 22, 23, 24, 25]), none)])
def jxm_c156_n11_0 : List jc_Nd := [(7, none, (1, [], [(2949323, .inl (0, .ofNat 4)), (2949416, .inl (0, .ofNat 0))], [], [], [9, 10, 11, 12, 13, 14, 15, 16, 17, 18, 21, 22, 23, 24, 25]), [(0, .inr (some (some 359))), (1, .inl (0, .ofNat 1)), (2, .inl (0, .negSucc 0))]),
    (8, none, (1, [], [(2949323, .inl (0, .ofNat 4)), (2949416, .inl (0, .ofNat 1))], [], [], [9, 10, 11, 12, 13, 14, 15, 16, 17, 18, 21, 22, 23, 24, 25]), [(0, .inr (some (some 359))), (1, .inl (0, .ofNat 1)), (2, .inl (0, .ofNat 0))]),
    (9, none, (1, [], [(2949323, .inl (0, .ofNat 4)), (2949416, .inl (0, .ofNat 2))], [], [], [9, 10, 11, 12, 13, 14, 15, 16, 17, 18, 21, 22, 23, 24, 25]), [(0, .inr (some (some 359))), (1, .inl (0, .ofNat 1)), (2, .inl (0, .ofNat 1))]),
    (10, none, (1, [], [(2949323, .inl (0, .ofNat 4)), (2949416, .inl (0, .ofNat 3))], [], [], [9, 10, 11, 12, 13, 14, 15, 16, 17, 18, 21, 22, 23, 24, 25]), [(0, .inr (some (some 359))), (1, .inl (0, .ofNat 1)), (2, .inl (0, .ofNat 2))]),
    (11, none, (1, [], [(2949323, .inl (0, .ofNat 4)), (2949416, .inl (0, .ofNat 4))], [], [], [9, 10, 11, 12, 13, 14, 15, 16, 17, 18, 21, 22, 23, 24, 25]), [(0, .inr (some (some 359))), (1, .inl (0, .ofNat 1)), (2, .inl (0, .ofNat 3))]),
    (7, none, (1, [], [(2949323, .inl (0, .ofNat 4)), (2949416, .inl (0, .ofNat 1))], [], [], [9, 10, 11, 12, 13, 14, 15, 16, 17, 18, 21, 22, 23, 24, 25]), [(0, .inr (some (some 359))), (1, .inl (0, .ofNat 1)), (2, .inl (0, .negSucc 0))]),
    (8, none, (1, [], [(2949323, .inl (0, .ofNat 4)), (2949416, .inl (0, .ofNat 2))], [], [], [9, 10, 11, 12, 13, 14, 15, 16, 17, 18, 21, 22, 23, 24, 25]), [(0, .inr (some (some 359))), (1, .inl (0, .ofNat 1)), (2, .inl (0, .ofNat 0))]),
    (9, none, (1, [], [(2949323, .inl (0, .ofNat 4)), (2949416, .inl (0, .ofNat 3))], [], [], [9, 10, 11, 12, 13, 14, 15, 16, 17, 18, 21, 22, 23, 24, 25]), [(0, .inr (some (some 359))), (1, .inl (0, .ofNat 1)), (2, .inl (0, .ofNat 1))]),
    (10, none, (1, [], [(2949323, .inl (0, .ofNat 4)), (2949416, .inl (0, .ofNat 4))], [], [], [9, 10, 11, 12, 13, 14, 15, 16, 17, 18, 21, 22, 23, 24, 25]), [(0, .inr (some (some 359))), (1, .inl (0, .ofNat 1)), (2, .inl (0, .ofNat 2))]),
    (7, none, (1, [], [(2949323, .inl (0, .ofNat 4)), (2949416, .inl (0, .ofNat 2))], [], [], [9, 10, 11, 12, 13, 14, 15, 16, 17, 18, 21, 22, 23, 24, 25]), [(0, .inr (some (some 359))), (1, .inl (0, .ofNat 1)), (2, .inl (0, .negSucc 0))]),
    (8, none, (1, [], [(2949323, .inl (0, .ofNat 4)), (2949416, .inl (0, .ofNat 3))], [], [], [9, 10, 11, 12, 13, 14, 15, 16, 17, 18, 21, 22, 23, 24, 25]), [(0, .inr (some (some 359))), (1, .inl (0, .ofNat 1)), (2, .inl (0, .ofNat 0))]),
    (9, none, (1, [], [(2949323, .inl (0, .ofNat 4)), (2949416, .inl (0, .ofNat 4))], [], [], [9, 10, 11, 12, 13, 14, 15, 16, 17, 18, 21, 22, 23, 24, 25]), [(0, .inr (some (some 359))), (1, .inl (0, .ofNat 1)), (2, .inl (0, .ofNat 1))]),
    (7, none, (1, [], [(2949323, .inl (0, .ofNat 4)), (2949416, .inl (0, .ofNat 3))], [], [], [9, 10, 11, 12, 13, 14, 15, 16, 17, 18, 21, 22, 23, 24, 25]), [(0, .inr (some (some 359))), (1, .inl (0, .ofNat 1)), (2, .inl (0, .negSucc 0))]),
    (8, none, (1, [], [(2949323, .inl (0, .ofNat 4)), (2949416, .inl (0, .ofNat 4))], [], [], [9, 10, 11, 12, 13, 14, 15, 16, 17, 18, 21, 22, 23, 24, 25]), [(0, .inr (some (some 359))), (1, .inl (0, .ofNat 1)), (2, .inl (0, .ofNat 0))]),
    (7, none, (1, [], [(2949323, .inl (0, .ofNat 4)), (2949416, .inl (0, .ofNat 4))], [], [], [9, 10, 11, 12, 13, 14, 15, 16, 17, 18, 21, 22, 23, 24, 25]), [(0, .inr (some (some 359))), (1, .inl (0, .ofNat 1)), (2, .inl (0, .negSucc 0))])]
def jxm_c156_n48_0 : List jc_Nd := [(6, none, (1, [], [(2949323, .inl (0, .ofNat 4))], [], [], [9, 10, 11, 12, 13, 14, 15, 16, 17, 18, 21, 22, 23, 24, 25]), [(0, .inr (some (some 359))), (1, .inl (0, .ofNat 1)), (2, .inl (0, .ofNat 0))])]
def jxm_c156_n48_1 : List jc_Nd := [(5, none, (1, [], [(2949323, .inl (0, .ofNat 4))], [], [], [9, 10, 11, 12, 13, 14, 15, 16, 17, 18, 21, 22, 23, 24, 25]), [(0, .inr (some (some 359))), (1, .inl (0, .ofNat 1)), (2, .inl (0, .ofNat 1))])]
def jxm_c156_n48_2 : List jc_Nd := [(4, none, (1, [], [(2949323, .inl (0, .ofNat 4))], [], [], [9, 10, 11, 12, 13, 14, 15, 16, 17, 18, 21, 22, 23, 24, 25]), [(0, .inr (some (some 359))), (1, .inl (0, .ofNat 1)), (2, .inl (0, .ofNat 2))])]
def jxm_c156_n48_3 : List jc_Nd := [(3, none, (1, [], [(2949323, .inl (0, .ofNat 4))], [], [], [9, 10, 11, 12, 13, 14, 15, 16, 17, 18, 21, 22, 23, 24, 25]), [(0, .inr (some (some 359))), (1, .inl (0, .ofNat 1)), (2, .inl (0, .ofNat 3))])]
def jxm_c156_n48_4 : List jc_Nd := [(2, none, (1, [], [(2949323, .inl (0, .ofNat 4))], [], [], [9, 10, 11, 12, 13, 14, 15, 16, 17, 18, 21, 22, 23, 24, 25]), [(0, .inr (some (some 359))), (1, .inl (0, .ofNat 1)), (2, .inl (0, .ofNat 4))])]
def jxm_c156_n235_0 : List jc_Nd := [(1, none, (2, [(1, .ofNat 0, .ofNat 3)], [(2949323, .inl (0, .ofNat 4))], [], [], [9, 10, 11, 12, 13, 14, 15, 16, 17, 18, 19, 21, 22, 23, 25]), [(0, .inr (some (some 359))), (1, .inl (0, .ofNat 1)), (2, .inl (0, .ofNat 4)), (3, .inl (1, .ofNat 0)), (4, .inl (0, .ofNat 3))])]
def jxm_c156_N : jc_Nt := [some [none, none, none, none, none, none, none, none, none, none, none, some (jxm_c156_n11_0), none, none, none, none],
  none,
  none,
  some [some ((jxm_c156_n48_0 ++ (jxm_c156_n48_1 ++ (jxm_c156_n48_2 ++ (jxm_c156_n48_3 ++ jxm_c156_n48_4))))), none, none, none, none, none, none, none, none, none, none, none, none, none, none, none],
  none,
  none,
  none,
  none,
  none,
  none,
  none,
  none,
  none,
  none,
  some [none, none, none, none, none, none, none, none, none, none, none, some (jxm_c156_n235_0), none, none, none, none]]
noncomputable def jxm_c156_Z : jc_Ce := (jxm, [(76, (77, false)), (77, (78, false)), (78, (78, true)), (80, (138, false)), (82, (83, false)), (83, (84, false)), (84, (84, true))], jT, [jxm_c139, jxm_c140, jxm_c141, jxm_c142, jxm_c143, jxm_c144, jxm_c145, jxm_c146, jxm_c147, jxm_c148], jxm_S19, jxm_c156_N, .ofNat 100000)
set_option maxRecDepth 1000000 in
theorem jxm_c156_k11_0 : jc_ndc jxm_c156_Z 100000 jxm_c156 11 jxm_c156_n11_0 = true := by decide +kernel
end Jjxm27

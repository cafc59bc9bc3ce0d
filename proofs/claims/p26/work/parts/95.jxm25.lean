/-! contracts of the reference (25); written by wip/jc/e5.py -/
section Jjxm25
variable {X : J_H → Prop}
set_option maxRecDepth 1000000 in
theorem jxm_c150_k235_0 : jc_ndc jxm_c150_Z 100000 jxm_c150 235 jxm_c150_n235_0 = true := by decide +kernel
set_option maxRecDepth 1000000 in
theorem jxm_c150_s : jc_mtg jxm_c150_Z 100000 jxm_c150 = true := by decide +kernel
theorem jxm_c150_h : ∀ pc ns, ja_n2 jxm_c150_N pc = some ns → jc_ndc jxm_c150_Z 100000 jxm_c150 pc ns = true := by
  intro pc ns h
  have hp := jc_inl_ok (ja_ch2_ok (p := fun i (_ : List jc_Nd) => jc_inl i [11, 48, 235]) (L := jxm_c150_N) (by decide +kernel) h)
  simp only [List.mem_cons, List.not_mem_nil, or_false] at hp
  rcases hp with rfl | rfl | rfl
  · exact (Option.some.inj (h.symm.trans (show ja_n2 jxm_c150_N 11 = some jxm_c150_n11_0 from rfl))) ▸ jxm_c150_k11_0
  · exact (Option.some.inj (h.symm.trans (show ja_n2 jxm_c150_N 48 = some jxm_c150_n48_0 from rfl))) ▸ jxm_c150_k48_0
  · exact (Option.some.inj (h.symm.trans (show ja_n2 jxm_c150_N 235 = some jxm_c150_n235_0 from rfl))) ▸ jxm_c150_k235_0
theorem jxm_c150_ok (hX : jc_Xo jxm X) : jc_Con jP jxm X jxm_c150 := jc_mthc_ok (Z := jxm_c150_Z) (f := 100000) jxm_ok hX jT_ok (jc_c1 (jxm_c139_ok hX) (jc_c1 (jxm_c140_ok hX) (jc_c1 (jxm_c141_ok hX) (jc_c1 (jxm_c142_ok hX) (jc_c1 (jxm_c143_ok hX) (jc_c1 (jxm_c144_ok hX) (jc_c1 (jxm_c145_ok hX) (jc_c1 (jxm_c146_ok hX) (jc_c1 (jxm_c147_ok hX) (jc_c1 (jxm_c148_ok hX) jc_c0)))))))))) jxm_c150_s jxm_c150_h
-- drops1.2
def jxm_c151 : jc_Cn := (275, 1, [.inr (some (some 359)), .inl (0, .ofNat 1)], (1, [], [(2949323, .inl (0, .ofNat 2))], [], [], [9, 10, 11, 12, 13, 14, 15, 16, 17, 18, 21, 22, 23, 24, 25]), [(360, 0, 602)], [((1, [], [(2949323, .inl (0, .ofNat 1))], [], [], [9, 10, 11, 12, 13, 14, 15, 16, 17, 18, 21, 22, 23, 24, 25]), none)])
def jxm_c151_n11_0 : List jc_Nd := [(7, none, (1, [], [(2949323, .inl (0, .ofNat 2)), (2949416, .inl (0, .ofNat 0))], [], [], [9, 10, 11, 12, 13, 14, 15, 16, 17, 18, 21, 22, 23, 24, 25]), [(0, .inr (some (some 359))), (1, .inl (0, .ofNat 1)), (2, .inl (0, .negSucc 0))]),
    (8, none, (1, [], [(2949323, .inl (0, .ofNat 2)), (2949416, .inl (0, .ofNat 1))], [], [], [9, 10, 11, 12, 13, 14, 15, 16, 17, 18, 21, 22, 23, 24, 25]), [(0, .inr (some (some 359))), (1, .inl (0, .ofNat 1)), (2, .inl (0, .ofNat 0))]),
    (9, none, (1, [], [(2949323, .inl (0, .ofNat 2)), (2949416, .inl (0, .ofNat 2))], [], [], [9, 10, 11, 12, 13, 14, 15, 16, 17, 18, 21, 22, 23, 24, 25]), [(0, .inr (some (some 359))), (1, .inl (0, .ofNat 1)), (2, .inl (0, .ofNat 1))]),
    (10, none, (1, [], [(2949323, .inl (0, .ofNat 2)), (2949416, .inl (0, .ofNat 3))], [], [], [9, 10, 11, 12, 13, 14, 15, 16, 17, 18, 21, 22, 23, 24, 25]), [(0, .inr (some (some 359))), (1, .inl (0, .ofNat 1)), (2, .inl (0, .ofNat 2))]),
    (11, none, (1, [], [(2949323, .inl (0, .ofNat 2)), (2949416, .inl (0, .ofNat 4))], [], [], [9, 10, 11, 12, 13, 14, 15, 16, 17, 18, 21, 22, 23, 24, 25]), [(0, .inr (some (some 359))), (1, .inl (0, .ofNat 1)), (2, .inl (0, .ofNat 3))]),
    (7, none, (1, [], [(2949323, .inl (0, .ofNat 2)), (2949416, .inl (0, .ofNat 1))], [], [], [9, 10, 11, 12, 13, 14, 15, 16, 17, 18, 21, 22, 23, 24, 25]), [(0, .inr (some (some 359))), (1, .inl (0, .ofNat 1)), (2, .inl (0, .negSucc 0))]),
    (8, none, (1, [], [(2949323, .inl (0, .ofNat 2)), (2949416, .inl (0, .ofNat 2))], [], [], [9, 10, 11, 12, 13, 14, 15, 16, 17, 18, 21, 22, 23, 24, 25]), [(0, .inr (some (some 359))), (1, .inl (0, .ofNat 1)), (2, .inl (0, .ofNat 0))]),
    (9, none, (1, [], [(2949323, .inl (0, .ofNat 2)), (2949416, .inl (0, .ofNat 3))], [], [], [9, 10, 11, 12, 13, 14, 15, 16, 17, 18, 21, 22, 23, 24, 25]), [(0, .inr (some (some 359))), (1, .inl (0, .ofNat 1)), (2, .inl (0, .ofNat 1))]),
    (10, none, (1, [], [(2949323, .inl (0, .ofNat 2)), (2949416, .inl (0, .ofNat 4))], [], [], [9, 10, 11, 12, 13, 14, 15, 16, 17, 18, 21, 22, 23, 24, 25]), [(0, .inr (some (some 359))), (1, .inl (0, .ofNat 1)), (2, .inl (0, .ofNat 2))]),
    (7, none, (1, [], [(2949323, .inl (0, .ofNat 2)), (2949416, .inl (0, .ofNat 2))], [], [], [9, 10, 11, 12, 13, 14, 15, 16, 17, 18, 21, 22, 23, 24, 25]), [(0, .inr (some (some 359))), (1, .inl (0, .ofNat 1)), (2, .inl (0, .negSucc 0))]),
    (8, none, (1, [], [(2949323, .inl (0, .ofNat 2)), (2949416, .inl (0, .ofNat 3))], [], [], [9, 10, 11, 12, 13, 14, 15, 16, 17, 18, 21, 22, 23, 24, 25]), [(0, .inr (some (some 359))), (1, .inl (0, .ofNat 1)), (2, .inl (0, .ofNat 0))]),
    (9, none, (1, [], [(2949323, .inl (0, .ofNat 2)), (2949416, .inl (0, .ofNat 4))], [], [], [9, 10, 11, 12, 13, 14, 15, 16, 17, 18, 21, 22, 23, 24, 25]), [(0, .inr (some (some 359))), (1, .inl (0, .ofNat 1)), (2, .inl (0, .ofNat 1))]),
    (7, none, (1, [], [(2949323, .inl (0, .ofNat 2)), (2949416, .inl (0, .ofNat 3))], [], [], [9, 10, 11, 12, 13, 14, 15, 16, 17, 18, 21, 22, 23, 24, 25]), [(0, .inr (some (some 359))), (1, .inl (0, .ofNat 1)), (2, .inl (0, .negSucc 0))]),
    (8, none, (1, [], [(2949323, .inl (0, .ofNat 2)), (2949416, .inl (0, .ofNat 4))], [], [], [9, 10, 11, 12, 13, 14, 15, 16, 17, 18, 21, 22, 23, 24, 25]), [(0, .inr (some (some 359))), (1, .inl (0, .ofNat 1)), (2, .inl (0, .ofNat 0))]),
    (7, none, (1, [], [(2949323, .inl (0, .ofNat 2)), (2949416, .inl (0, .ofNat 4))], [], [], [9, 10, 11, 12, 13, 14, 15, 16, 17, 18, 21, 22, 23, 24, 25]), [(0, .inr (some (some 359))), (1, .inl (0, .ofNat 1)), (2, .inl (0, .negSucc 0))])]
def jxm_c151_n48_0 : List jc_Nd := [(6, none, (1, [], [(2949323, .inl (0, .ofNat 2))], [], [], [9, 10, 11, 12, 13, 14, 15, 16, 17, 18, 21, 22, 23, 24, 25]), [(0, .inr (some (some 359))), (1, .inl (0, .ofNat 1)), (2, .inl (0, .ofNat 0))]),
    (5, none, (1, [], [(2949323, .inl (0, .ofNat 2))], [], [], [9, 10, 11, 12, 13, 14, 15, 16, 17, 18, 21, 22, 23, 24, 25]), [(0, .inr (some (some 359))), (1, .inl (0, .ofNat 1)), (2, .inl (0, .ofNat 1))]),
    (4, none, (1, [], [(2949323, .inl (0, .ofNat 2))], [], [], [9, 10, 11, 12, 13, 14, 15, 16, 17, 18, 21, 22, 23, 24, 25]), [(0, .inr (some (some 359))), (1, .inl (0, .ofNat 1)), (2, .inl (0, .ofNat 2))]),
    (3, none, (1, [], [(2949323, .inl (0, .ofNat 2))], [], [], [9, 10, 11, 12, 13, 14, 15, 16, 17, 18, 21, 22, 23, 24, 25]), [(0, .inr (some (some 359))), (1, .inl (0, .ofNat 1)), (2, .inl (0, .ofNat 3))]),
    (2, none, (1, [], [(2949323, .inl (0, .ofNat 2))], [], [], [9, 10, 11, 12, 13, 14, 15, 16, 17, 18, 21, 22, 23, 24, 25]), [(0, .inr (some (some 359))), (1, .inl (0, .ofNat 1)), (2, .inl (0, .ofNat 4))])]
def jxm_c151_n235_0 : List jc_Nd := [(1, none, (2, [(1, .ofNat 0, .ofNat 1)], [(2949323, .inl (0, .ofNat 2))], [], [], [9, 10, 11, 12, 13, 14, 15, 16, 17, 18, 19, 21, 23, 24, 25]), [(0, .inr (some (some 359))), (1, .inl (0, .ofNat 1)), (2, .inl (0, .ofNat 2)), (3, .inl (1, .ofNat 0)), (4, .inl (0, .ofNat 1))])]
def jxm_c151_N : jc_Nt := [some [none, none, none, none, none, none, none, none, none, none, none, some (jxm_c151_n11_0), none, none, none, none],
  none,
  none,
  some [some (jxm_c151_n48_0), none, none, none, none, none, none, none, none, none, none, none, none, none, none, none],
  none,
  none,
  none,
  none,
  none,
  none,
  none,
  none,
  none,
  none,
  some [none, none, none, none, none, none, none, none, none, none, none, some (jxm_c151_n235_0), none, none, none, none]]
noncomputable def jxm_c151_Z : jc_Ce := (jxm, [(76, (76, true)), (80, (136, false)), (82, (82, true))], jT, [jxm_c139, jxm_c140, jxm_c141, jxm_c142, jxm_c143, jxm_c144, jxm_c145, jxm_c146, jxm_c147, jxm_c148], jxm_S17, jxm_c151_N, .ofNat 100000)
set_option maxRecDepth 1000000 in
theorem jxm_c151_k11_0 : jc_ndc jxm_c151_Z 100000 jxm_c151 11 jxm_c151_n11_0 = true := by decide +kernel
set_option maxRecDepth 1000000 in
theorem jxm_c151_k48_0 : jc_ndc jxm_c151_Z 100000 jxm_c151 48 jxm_c151_n48_0 = true := by decide +kernel
set_option maxRecDepth 1000000 in
theorem jxm_c151_k235_0 : jc_ndc jxm_c151_Z 100000 jxm_c151 235 jxm_c151_n235_0 = true := by decide +kernel
set_option maxRecDepth 1000000 in
theorem jxm_c151_s : jc_mtg jxm_c151_Z 100000 jxm_c151 = true := by decide +kernel
theorem jxm_c151_h : ∀ pc ns, ja_n2 jxm_c151_N pc = some ns → jc_ndc jxm_c151_Z 100000 jxm_c151 pc ns = true := by
  intro pc ns h
  have hp := jc_inl_ok (ja_ch2_ok (p := fun i (_ : List jc_Nd) => jc_inl i [11, 48, 235]) (L := jxm_c151_N) (by decide +kernel) h)
  simp only [List.mem_cons, List.not_mem_nil, or_false] at hp
  rcases hp with rfl | rfl | rfl
  · exact (Option.some.inj (h.symm.trans (show ja_n2 jxm_c151_N 11 = some jxm_c151_n11_0 from rfl))) ▸ jxm_c151_k11_0
  · exact (Option.some.inj (h.symm.trans (show ja_n2 jxm_c151_N 48 = some jxm_c151_n48_0 from rfl))) ▸ jxm_c151_k48_0
  · exact (Option.some.inj (h.symm.trans (show ja_n2 jxm_c151_N 235 = some jxm_c151_n235_0 from rfl))) ▸ jxm_c151_k235_0
theorem jxm_c151_ok (hX : jc_Xo jxm X) : jc_Con jP jxm X jxm_c151 := jc_mthc_ok (Z := jxm_c151_Z) (f := 100000) jxm_ok hX jT_ok (jc_c1 (jxm_c139_ok hX) (jc_c1 (jxm_c140_ok hX) (jc_c1 (jxm_c141_ok hX) (jc_c1 (jxm_c142_ok hX) (jc_c1 (jxm_c143_ok hX) (jc_c1 (jxm_c144_ok hX) (jc_c1 (jxm_c145_ok hX) (jc_c1 (jxm_c146_ok hX) (jc_c1 (jxm_c147_ok hX) (jc_c1 (jxm_c148_ok hX) jc_c0)))))))))) jxm_c151_s jxm_c151_h
-- drops0.3
def jxm_c152 : jc_Cn := (275, 1, [.inr (some (some 359)), .inl (0, .ofNat 0)], (1, [], [(2949323, .inl (0, .ofNat 3))], [], [], [9, 10, 11, 12, 13, 14, 15, 16, 17, 18, 21, 22, 23, 24, 25]), [(360, 0, 602)], [((1, [], [(2949323, .inl (0, .ofNat 2))], [], [], [9, 10, 11, 12, 13, 14, 15, 16, 17, 18, 21, 22, 23, 24, 25]), none)])
def jxm_c152_n11_0 : List jc_Nd := [(7, none, (1, [], [(2949323, .inl (0, .ofNat 3)), (2949416, .inl (0, .ofNat 0))], [], [], [9, 10, 11, 12, 13, 14, 15, 16, 17, 18, 21, 22, 23, 24, 25]), [(0, .inr (some (some 359))), (1, .inl (0, .ofNat 0)), (2, .inl (0, .negSucc 0))]),
    (8, none, (1, [], [(2949323, .inl (0, .ofNat 3)), (2949416, .inl (0, .ofNat 1))], [], [], [9, 10, 11, 12, 13, 14, 15, 16, 17, 18, 21, 22, 23, 24, 25]), [(0, .inr (some (some 359))), (1, .inl (0, .ofNat 0)), (2, .inl (0, .ofNat 0))]),
    (9, none, (1, [], [(2949323, .inl (0, .ofNat 3)), (2949416, .inl (0, .ofNat 2))], [], [], [9, 10, 11, 12, 13, 14, 15, 16, 17, 18, 21, 22, 23, 24, 25]), [(0, .inr (some (some 359))), (1, .inl (0, .ofNat 0)), (2, .inl (0, .ofNat 1))]),
    (10, none, (1, [], [(2949323, .inl (0, .ofNat 3)), (2949416, .inl (0, .ofNat 3))], [], [], [9, 10, 11, 12, 13, 14, 15, 16, 17, 18, 21, 22, 23, 24, 25]), [(0, .inr (some (some 359))), (1, .inl (0, .ofNat 0)), (2, .inl (0, .ofNat 2))]),
    (11, none, (1, [], [(2949323, .inl (0, .ofNat 3)), (2949416, .inl (0, .ofNat 4))], [], [], [9, 10, 11, 12, 13, 14, 15, 16, 17, 18, 21, 22, 23, 24, 25]), [(0, .inr (some (some 359))), (1, .inl (0, .ofNat 0)), (2, .inl (0, .ofNat 3))]),
    (7, none, (1, [], [(2949323, .inl (0, .ofNat 3)), (2949416, .inl (0, .ofNat 1))], [], [], [9, 10, 11, 12, 13, 14, 15, 16, 17, 18, 21, 22, 23, 24, 25]), [(0, .inr (some (some 359))), (1, .inl (0, .ofNat 0)), (2, .inl (0, .negSucc 0))]),
    (8, none, (1, [], [(2949323, .inl (0, .ofNat 3)), (2949416, .inl (0, .ofNat 2))], [], [], [9, 10, 11, 12, 13, 14, 15, 16, 17, 18, 21, 22, 23, 24, 25]), [(0, .inr (some (some 359))), (1, .inl (0, .ofNat 0)), (2, .inl (0, .ofNat 0))]),
    (9, none, (1, [], [(2949323, .inl (0, .ofNat 3)), (2949416, .inl (0, .ofNat 3))], [], [], [9, 10, 11, 12, 13, 14, 15, 16, 17, 18, 21, 22, 23, 24, 25]), [(0, .inr (some (some 359))), (1, .inl (0, .ofNat 0)), (2, .inl (0, .ofNat 1))]),
    (10, none, (1, [], [(2949323, .inl (0, .ofNat 3)), (2949416, .inl (0, .ofNat 4))], [], [], [9, 10, 11, 12, 13, 14, 15, 16, 17, 18, 21, 22, 23, 24, 25]), [(0, .inr (some (some 359))), (1, .inl (0, .ofNat 0)), (2, .inl (0, .ofNat 2))]),
    (7, none, (1, [], [(2949323, .inl (0, .ofNat 3)), (2949416, .inl (0, .ofNat 2))], [], [], [9, 10, 11, 12, 13, 14, 15, 16, 17, 18, 21, 22, 23, 24, 25]), [(0, .inr (some (some 359))), (1, .inl (0, .ofNat 0)), (2, .inl (0, .negSucc 0))]),
    (8, none, (1, [], [(2949323, .inl (0, .ofNat 3)), (2949416, .inl (0, .ofNat 3))], [], [], [9, 10, 11, 12, 13, 14, 15, 16, 17, 18, 21, 22, 23, 24, 25]), [(0, .inr (some (some 359))), (1, .inl (0, .ofNat 0)), (2, .inl (0, .ofNat 0))]),
    (9, none, (1, [], [(2949323, .inl (0, .ofNat 3)), (2949416, .inl (0, .ofNat 4))], [], [], [9, 10, 11, 12, 13, 14, 15, 16, 17, 18, 21, 22, 23, 24, 25]), [(0, .inr (some (some 359))), (1, .inl (0, .ofNat 0)), (2, .inl (0, .ofNat 1))]),
    (7, none, (1, [], [(2949323, .inl (0, .ofNat 3)), (2949416, .inl (0, .ofNat 3))], [], [], [9, 10, 11, 12, 13, 14, 15, 16, 17, 18, 21, 22, 23, 24, 25]), [(0, .inr (some (some 359))), (1, .inl (0, .ofNat 0)), (2, .inl (0, .negSucc 0))]),
    (8, none, (1, [], [(2949323, .inl (0, .ofNat 3)), (2949416, .inl (0, .ofNat 4))], [], [], [9, 10, 11, 12, 13, 14, 15, 16, 17, 18, 21, 22, 23, 24, 25]), [(0, .inr (some (some 359))), (1, .inl (0, .ofNat 0)), (2, .inl (0, .ofNat 0))]),
    (7, none, (1, [], [(2949323, .inl (0, .ofNat 3)), (2949416, .inl (0, .ofNat 4))], [], [], [9, 10, 11, 12, 13, 14, 15, 16, 17, 18, 21, 22, 23, 24, 25]), [(0, .inr (some (some 359))), (1, .inl (0, .ofNat 0)), (2, .inl (0, .negSucc 0))])]
def jxm_c152_n48_0 : List jc_Nd := [(6, none, (1, [], [(2949323, .inl (0, .ofNat 3))], [], [], [9, 10, 11, 12, 13, 14, 15, 16, 17, 18, 21, 22, 23, 24, 25]), [(0, .inr (some (some 359))), (1, .inl (0, .ofNat 0)), (2, .inl (0, .ofNat 0))]),
    (5, none, (1, [], [(2949323, .inl (0, .ofNat 3))], [], [], [9, 10, 11, 12, 13, 14, 15, 16, 17, 18, 21, 22, 23, 24, 25]), [(0, .inr (some (some 359))), (1, .inl (0, .ofNat 0)), (2, .inl (0, .ofNat 1))]),
    (4, none, (1, [], [(2949323, .inl (0, .ofNat 3))], [], [], [9, 10, 11, 12, 13, 14, 15, 16, 17, 18, 21, 22, 23, 24, 25]), [(0, .inr (some (some 359))), (1, .inl (0, .ofNat 0)), (2, .inl (0, .ofNat 2))]),
    (3, none, (1, [], [(2949323, .inl (0, .ofNat 3))], [], [], [9, 10, 11, 12, 13, 14, 15, 16, 17, 18, 21, 22, 23, 24, 25]), [(0, .inr (some (some 359))), (1, .inl (0, .ofNat 0)), (2, .inl (0, .ofNat 3))]),
    (2, none, (1, [], [(2949323, .inl (0, .ofNat 3))], [], [], [9, 10, 11, 12, 13, 14, 15, 16, 17, 18, 21, 22, 23, 24, 25]), [(0, .inr (some (some 359))), (1, .inl (0, .ofNat 0)), (2, .inl (0, .ofNat 4))])]
def jxm_c152_n235_0 : List jc_Nd := [(1, none, (2, [(1, .ofNat 0, .ofNat 2)], [(2949323, .inl (0, .ofNat 3))], [], [], [9, 10, 11, 12, 13, 14, 15, 16, 17, 18, 19, 21, 22, 24, 25]), [(0, .inr (some (some 359))), (1, .inl (0, .ofNat 0)), (2, .inl (0, .ofNat 3)), (3, .inl (1, .ofNat 0)), (4, .inl (0, .ofNat 2))])]
def jxm_c152_N : jc_Nt := [some [none, none, none, none, none, none, none, none, none, none, none, some (jxm_c152_n11_0), none, none, none, none],
  none,
  none,
  some [some (jxm_c152_n48_0), none, none, none, none, none, none, none, none, none, none, none, none, none, none, none],
  none,
  none,
  none,
  none,
  none,
  none,
  none,
  none,
  none,
  none,
  some [none, none, none, none, none, none, none, none, none, none, none, some (jxm_c152_n235_0), none, none, none, none]]
noncomputable def jxm_c152_Z : jc_Ce := (jxm, [(75, (76, false)), (76, (77, false)), (77, (77, true)), (80, (137, false)), (81, (82, false)), (82, (83, false)), (83, (83, true))], jT, [jxm_c139, jxm_c140, jxm_c141, jxm_c142, jxm_c143, jxm_c144, jxm_c145, jxm_c146, jxm_c147, jxm_c148], jxm_S18, jxm_c152_N, .ofNat 100000)
set_option maxRecDepth 1000000 in
theorem jxm_c152_k11_0 : jc_ndc jxm_c152_Z 100000 jxm_c152 11 jxm_c152_n11_0 = true := by decide +kernel
set_option maxRecDepth 1000000 in
theorem jxm_c152_k48_0 : jc_ndc jxm_c152_Z 100000 jxm_c152 48 jxm_c152_n48_0 = true := by decide +kernel
end Jjxm25

/-! contracts of the reference (55); written by wip/jc/e5.py -/
section Jjxm55
variable {X : J_H → Prop}
set_option maxRecDepth 1000000 in
theorem jxm_c211_k22_24 : jc_ndc jxm_c211_Z 100000 jxm_c211 22 jxm_c211_n22_24 = true := by decide +kernel
set_option maxRecDepth 1000000 in
theorem jxm_c211_k22_25 : jc_ndc jxm_c211_Z 100000 jxm_c211 22 jxm_c211_n22_25 = true := by decide +kernel
set_option maxRecDepth 1000000 in
theorem jxm_c211_k22_26 : jc_ndc jxm_c211_Z 100000 jxm_c211 22 jxm_c211_n22_26 = true := by decide +kernel
set_option maxRecDepth 1000000 in
theorem jxm_c211_k22_27 : jc_ndc jxm_c211_Z 100000 jxm_c211 22 jxm_c211_n22_27 = true := by decide +kernel
set_option maxRecDepth 1000000 in
theorem jxm_c211_s : jc_mtg jxm_c211_Z 100000 jxm_c211 = true := by decide +kernel
theorem jxm_c211_h : ∀ pc ns, ja_n2 jxm_c211_N pc = some ns → jc_ndc jxm_c211_Z 100000 jxm_c211 pc ns = true := by
  intro pc ns h
  have hp := jc_inl_ok (ja_ch2_ok (p := fun i (_ : List jc_Nd) => jc_inl i [22]) (L := jxm_c211_N) (by decide +kernel) h)
  simp only [List.mem_cons, List.not_mem_nil, or_false] at hp
  subst hp
  · exact (Option.some.inj (h.symm.trans (show ja_n2 jxm_c211_N 22 = some (jxm_c211_n22_0 ++ (jxm_c211_n22_1 ++ (jxm_c211_n22_2 ++ (jxm_c211_n22_3 ++ (jxm_c211_n22_4 ++ (jxm_c211_n22_5 ++ (jxm_c211_n22_6 ++ (jxm_c211_n22_7 ++ (jxm_c211_n22_8 ++ (jxm_c211_n22_9 ++ (jxm_c211_n22_10 ++ (jxm_c211_n22_11 ++ (jxm_c211_n22_12 ++ (jxm_c211_n22_13 ++ (jxm_c211_n22_14 ++ (jxm_c211_n22_15 ++ (jxm_c211_n22_16 ++ (jxm_c211_n22_17 ++ (jxm_c211_n22_18 ++ (jxm_c211_n22_19 ++ (jxm_c211_n22_20 ++ (jxm_c211_n22_21 ++ (jxm_c211_n22_22 ++ (jxm_c211_n22_23 ++ (jxm_c211_n22_24 ++ (jxm_c211_n22_25 ++ (jxm_c211_n22_26 ++ jxm_c211_n22_27))))))))))))))))))))))))))) from rfl))) ▸ (jc_ndc_app jxm_c211_k22_0 (jc_ndc_app jxm_c211_k22_1 (jc_ndc_app jxm_c211_k22_2 (jc_ndc_app jxm_c211_k22_3 (jc_ndc_app jxm_c211_k22_4 (jc_ndc_app jxm_c211_k22_5 (jc_ndc_app jxm_c211_k22_6 (jc_ndc_app jxm_c211_k22_7 (jc_ndc_app jxm_c211_k22_8 (jc_ndc_app jxm_c211_k22_9 (jc_ndc_app jxm_c211_k22_10 (jc_ndc_app jxm_c211_k22_11 (jc_ndc_app jxm_c211_k22_12 (jc_ndc_app jxm_c211_k22_13 (jc_ndc_app jxm_c211_k22_14 (jc_ndc_app jxm_c211_k22_15 (jc_ndc_app jxm_c211_k22_16 (jc_ndc_app jxm_c211_k22_17 (jc_ndc_app jxm_c211_k22_18 (jc_ndc_app jxm_c211_k22_19 (jc_ndc_app jxm_c211_k22_20 (jc_ndc_app jxm_c211_k22_21 (jc_ndc_app jxm_c211_k22_22 (jc_ndc_app jxm_c211_k22_23 (jc_ndc_app jxm_c211_k22_24 (jc_ndc_app jxm_c211_k22_25 (jc_ndc_app jxm_c211_k22_26 jxm_c211_k22_27)))))))))))))))))))))))))))
theorem jxm_c211_ok (hX : jc_Xo jxm X) (hg44 : jc_Con jP jxm X jxm_g44) : jc_Con jP jxm X jxm_c211 := jc_mthc_ok (Z := jxm_c211_Z) (f := 100000) jxm_ok hX jT_ok (jc_c1 hg44 jc_c0) jxm_c211_s jxm_c211_h
-- printsWord0
def jxm_c212 : jc_Cn := (292, 1, [.inr (some (some 359)), .inr none], (2, [(1, .ofNat 0, .ofNat 0)], [(2940955, .inl (1, .ofNat 0))], [], [], [9, 12, 13, 14, 15, 16, 17, 18, 21, 22, 23, 24, 25]), [(371, 0, 1400), (359, 27, 28)], [((2, [(1, .ofNat 0, .ofNat 9)], [(2940955, .inl (1, .ofNat 0))], [], [], [9, 12, 13, 14, 15, 16, 17, 18, 21, 22, 23, 24, 25]), none)])
def jxm_c212_N : jc_Nt := [some [none, none, none, some ([(10, none, (1, [], [(2940955, .inl (0, .ofNat 0))], [], [], [9, 12, 13, 14, 15, 16, 17, 18, 21, 22, 23, 24, 25]), [(0, .inr (some (some 359))), (1, .inr none), (3, .inl (0, .ofNat 40))]),
    (9, none, (2, [(1, .ofNat 0, .ofNat 1)], [(2940955, .inl (1, .ofNat 0))], [], [], [9, 12, 13, 14, 15, 16, 17, 18, 21, 22, 23, 24, 25]), [(0, .inr (some (some 359))), (1, .inr none), (3, .inl (0, .ofNat 35))]),
    (8, none, (2, [(1, .ofNat 0, .ofNat 2)], [(2940955, .inl (1, .ofNat 0))], [], [], [9, 12, 13, 14, 15, 16, 17, 18, 21, 22, 23, 24, 25]), [(0, .inr (some (some 359))), (1, .inr none), (3, .inl (0, .ofNat 30))]),
    (7, none, (2, [(1, .ofNat 0, .ofNat 3)], [(2940955, .inl (1, .ofNat 0))], [], [], [9, 12, 13, 14, 15, 16, 17, 18, 21, 22, 23, 24, 25]), [(0, .inr (some (some 359))), (1, .inr none), (3, .inl (0, .ofNat 25))]),
    (6, none, (2, [(1, .ofNat 0, .ofNat 4)], [(2940955, .inl (1, .ofNat 0))], [], [], [9, 12, 13, 14, 15, 16, 17, 18, 21, 22, 23, 24, 25]), [(0, .inr (some (some 359))), (1, .inr none), (3, .inl (0, .ofNat 20))]),
    (5, none, (2, [(1, .ofNat 0, .ofNat 5)], [(2940955, .inl (1, .ofNat 0))], [], [], [9, 12, 13, 14, 15, 16, 17, 18, 21, 22, 23, 24, 25]), [(0, .inr (some (some 359))), (1, .inr none), (3, .inl (0, .ofNat 15))]),
    (4, none, (2, [(1, .ofNat 0, .ofNat 6)], [(2940955, .inl (1, .ofNat 0))], [], [], [9, 12, 13, 14, 15, 16, 17, 18, 21, 22, 23, 24, 25]), [(0, .inr (some (some 359))), (1, .inr none), (3, .inl (0, .ofNat 10))]),
    (3, none, (2, [(1, .ofNat 0, .ofNat 7)], [(2940955, .inl (1, .ofNat 0))], [], [], [9, 12, 13, 14, 15, 16, 17, 18, 21, 22, 23, 24, 25]), [(0, .inr (some (some 359))), (1, .inr none), (3, .inl (0, .ofNat 5))]),
    (2, none, (2, [(1, .ofNat 0, .ofNat 8)], [(2940955, .inl (1, .ofNat 0))], [], [], [9, 12, 13, 14, 15, 16, 17, 18, 21, 22, 23, 24, 25]), [(0, .inr (some (some 359))), (1, .inr none), (3, .inl (0, .ofNat 0))]),
    (1, none, (2, [(1, .ofNat 0, .ofNat 9)], [(2940955, .inl (1, .ofNat 0))], [], [], [9, 12, 13, 14, 15, 16, 17, 18, 21, 22, 23, 24, 25]), [(0, .inr (some (some 359))), (1, .inr none), (3, .inl (0, .negSucc 4))])]), none, none, none, none, none, none, none, none, none, none, none, none]]
set_option maxRecDepth 1000000 in
theorem jxm_c212_ok (hX : jc_Xo jxm X) : jc_Con jP jxm X jxm_c212 := jc_mth_ok (Z := (jxm, [], jT, [], jxm_S0, jxm_c212_N, .ofNat 100000)) (f := 100000) jxm_ok hX jT_ok jc_c0 (by decide +kernel)
-- printsWord10
def jxm_c213 : jc_Cn := (292, 1, [.inr (some (some 359)), .inr none], (2, [(1, .ofNat 0, .ofNat 10)], [(2940955, .inl (1, .ofNat 0))], [], [], [9, 12, 13, 14, 15, 16, 17, 18, 21, 22, 23, 24, 25]), [(371, 0, 1400), (359, 27, 28)], [((2, [(1, .ofNat 0, .ofNat 19)], [(2940955, .inl (1, .ofNat 0))], [], [], [9, 12, 13, 14, 15, 16, 17, 18, 21, 22, 23, 24, 25]), none)])
def jxm_c213_N : jc_Nt := [some [none, none, none, some ([(10, none, (2, [(1, .ofNat 0, .ofNat 10)], [(2940955, .inl (1, .ofNat 0))], [], [], [9, 12, 13, 14, 15, 16, 17, 18, 21, 22, 23, 24, 25]), [(0, .inr (some (some 359))), (1, .inr none), (3, .inl (0, .ofNat 40))]),
    (9, none, (2, [(1, .ofNat 0, .ofNat 11)], [(2940955, .inl (1, .ofNat 0))], [], [], [9, 12, 13, 14, 15, 16, 17, 18, 21, 22, 23, 24, 25]), [(0, .inr (some (some 359))), (1, .inr none), (3, .inl (0, .ofNat 35))]),
    (8, none, (2, [(1, .ofNat 0, .ofNat 12)], [(2940955, .inl (1, .ofNat 0))], [], [], [9, 12, 13, 14, 15, 16, 17, 18, 21, 22, 23, 24, 25]), [(0, .inr (some (some 359))), (1, .inr none), (3, .inl (0, .ofNat 30))]),
    (7, none, (2, [(1, .ofNat 0, .ofNat 13)], [(2940955, .inl (1, .ofNat 0))], [], [], [9, 12, 13, 14, 15, 16, 17, 18, 21, 22, 23, 24, 25]), [(0, .inr (some (some 359))), (1, .inr none), (3, .inl (0, .ofNat 25))]),
    (6, none, (2, [(1, .ofNat 0, .ofNat 14)], [(2940955, .inl (1, .ofNat 0))], [], [], [9, 12, 13, 14, 15, 16, 17, 18, 21, 22, 23, 24, 25]), [(0, .inr (some (some 359))), (1, .inr none), (3, .inl (0, .ofNat 20))]),
    (5, none, (2, [(1, .ofNat 0, .ofNat 15)], [(2940955, .inl (1, .ofNat 0))], [], [], [9, 12, 13, 14, 15, 16, 17, 18, 21, 22, 23, 24, 25]), [(0, .inr (some (some 359))), (1, .inr none), (3, .inl (0, .ofNat 15))]),
    (4, none, (2, [(1, .ofNat 0, .ofNat 16)], [(2940955, .inl (1, .ofNat 0))], [], [], [9, 12, 13, 14, 15, 16, 17, 18, 21, 22, 23, 24, 25]), [(0, .inr (some (some 359))), (1, .inr none), (3, .inl (0, .ofNat 10))]),
    (3, none, (2, [(1, .ofNat 0, .ofNat 17)], [(2940955, .inl (1, .ofNat 0))], [], [], [9, 12, 13, 14, 15, 16, 17, 18, 21, 22, 23, 24, 25]), [(0, .inr (some (some 359))), (1, .inr none), (3, .inl (0, .ofNat 5))]),
    (2, none, (2, [(1, .ofNat 0, .ofNat 18)], [(2940955, .inl (1, .ofNat 0))], [], [], [9, 12, 13, 14, 15, 16, 17, 18, 21, 22, 23, 24, 25]), [(0, .inr (some (some 359))), (1, .inr none), (3, .inl (0, .ofNat 0))]),
    (1, none, (2, [(1, .ofNat 0, .ofNat 19)], [(2940955, .inl (1, .ofNat 0))], [], [], [9, 12, 13, 14, 15, 16, 17, 18, 21, 22, 23, 24, 25]), [(0, .inr (some (some 359))), (1, .inr none), (3, .inl (0, .negSucc 4))])]), none, none, none, none, none, none, none, none, none, none, none, none]]
set_option maxRecDepth 1000000 in
theorem jxm_c213_ok (hX : jc_Xo jxm X) : jc_Con jP jxm X jxm_c213 := jc_mth_ok (Z := (jxm, [], jT, [], jxm_S0, jxm_c213_N, .ofNat 100000)) (f := 100000) jxm_ok hX jT_ok jc_c0 (by decide +kernel)
-- printsWord36
def jxm_c214 : jc_Cn := (292, 1, [.inr (some (some 359)), .inr none], (2, [(1, .ofNat 0, .ofNat 36)], [(2940955, .inl (1, .ofNat 0))], [], [], [9, 12, 13, 14, 15, 16, 17, 18, 21, 22, 23, 24, 25]), [(371, 0, 1400), (359, 27, 28)], [((2, [(1, .ofNat 0, .ofNat 45)], [(2940955, .inl (1, .ofNat 0))], [], [], [9, 12, 13, 14, 15, 16, 17, 18, 21, 22, 23, 24, 25]), none)])
def jxm_c214_N : jc_Nt := [some [none, none, none, some ([(10, none, (2, [(1, .ofNat 0, .ofNat 36)], [(2940955, .inl (1, .ofNat 0))], [], [], [9, 12, 13, 14, 15, 16, 17, 18, 21, 22, 23, 24, 25]), [(0, .inr (some (some 359))), (1, .inr none), (3, .inl (0, .ofNat 40))]),
    (9, none, (2, [(1, .ofNat 0, .ofNat 37)], [(2940955, .inl (1, .ofNat 0))], [], [], [9, 12, 13, 14, 15, 16, 17, 18, 21, 22, 23, 24, 25]), [(0, .inr (some (some 359))), (1, .inr none), (3, .inl (0, .ofNat 35))]),
    (8, none, (2, [(1, .ofNat 0, .ofNat 38)], [(2940955, .inl (1, .ofNat 0))], [], [], [9, 12, 13, 14, 15, 16, 17, 18, 21, 22, 23, 24, 25]), [(0, .inr (some (some 359))), (1, .inr none), (3, .inl (0, .ofNat 30))]),
    (7, none, (2, [(1, .ofNat 0, .ofNat 39)], [(2940955, .inl (1, .ofNat 0))], [], [], [9, 12, 13, 14, 15, 16, 17, 18, 21, 22, 23, 24, 25]), [(0, .inr (some (some 359))), (1, .inr none), (3, .inl (0, .ofNat 25))]),
    (6, none, (2, [(1, .ofNat 0, .ofNat 40)], [(2940955, .inl (1, .ofNat 0))], [], [], [9, 12, 13, 14, 15, 16, 17, 18, 21, 22, 23, 24, 25]), [(0, .inr (some (some 359))), (1, .inr none), (3, .inl (0, .ofNat 20))]),
    (5, none, (2, [(1, .ofNat 0, .ofNat 41)], [(2940955, .inl (1, .ofNat 0))], [], [], [9, 12, 13, 14, 15, 16, 17, 18, 21, 22, 23, 24, 25]), [(0, .inr (some (some 359))), (1, .inr none), (3, .inl (0, .ofNat 15))]),
    (4, none, (2, [(1, .ofNat 0, .ofNat 42)], [(2940955, .inl (1, .ofNat 0))], [], [], [9, 12, 13, 14, 15, 16, 17, 18, 21, 22, 23, 24, 25]), [(0, .inr (some (some 359))), (1, .inr none), (3, .inl (0, .ofNat 10))]),
    (3, none, (2, [(1, .ofNat 0, .ofNat 43)], [(2940955, .inl (1, .ofNat 0))], [], [], [9, 12, 13, 14, 15, 16, 17, 18, 21, 22, 23, 24, 25]), [(0, .inr (some (some 359))), (1, .inr none), (3, .inl (0, .ofNat 5))]),
    (2, none, (2, [(1, .ofNat 0, .ofNat 44)], [(2940955, .inl (1, .ofNat 0))], [], [], [9, 12, 13, 14, 15, 16, 17, 18, 21, 22, 23, 24, 25]), [(0, .inr (some (some 359))), (1, .inr none), (3, .inl (0, .ofNat 0))]),
    (1, none, (2, [(1, .ofNat 0, .ofNat 45)], [(2940955, .inl (1, .ofNat 0))], [], [], [9, 12, 13, 14, 15, 16, 17, 18, 21, 22, 23, 24, 25]), [(0, .inr (some (some 359))), (1, .inr none), (3, .inl (0, .negSucc 4))])]), none, none, none, none, none, none, none, none, none, none, none, none]]
set_option maxRecDepth 1000000 in
theorem jxm_c214_ok (hX : jc_Xo jxm X) : jc_Con jP jxm X jxm_c214 := jc_mth_ok (Z := (jxm, [], jT, [], jxm_S0, jxm_c214_N, .ofNat 100000)) (f := 100000) jxm_ok hX jT_ok jc_c0 (by decide +kernel)
end Jjxm55

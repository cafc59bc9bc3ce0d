/-! contracts of the reference (7); written by wip/jc/e5.py -/
section Jjxm7
variable {X : J_H → Prop}
set_option maxRecDepth 1000000 in
theorem jxm_c16_k56_1 : jc_ndc jxm_c16_Z 100000 jxm_c16 56 jxm_c16_n56_1 = true := by decide +kernel
set_option maxRecDepth 1000000 in
theorem jxm_c16_k56_2 : jc_ndc jxm_c16_Z 100000 jxm_c16 56 jxm_c16_n56_2 = true := by decide +kernel
set_option maxRecDepth 1000000 in
theorem jxm_c16_s : jc_mtg jxm_c16_Z 100000 jxm_c16 = true := by decide +kernel
theorem jxm_c16_h : ∀ pc ns, ja_n2 jxm_c16_N pc = some ns → jc_ndc jxm_c16_Z 100000 jxm_c16 pc ns = true := by
  intro pc ns h
  have hp := jc_inl_ok (ja_ch2_ok (p := fun i (_ : List jc_Nd) => jc_inl i [9, 48, 56]) (L := jxm_c16_N) (by decide +kernel) h)
  simp only [List.mem_cons, List.not_mem_nil, or_false] at hp
  rcases hp with rfl | rfl | rfl
  · exact (Option.some.inj (h.symm.trans (show ja_n2 jxm_c16_N 9 = some jxm_c16_n9_0 from rfl))) ▸ jxm_c16_k9_0
  · exact (Option.some.inj (h.symm.trans (show ja_n2 jxm_c16_N 48 = some jxm_c16_n48_0 from rfl))) ▸ jxm_c16_k48_0
  · exact (Option.some.inj (h.symm.trans (show ja_n2 jxm_c16_N 56 = some (jxm_c16_n56_0 ++ (jxm_c16_n56_1 ++ jxm_c16_n56_2)) from rfl))) ▸ (jc_ndc_app jxm_c16_k56_0 (jc_ndc_app jxm_c16_k56_1 jxm_c16_k56_2))
theorem jxm_c16_ok (hX : jc_Xo jxm X) : jc_Con jP jxm X jxm_c16 := jc_mthc_ok (Z := jxm_c16_Z) (f := 100000) jxm_ok hX jT_ok (jc_c1 (jxm_c1_ok hX) (jc_c1 (jxm_c2_ok hX) (jc_c1 (jxm_c3_ok hX) (jc_c1 (jxm_c4_ok hX) (jc_c1 (jxm_c5_ok hX) (jc_c1 (jxm_c11_ok hX) (jc_c1 (jxm_c12_ok hX) (jc_c1 (jxm_c13_ok hX) (jc_c1 (jxm_c14_ok hX) (jc_c1 (jxm_c15_ok hX) jc_c0)))))))))) jxm_c16_s jxm_c16_h
-- whyNot0
def jxm_c17 : jc_Cn := (214, 8, [.inr (some (some 359)), .inl (0, .ofNat 0)], (2, [(1, .ofNat 1, .ofNat 5)], [(2949323, .inl (1, .ofNat 0))], [], [], [9, 10, 11, 12, 13, 14, 15, 16, 17, 18, 21, 22, 23, 24, 25]), [], [((3, [(1, .ofNat 0, .ofNat 1), (2, .ofNat 1, .ofNat 5)], [(2949182, .inl (1, .ofNat 0)), (2949323, .inl (2, .ofNat 0))], [], [], [9, 10, 11, 12, 13, 14, 15, 16, 17, 18, 21, 22, 23, 24, 25]), some (.inl (0, .ofNat 0))), ((2, [(1, .ofNat 1, .ofNat 5)], [(2949182, .inl (0, .ofNat 3)), (2949323, .inl (1, .ofNat 0))], [], [], [9, 10, 11, 12, 13, 14, 15, 16, 17, 18, 21, 22, 23, 24, 25]), some (.inl (0, .ofNat 1))), ((2, [(1, .ofNat 1, .ofNat 5)], [(2949182, .inl (0, .ofNat 2)), (2949323, .inl (1, .ofNat 0))], [], [], [9, 10, 11, 12, 13, 14, 15, 16, 17, 18, 21, 22, 23, 24, 25]), some (.inl (0, .ofNat 2))), ((3, [(1, .ofNat 0, .ofNat 1), (2, .ofNat 1, .ofNat 5)], [(2949182, .inl (1, .ofNat 0)), (2949323, .inl (2, .ofNat 0))], [], [], [9, 10, 11, 12, 13, 14, 15, 16, 17, 18, 21, 22, 23, 24, 25]), some (.inl (0, .ofNat 3))), ((2, [(1, .ofNat 1, .ofNat 5)], [(2949182, .inl (0, .ofNat 1)), (2949323, .inl (1, .ofNat 0))], [], [], [9, 10, 11, 12, 13, 14, 15, 16, 17, 18, 21, 22, 23, 24, 25]), some (.inl (0, .ofNat 4)))])
def jxm_c17_N : jc_Nt := []
set_option maxRecDepth 1000000 in
theorem jxm_c17_ok (hX : jc_Xo jxm X) : jc_Con jP jxm X jxm_c17 := jc_mth_ok (Z := (jxm, [], jT, [jxm_c8, jxm_c9], jxm_S0, jxm_c17_N, .ofNat 100000)) (f := 100000) jxm_ok hX jT_ok (jc_c1 (jxm_c8_ok hX) (jc_c1 (jxm_c9_ok hX) jc_c0)) (by decide +kernel)
-- whyNot1
def jxm_c18 : jc_Cn := (214, 8, [.inr (some (some 359)), .inl (0, .ofNat 1)], (2, [(1, .ofNat 2, .ofNat 5)], [(2949323, .inl (1, .ofNat 0))], [], [], [9, 10, 11, 12, 13, 14, 15, 16, 17, 18, 21, 22, 23, 24, 25]), [], [((3, [(1, .ofNat 0, .ofNat 1), (2, .ofNat 2, .ofNat 5)], [(2949210, .inl (1, .ofNat 0)), (2949323, .inl (2, .ofNat 0))], [], [], [9, 10, 11, 12, 13, 14, 15, 16, 17, 18, 21, 22, 23, 24, 25]), some (.inl (0, .ofNat 0))), ((2, [(1, .ofNat 2, .ofNat 5)], [(2949210, .inl (0, .ofNat 3)), (2949323, .inl (1, .ofNat 0))], [], [], [9, 10, 11, 12, 13, 14, 15, 16, 17, 18, 21, 22, 23, 24, 25]), some (.inl (0, .ofNat 1))), ((2, [(1, .ofNat 2, .ofNat 5)], [(2949210, .inl (0, .ofNat 2)), (2949323, .inl (1, .ofNat 0))], [], [], [9, 10, 11, 12, 13, 14, 15, 16, 17, 18, 21, 22, 23, 24, 25]), some (.inl (0, .ofNat 2))), ((3, [(1, .ofNat 0, .ofNat 1), (2, .ofNat 2, .ofNat 5)], [(2949210, .inl (1, .ofNat 0)), (2949323, .inl (2, .ofNat 0))], [], [], [9, 10, 11, 12, 13, 14, 15, 16, 17, 18, 21, 22, 23, 24, 25]), some (.inl (0, .ofNat 3))), ((2, [(1, .ofNat 2, .ofNat 5)], [(2949210, .inl (0, .ofNat 1)), (2949323, .inl (1, .ofNat 0))], [], [], [9, 10, 11, 12, 13, 14, 15, 16, 17, 18, 21, 22, 23, 24, 25]), some (.inl (0, .ofNat 4)))])
def jxm_c18_N : jc_Nt := []
set_option maxRecDepth 1000000 in
theorem jxm_c18_ok (hX : jc_Xo jxm X) : jc_Con jP jxm X jxm_c18 := jc_mth_ok (Z := (jxm, [], jT, [jxm_c8, jxm_c9], jxm_S0, jxm_c18_N, .ofNat 100000)) (f := 100000) jxm_ok hX jT_ok (jc_c1 (jxm_c8_ok hX) (jc_c1 (jxm_c9_ok hX) jc_c0)) (by decide +kernel)
-- whyNot2
def jxm_c19 : jc_Cn := (214, 8, [.inr (some (some 359)), .inl (0, .ofNat 2)], (2, [(1, .ofNat 3, .ofNat 5)], [(2949323, .inl (1, .ofNat 0))], [], [], [9, 10, 11, 12, 13, 14, 15, 16, 17, 18, 21, 22, 23, 24, 25]), [], [((3, [(1, .ofNat 0, .ofNat 1), (2, .ofNat 3, .ofNat 5)], [(2949238, .inl (1, .ofNat 0)), (2949323, .inl (2, .ofNat 0))], [], [], [9, 10, 11, 12, 13, 14, 15, 16, 17, 18, 21, 22, 23, 24, 25]), some (.inl (0, .ofNat 0))), ((2, [(1, .ofNat 3, .ofNat 5)], [(2949238, .inl (0, .ofNat 3)), (2949323, .inl (1, .ofNat 0))], [], [], [9, 10, 11, 12, 13, 14, 15, 16, 17, 18, 21, 22, 23, 24, 25]), some (.inl (0, .ofNat 1))), ((2, [(1, .ofNat 3, .ofNat 5)], [(2949238, .inl (0, .ofNat 2)), (2949323, .inl (1, .ofNat 0))], [], [], [9, 10, 11, 12, 13, 14, 15, 16, 17, 18, 21, 22, 23, 24, 25]), some (.inl (0, .ofNat 2))), ((3, [(1, .ofNat 0, .ofNat 1), (2, .ofNat 3, .ofNat 5)], [(2949238, .inl (1, .ofNat 0)), (2949323, .inl (2, .ofNat 0))], [], [], [9, 10, 11, 12, 13, 14, 15, 16, 17, 18, 21, 22, 23, 24, 25]), some (.inl (0, .ofNat 3))), ((2, [(1, .ofNat 3, .ofNat 5)], [(2949238, .inl (0, .ofNat 1)), (2949323, .inl (1, .ofNat 0))], [], [], [9, 10, 11, 12, 13, 14, 15, 16, 17, 18, 21, 22, 23, 24, 25]), some (.inl (0, .ofNat 4)))])
def jxm_c19_N : jc_Nt := []
set_option maxRecDepth 1000000 in
theorem jxm_c19_ok (hX : jc_Xo jxm X) : jc_Con jP jxm X jxm_c19 := jc_mth_ok (Z := (jxm, [], jT, [jxm_c8, jxm_c9], jxm_S0, jxm_c19_N, .ofNat 100000)) (f := 100000) jxm_ok hX jT_ok (jc_c1 (jxm_c8_ok hX) (jc_c1 (jxm_c9_ok hX) jc_c0)) (by decide +kernel)
end Jjxm7

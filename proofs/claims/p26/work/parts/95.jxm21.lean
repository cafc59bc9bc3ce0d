/-! contracts of the reference (21); written by wip/jc/e5.py -/
section Jjxm21
variable {X : J_H → Prop}
set_option maxRecDepth 1000000 in
theorem jxm_c82_s : jc_mtg jxm_c82_Z 100000 jxm_c82 = true := by decide +kernel
theorem jxm_c82_h : ∀ pc ns, ja_n2 jxm_c82_N pc = some ns → jc_ndc jxm_c82_Z 100000 jxm_c82 pc ns = true := by
  intro pc ns h
  have hp := jc_inl_ok (ja_ch2_ok (p := fun i (_ : List jc_Nd) => jc_inl i [184]) (L := jxm_c82_N) (by decide +kernel) h)
  simp only [List.mem_cons, List.not_mem_nil, or_false] at hp
  subst hp
  · exact (Option.some.inj (h.symm.trans (show ja_n2 jxm_c82_N 184 = some jxm_c82_n184_0 from rfl))) ▸ jxm_c82_k184_0
theorem jxm_c82_ok (hX : jc_Xo jxm X) : jc_Con jP jxm X jxm_c82 := jc_mthc_ok (Z := jxm_c82_Z) (f := 100000) jxm_ok hX jT_ok (jc_c1 (jxm_c48_ok hX) (jc_c1 (jxm_c50_ok hX) (jc_c1 (jxm_c68_ok hX) (jc_c1 (jxm_c69_ok hX) (jc_c1 (jxm_c70_ok hX) (jc_c1 (jxm_c71_ok hX) (jc_c1 (jxm_c49_ok hX) (jc_c1 (jxm_c51_ok hX) jc_c0)))))))) jxm_c82_s jxm_c82_h
-- readTrain3
def jxm_c83 : jc_Cn := (197, 5, [.inr (some (some 359))], (1, [], [(2957515, .inl (0, .ofNat 3))], [], [], [8, 10, 11, 12, 13, 14, 15, 16, 17, 18, 19, 21, 22, 23, 24, 25]), [(359, 15, 16), (359, 16, 17), (359, 17, 18), (359, 18, 19), (359, 19, 20), (359, 20, 21), (359, 21, 22), (367, 0, 12), (361, 56, 196), (361, 203, 204)], [((2, [(1, .ofNat 3, .ofNat 4)], [(2957515, .inl (1, .ofNat 0))], [], [], [8, 10, 11, 12, 13, 14, 15, 16, 17, 18, 19, 21, 22, 23, 24, 25]), some (.inl (0, .ofNat 0))), ((1, [], [(2957515, .inl (0, .ofNat 4))], [], [], [8, 10, 11, 12, 13, 14, 15, 16, 17, 18, 19, 21, 22, 23, 24, 25]), some (.inl (0, .ofNat 1)))])
def jxm_c83_n184_0 : List jc_Nd := [(8, none, (1, [], [(2957515, .inl (0, .ofNat 3))], [], [], [8, 10, 11, 12, 13, 14, 15, 16, 18, 19, 21, 22, 23, 24, 25]), [(0, .inr (some (some 359))), (1, .inl (0, .ofNat 3)), (2, .inl (0, .ofNat 0))]),
    (7, none, (1, [], [(2957515, .inl (0, .ofNat 3))], [], [], [8, 10, 11, 12, 13, 14, 15, 16, 18, 19, 21, 22, 23, 24, 25]), [(0, .inr (some (some 359))), (1, .inl (0, .ofNat 3)), (2, .inl (0, .ofNat 1))]),
    (6, none, (1, [], [(2957515, .inl (0, .ofNat 3))], [], [], [8, 10, 11, 12, 13, 14, 15, 16, 18, 19, 21, 22, 23, 24, 25]), [(0, .inr (some (some 359))), (1, .inl (0, .ofNat 3)), (2, .inl (0, .ofNat 2))]),
    (5, none, (1, [], [(2957515, .inl (0, .ofNat 3))], [], [], [8, 10, 11, 12, 13, 14, 15, 16, 18, 19, 21, 22, 23, 24, 25]), [(0, .inr (some (some 359))), (1, .inl (0, .ofNat 3)), (2, .inl (0, .ofNat 3))]),
    (4, none, (1, [], [(2957515, .inl (0, .ofNat 3))], [], [], [8, 10, 11, 12, 13, 14, 15, 16, 18, 19, 21, 22, 23, 24, 25]), [(0, .inr (some (some 359))), (1, .inl (0, .ofNat 3)), (2, .inl (0, .ofNat 4))]),
    (3, none, (1, [], [(2957515, .inl (0, .ofNat 3))], [], [], [8, 10, 11, 12, 13, 14, 15, 16, 18, 19, 21, 22, 23, 24, 25]), [(0, .inr (some (some 359))), (1, .inl (0, .ofNat 3)), (2, .inl (0, .ofNat 5))]),
    (2, none, (1, [], [(2957515, .inl (0, .ofNat 3))], [], [], [8, 10, 11, 12, 13, 14, 15, 16, 18, 19, 21, 22, 23, 24, 25]), [(0, .inr (some (some 359))), (1, .inl (0, .ofNat 3)), (2, .inl (0, .ofNat 6))]),
    (1, none, (1, [], [(2957515, .inl (0, .ofNat 3))], [], [], [8, 10, 11, 12, 13, 14, 15, 16, 18, 19, 21, 22, 23, 24, 25]), [(0, .inr (some (some 359))), (1, .inl (0, .ofNat 3)), (2, .inl (0, .ofNat 7))])]
def jxm_c83_N : jc_Nt := [none,
  none,
  none,
  none,
  none,
  none,
  none,
  none,
  none,
  none,
  none,
  some [none, none, none, none, none, none, none, none, some (jxm_c83_n184_0), none, none, none, none, none, none, none]]
noncomputable def jxm_c83_Z : jc_Ce := (jxm, [], jT, [jxm_c48, jxm_c50, jxm_c72, jxm_c73, jxm_c74, jxm_c75, jxm_c49, jxm_c51], jxm_S14, jxm_c83_N, .ofNat 100000)
set_option maxRecDepth 1000000 in
theorem jxm_c83_k184_0 : jc_ndc jxm_c83_Z 100000 jxm_c83 184 jxm_c83_n184_0 = true := by decide +kernel
end Jjxm21

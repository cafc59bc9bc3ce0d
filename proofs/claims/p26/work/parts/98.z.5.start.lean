/-! the start: written by wip/py/gen_zr.py -/
theorem la_gz (i : Nat) : gN (List.replicate 602 0) i = 0 := by
  unfold gN
  rw [List.getD_eq_getElem?_getD, List.getElem?_replicate]
  split <;> rfl
theorem la_gr {n i : Nat} {x : Int32} (h : i < n) : gN (List.replicate n x) i = x := by
  unfold gN
  rw [List.getD_eq_getElem?_getD, List.getElem?_replicate, if_pos h]
  rfl
theorem la_ex (i : Nat) : fs (List.replicate 602 0) i 1 = nI (mN (List.replicate 602 0) i) ∧ mN (List.replicate 602 0) i = 0 := by
  unfold mN fs
  rw [la_gz]
  exact ⟨rfl, rfl⟩
theorem la_w0f : wf 0 0 (List.replicate 602 0) := ⟨⟨List.length_replicate, la_gz _, by decide, la_gz _, by decide⟩, fun s hs => ⟨(la_ex s).1, by rw [(la_ex s).2]; decide, fun k hk => Or.inl (la_gz _)⟩, fun t ht => absurd ht (by omega), ⟨fun t u ht => absurd ht (by omega), fun t u ht => absurd ht (by omega)⟩, ⟨fun t ht => absurd ht (by omega), fun t ht => absurd ht (by omega), fun j k hj => absurd hj (by omega)⟩, ⟨la_gz _, fun k hk => la_gz _⟩, ⟨0, by decide, la_gz _, fun t ht => absurd ht (by omega)⟩, fun k hk h0 => absurd h0 (by omega)⟩
theorem la_w0G (D : Nat) : wG 0 0 D (List.replicate 602 0) (List.replicate 602 0) := ⟨stA.rf _ _, fun t ht => absurd ht (by omega), fun t ht => absurd ht (by omega), 0, by decide, ⟨la_gz _, fun t ht => absurd ht (by omega)⟩, ⟨fun s h1 hs => absurd hs (by omega), fun t ht => absurd ht (by omega)⟩, fun t q ht hq => ⟨by rw [la_gz, la_gz], fun c hc z => absurd z (by rw [la_gz, tb_0]; decide)⟩⟩
theorem la_rV0 : rV 0 0 (List.replicate 602 0) 0 0 (List.replicate 5 0) (List.replicate 5 0) (List.replicate 5 0) (List.replicate 12 0) 1 (List.replicate 5 0) (List.replicate 5 0) 0 (List.replicate 5 0) (List.replicate 5 (-1)) (List.replicate 5 (-1)) (List.replicate 5 (-1)) (List.replicate 6 (-1)) (List.replicate 35 (-1)) (List.replicate 35 (-1)) (List.replicate 260 0) 0 (List.replicate 6 0) (List.replicate 30 0) 0 (List.replicate 6 0) (List.replicate 25 (-1)) (List.replicate 25 (-1)) (List.replicate 25 0) (List.replicate 7 0) (List.replicate 5 0) := by
  refine ⟨la_w0f, ⟨⟨⟨List.length_replicate, List.length_replicate, List.length_replicate⟩, fun t ht => absurd ht (by omega)⟩, fun c hc => ⟨fun z => absurd z (by rw [tb_0]; decide), fun z => ?_⟩, ⟨List.length_replicate, fun k hk => la_gr hk⟩, ⟨List.length_replicate, fun t ht => absurd ht (by omega)⟩, ⟨⟨List.length_replicate, List.length_replicate⟩, fun t s ht => absurd ht (by omega)⟩, fun t ht => absurd ht (by omega), Or.inr ⟨⟨List.length_replicate, List.length_replicate, List.length_replicate⟩, ⟨0, by decide, la_gz _, rfl, fun t ht => absurd ht (by omega)⟩, fun k hk => ⟨0, by decide, la_gz _, la_gr hk, fun t ht => absurd ht (by omega)⟩⟩⟩, ⟨(la_gz _).symm, fun t ht => absurd ht (by omega), fun t ht => absurd ht (by omega), (la_gz _).symm, fun i hi => absurd hi (by rw [show nV 0 = 0 by decide]; omega)⟩, fun s k hs hk => ⟨fun z => absurd z (by rw [tb_0]; decide), fun z => ?_⟩, ⟨List.length_replicate, fun k hk => (la_gr hk).trans (la_gz _).symm⟩, Or.inr ⟨⟨List.length_replicate, List.length_replicate, List.length_replicate, List.length_replicate, List.length_replicate⟩, fun k hk h0 => absurd h0 (by omega), fun s hs => (la_gr hs).trans (la_gz _).symm, fun t ht => absurd ht (by omega)⟩, fun t ht => absurd ht (by omega), List.length_replicate, List.length_replicate⟩
  · obtain ⟨t, ht, -⟩ := z
    exact absurd ht (by omega)
  · rw [show fs (List.replicate 602 0) s (5 + k) = 0 from la_gz _] at z
    exact absurd z (by decide)
set_option maxRecDepth 1000000 in
theorem la_c0 : la_h9[0]? = some (.inl (9, [.ref 1, .ref 3, .ref 4, .ref 29, .ref 281, .ref 325, .ref 327, .ref 343, .int 0])) := by decide +kernel
set_option maxRecDepth 1000000 in
theorem la_cS : hSc 4 la_h9 (.ref 327) 0 0 0 0 0 0 1 (List.replicate 5 0) (List.replicate 5 0) (List.replicate 5 0) (List.replicate 5 (-1)) (List.replicate 5 (-1)) (List.replicate 5 (-1)) (List.replicate 5 0) (List.replicate 6 (-1)) (List.replicate 6 0) (List.replicate 35 (-1)) (List.replicate 35 (-1)) (List.replicate 12 0) (List.replicate 5 0) (List.replicate 5 0) (List.replicate 25 (-1)) (List.replicate 25 (-1)) (List.replicate 25 0) (List.replicate 7 0) (List.replicate 5 0) (List.replicate 6 0) (List.replicate 30 0) (List.replicate 260 0) := ⟨by decide +kernel, by decide +kernel, by decide +kernel, by decide +kernel, by decide +kernel, by decide +kernel, by decide +kernel, by decide +kernel, by decide +kernel, by decide +kernel, by decide +kernel, by decide +kernel, by decide +kernel, by decide +kernel, by decide +kernel, by decide +kernel, by decide +kernel, by decide +kernel, by decide +kernel, by decide +kernel, by decide +kernel, by decide +kernel, by decide +kernel, by decide +kernel, by decide +kernel⟩
set_option maxRecDepth 1000000 in
theorem la_cY : hYc 327 la_h9 (nI 0) (nI 0) 0 (List.replicate 7 0) (List.replicate 7 0) (List.replicate 21 0) (List.replicate 5 0) (List.replicate 5 0) (List.replicate 5 0) (List.replicate 5 0) (List.replicate 5 0) (List.replicate 5 0) (List.replicate 5 0) (List.replicate 35 0) (List.replicate 30 0) (List.replicate 5 0) := ⟨by decide +kernel, by decide +kernel, by decide +kernel, by decide +kernel, by decide +kernel, by decide +kernel, by decide +kernel, by decide +kernel, by decide +kernel, by decide +kernel, by decide +kernel, by decide +kernel, by decide +kernel, by decide +kernel⟩
set_option maxRecDepth 1000000 in
theorem la_cA : la_h9[29]? = some (.inl (0, [.ref 30, .int (nI 0), .int (nI 0)])) ∧ la_h9[30]? = some (.inr (.inr (.inr [some 31, some 56, some 81, some 106, some 131, some 156, some 181, some 206, some 231, some 256]))) := ⟨by decide +kernel, by decide +kernel⟩
set_option maxRecDepth 1000000 in
theorem la_cM : la_h9[360]? = some (.inr (.inl (0, (List.replicate 602 0)))) ∧ jc_at la_h9 359 10 = some (.int 0) ∧ jc_at la_h9 359 13 = some (.int 0) := by decide +kernel
theorem la_M0 : hM9 (List.replicate 602 0) (List.replicate 6020 0) 0 (nI 0) la_h9 := by
  obtain ⟨x9, x11, x12, x14, x15, x16, x17, x18, x19, x20, om, x21, th, sst, acs, tm, w, sd, ot, kp, tk, od, be, C, l⟩ := la_sm IM_0
  obtain ⟨h1, h3, h4⟩ := la_cM
  have h2 := i_h364
  rw [C.2.1] at h1
  rw [C.2.2.2.2.1] at h2
  rw [jc_at_of C.1] at h3 h4
  have h3 : some (Value.int sst) = some (.int 0) := h3
  have h4 : some (Value.int acs) = some (.int 0) := h4
  cases h1
  cases h2
  cases h3
  cases h4
  exact ⟨_, th, tm, sd, ot, tk, od, be, C, l.2.1, l.2.2.1⟩
theorem la_R0 : la_R 0 la_h9 := ⟨327, 343, 0, 0, 0, 0, (List.replicate 602 0), (List.replicate 602 0), List.replicate 6020 0, 0, Or.inl ⟨rfl, rfl⟩, ⟨⟨la_c0, ⟨0, 0, 0, 0, 0, 0, (List.replicate 5 0), (List.replicate 5 0), (List.replicate 5 0), (List.replicate 5 (-1)), (List.replicate 5 (-1)), (List.replicate 5 (-1)), (List.replicate 5 0), (List.replicate 6 (-1)), (List.replicate 6 0), (List.replicate 35 (-1)), (List.replicate 35 (-1)), (List.replicate 12 0), (List.replicate 5 0), (List.replicate 5 0), (List.replicate 25 (-1)), (List.replicate 25 (-1)), (List.replicate 25 0), (List.replicate 7 0), (List.replicate 5 0), (List.replicate 6 0), (List.replicate 30 0), (List.replicate 260 0), la_cS, ⟨List.length_replicate, List.length_replicate, List.length_replicate, List.length_replicate⟩, la_rV0⟩, 0, (List.replicate 7 0), (List.replicate 7 0), (List.replicate 21 0), (List.replicate 5 0), (List.replicate 5 0), (List.replicate 5 0), (List.replicate 5 0), (List.replicate 5 0), (List.replicate 5 0), (List.replicate 5 0), (List.replicate 35 0), (List.replicate 30 0), (List.replicate 5 0), la_cY, ⟨fun s hs => absurd hs (by omega), fun t ht => absurd ht (by omega), fun c hc => ⟨fun z => absurd z (by rw [tb_0]; decide), fun z => absurd z.2.1 (by omega)⟩, fun t ht => absurd ht (by omega), fun t s ht => absurd ht (by omega), fun t k ht => absurd ht (by omega), fun t ht => absurd ht (by omega)⟩, ⟨fun t ht => absurd ht (by omega), fun t ht => absurd ht (by omega)⟩, ⟨List.length_replicate, List.length_replicate, List.length_replicate, List.length_replicate, List.length_replicate, List.length_replicate, List.length_replicate, List.length_replicate, List.length_replicate, List.length_replicate, List.length_replicate, List.length_replicate, List.length_replicate⟩⟩, ⟨la_cA.1, la_cA.2, by decide, by decide, fun i hi => absurd hi (by omega), la_sb IC_0⟩, la_M0, List.length_replicate, la_w0G _, fun i hi => absurd hi (by omega)⟩⟩
theorem la_I0 : la_I 0 la_h9 := ⟨⟨0, ⟨⟨⟨IC_0, IM_0⟩, i_h29.2.2.1, i_h29.2.2.2⟩, by decide, j_same.rf, ⟨_, _, la_h2, la_h365, List.length_replicate, List.length_replicate, fun i hi => absurd hi (by omega)⟩, by decide +kernel, by decide +kernel⟩⟩, la_R0⟩

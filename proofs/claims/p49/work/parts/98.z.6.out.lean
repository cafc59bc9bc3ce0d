/-! the reference's out and thrown, by turns: written by wip/p49/gen_o49.py -/
theorem la_r_out2 (x1 : Int32) {t : Nat} {h : J_H} (H : la_I t h) {n : Int32} {b2 : List Int32} (c27 : jc_at h 359 27 = some (.int n)) (c371 : h[371]? = some (.inr (.inl (1, b2)))) : j_W jP 15 297 0 (lv_args 0 [.ref 359, .int x1]) [] h (fun rv h' => (∃ v, rv = some (.int v) ∧ (¬ x1 < 0 ∧ x1 < n → v = gA b2 x1)) ∧ jc_at h' 359 0 = some (.int (if x1 < 0 ∨ ¬ x1 < n then 1 else 0)) ∧ (∀ a, a ≠ 359 → h'[a]? = h[a]?) ∧ j_same h h' ∧ la_I (t + 1) h') := by
  have H0 := H
  obtain ⟨⟨k, H1⟩, -⟩ := H
  obtain ⟨x9, x11, x12, x14, x15, x16, x17, x18, x19, x20, om, x21, th, sst, acs, tm, w, sd, ot, kp, tk, od, be, C, l⟩ := la_sm H1.1.1.2
  have en : om = n := by
    rw [jc_at_of C.1] at c27
    have c27 : some (Value.int om) = some (.int n) := c27
    injection c27 with c27
    injection c27
  subst en
  have K0 : kA h [(359, .inl (10, [.int th, .ref 360, .ref 361, .ref 362, .ref 363, .ref 364, .ref 365, .ref 366, .ref 367, (laU x9 x11 x12 x14 x15 x16 x17 x18 x19 x20 om x21 9), .int sst, (laU x9 x11 x12 x14 x15 x16 x17 x18 x19 x20 om x21 11), (laU x9 x11 x12 x14 x15 x16 x17 x18 x19 x20 om x21 12), .int acs, (laU x9 x11 x12 x14 x15 x16 x17 x18 x19 x20 om x21 14), (laU x9 x11 x12 x14 x15 x16 x17 x18 x19 x20 om x21 15), (laU x9 x11 x12 x14 x15 x16 x17 x18 x19 x20 om x21 16), (laU x9 x11 x12 x14 x15 x16 x17 x18 x19 x20 om x21 17), (laU x9 x11 x12 x14 x15 x16 x17 x18 x19 x20 om x21 18), (laU x9 x11 x12 x14 x15 x16 x17 x18 x19 x20 om x21 19), (laU x9 x11 x12 x14 x15 x16 x17 x18 x19 x20 om x21 20), (laU x9 x11 x12 x14 x15 x16 x17 x18 x19 x20 om x21 21), .ref 368, .int tm, .ref 369, .ref 370, .ref 371, .int om])), (371, .inr (.inl (1, b2)))] := ⟨C.1, c371, trivial⟩
  refine j_W.mono (j_W.andV (la_r_out x1 H0) (mO_ok x1 K0.K)) ?_
  rintro rv h' ⟨⟨-, s, I⟩, v, e, hv, K⟩
  exact ⟨⟨v, e, hv⟩, by rw [jc_at_of (K.at rfl)]; rfl, fun a ha => KN.off K0 K (lkn (fun z => ha z.symm) (lke rfl)), s, I⟩
theorem la_r_thr {t : Nat} {h : J_H} (H : la_I t h) {x : Int32} (c0 : jc_at h 359 0 = some (.int x)) : j_W jP 15 300 0 (lv_args 0 [.ref 359]) [] h (fun rv h' => rv = some (.int x) ∧ h' = h) := by
  obtain ⟨⟨k, H1⟩, -⟩ := H
  obtain ⟨x9, x11, x12, x14, x15, x16, x17, x18, x19, x20, om, x21, th, sst, acs, tm, w, sd, ot, kp, tk, od, be, C, l⟩ := la_sm H1.1.1.2
  rw [jc_at_of C.1] at c0
  exact mT_ok C.1 c0
/-- the text of both sides at a turn -/
theorem la_I.tx {t : Nat} {h : J_H} (H : la_I t h) : ∃ T b b2 : List Int32, (h[326]? = some (.inr (.inl (1, b))) ∧ h[371]? = some (.inr (.inl (1, b2)))) ∧ (jc_at h 325 1 = some (.int (nI T.length)) ∧ jc_at h 359 27 = some (.int (nI T.length))) ∧ T.length ≤ 588 ∧ ∀ i, i < T.length → gN b i = gN b2 i := by
  obtain ⟨-, L, L', n, S, a, e, w0, w, kp, sst, hL, R, sn, tn, nm, T, b, b2, -, c1, c2, ⟨t1, t2, t3⟩, -⟩ := H
  exact ⟨T, b, b2, c1, c2, t3, fun i hi => (t1.2 i hi).trans (t2.2 i hi).symm⟩

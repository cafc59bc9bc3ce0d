/-! joint calls: through, plan, burden, go, rank, undo, status: written by wip/py/gen_hH.py -/
/-- what the reference's burden leaves, told of the heap -/
theorem gm_burd {h : J_H} {n S d : Nat} {u : Nat → Value} {th sst acs tm : Int32} {w sd ot kp tk od be : List Int32} (H : wf n S w) (R : hMc h u th sst acs tm w sd ot kp tk od be) (hsd : sd.length = 602) (hot : ot.length = 602) (x1 : Int32) : j_V jP d 276 0 (lv_args 0 [.ref 359, .int x1]) [] h (fun rv h' => (∃ v, rv = some (.int v)) ∧ hM9 w kp (if n = 0 then 5 else 0 : Int32) acs h' ∧ ∀ a, ¬ (359 ≤ a ∧ a < 371) → h'[a]? = h[a]?) := by
  obtain ⟨c0, c1, c2, c3, c4, c5, c6, c7⟩ := R
  have K0 : kA h [(359, .inl (10, [.int th, .ref 360, .ref 361, .ref 362, .ref 363, .ref 364, .ref 365, .ref 366, .ref 367, u 9, .int sst, u 11, u 12, .int acs, u 14, u 15, u 16, u 17, u 18, u 19, u 20, u 21, .ref 368, .int tm, .ref 369, .ref 370, .ref 371, u 27])), (360, .inr (.inl (0, w))), (362, .inr (.inl (0, sd))), (363, .inr (.inl (0, ot))), (368, .inr (.inl (0, tk)))] := ⟨c0, c1, c2, c3, c5, trivial⟩
  refine j_V.mono (jv9_int mbu_M rfl (mbu_ok H.n5 H.gn H.len hsd K0.K)) ?_
  rintro rv h' ⟨⟨th', tm', sd', ot', tk', ⟨q1, q2, q3⟩, K⟩, hv⟩
  have F : ∀ a, a ≠ 359 → a ≠ 360 → a ≠ 362 → a ≠ 363 → a ≠ 368 → h'[a]? = h[a]? := fun a e0 e1 e2 e3 e8 => K.2.1 a (by
    unfold jk_lk jk_lk jk_lk jk_lk jk_lk jk_lk
    rw [jc_nbeq (fun q => e0 q.symm), jc_nbeq (fun q => e1 q.symm), jc_nbeq (fun q => e2 q.symm), jc_nbeq (fun q => e3 q.symm), jc_nbeq (fun q => e8 q.symm)])
  exact ⟨hv, ⟨u, th', tm', sd', ot', tk', od, be, ⟨K.at (a := 359) rfl, K.at (a := 360) rfl, K.at (a := 362) rfl, K.at (a := 363) rfl, (F 364 (by decide) (by decide) (by decide) (by decide) (by decide)).trans c4, K.at (a := 368) rfl, (F 369 (by decide) (by decide) (by decide) (by decide) (by decide)).trans c6, (F 370 (by decide) (by decide) (by decide) (by decide) (by decide)).trans c7⟩, q1, q2.trans hot⟩, fun a ha => F a (by omega) (by omega) (by omega) (by omega) (by omega)⟩
theorem hj_status_A {h : J_H} {n S a e D d : Nat} {w0 w kp : List Int32} {sst : Int32} (R : hR 327 343 n S a e D w0 w kp sst h) (hD : 2000 ≤ D) (hb : D < 2 ^ 29) : hJ 112 168 [] d h (fun h2 => ∃ st, hR 327 343 n S a e D w0 w kp st h2) := by
  obtain ⟨u, th, tm, sd, ot, tk, od, be, MC, l1, l2⟩ := R.2.2.1
  obtain ⟨-, WC, WW, m, hm, X⟩ := R.2.2.2.2.1
  have K0 : kA h [(0, .inl (9, [.ref 1, .ref 3, .ref 4, .ref 29, .ref 281, .ref 325, .ref 327, .ref 343, .int sst]))] := ⟨R.1.1, trivial⟩
  refine j_V.mono (xa52_ok K0.K) ?_
  rintro rv h1 ⟨rfl, rfl⟩
  refine ⟨_, rfl, fun d' => ?_⟩
  refine j_V.mono (gm_status (n := n) (S := S) MC l1 l2) ?_
  rintro rv2 h2 ⟨e9, M, F2⟩
  exact ⟨e9, _, R.q R.1 (fun y _ _ => rfl) M F2⟩
theorem hj_through_A {h : J_H} {n S a e D d : Nat} {w0 w kp : List Int32} {sst : Int32} (R : hR 327 343 n S a e D w0 w kp sst h) (hD : 2000 ≤ D) (hb : D < 2 ^ 29) (T368 : ∃ l : List Int32, h[368]? = some (.inr (.inl (0, l))) ∧ l.length = 5) (x1 : Int32) : hJ 122 248 [.int x1] d h (fun h2 => ∃ st, hR 327 343 n S a e D w0 w kp st h2) := by
  obtain ⟨u, th, tm, sd, ot, tk, od, be, MC, l1, l2⟩ := R.2.2.1
  obtain ⟨-, WC, WW, m, hm, X⟩ := R.2.2.2.2.1
  have ltk : tk.length = 5 := by
    obtain ⟨z, z1, z2⟩ := T368
    rw [MC.2.2.2.2.2.1] at z1
    cases z1
    exact z2
  refine j_V.mono (ga_through_A (th := th) (sst' := sst) (tk := tk) (m := m) (D := D) (acs := nI a) (acne := nI e) R.1 ltk x1) ?_
  rintro rv h1 ⟨v, st, e1, ⟨rfl, rfl⟩, X1, F1⟩
  refine ⟨_, e1, fun d' => ?_⟩
  refine j_V.mono (gm_through (n := n) (S := S) R.wf (MC.fr (fun y h1 h2 => F1 y (by omega))) l1 l2 x1) ?_
  rintro rv2 h2 ⟨e9, M, F2⟩
  exact ⟨e9, _, R.q X1 (fun y g1 g2 => F1 y (by omega)) M F2⟩
theorem hj_plan_A {h : J_H} {n S a e D d : Nat} {w0 w kp : List Int32} {sst : Int32} (R : hR 327 343 n S a e D w0 w kp sst h) (hD : 2000 ≤ D) (hb : D < 2 ^ 29) (Q : hT9 282 0 h) (C281 : h[281]? = some (.inl (1, [.ref 282, .ref 307, .ref 323, .ref 324]))) (T369 : ∃ l : List Int32, h[369]? = some (.inr (.inl (0, l))) ∧ l.length = 5) (T370 : ∃ l : List Int32, h[370]? = some (.inr (.inl (0, l))) ∧ l.length = 5) (T323 : ∃ l : List Int32, h[323]? = some (.inr (.inl (0, l))) ∧ l.length = 5) (T324 : ∃ l : List Int32, h[324]? = some (.inr (.inl (0, l))) ∧ l.length = 5) (x1 : Int32) : hJ 141 268 [.int x1] d h (fun h2 => ∃ st, hR 327 343 n S a e D w0 w kp st h2) := by
  obtain ⟨u, th, tm, sd, ot, tk, od, be, MC, l1, l2⟩ := R.2.2.1
  obtain ⟨-, WC, WW, m, hm, X⟩ := R.2.2.2.2.1
  have lod : od.length = 5 := by
    obtain ⟨z, z1, z2⟩ := T369
    rw [MC.2.2.2.2.2.2.1] at z1
    cases z1
    exact z2
  have lbe : be.length = 5 := by
    obtain ⟨z, z1, z2⟩ := T370
    rw [MC.2.2.2.2.2.2.2] at z1
    cases z1
    exact z2
  obtain ⟨o9, C3, lo9⟩ := T323
  obtain ⟨b9, C4, lb9⟩ := T324
  have hp := price_plan X R.wf WW (by omega) (by omega) (by omega)
  obtain ⟨r, hx, hA, hr, hpk, hq⟩ := qplan_A R.wf lod lbe (fun o po => (hp o po).1)
  refine j_V.mono (hq_plan_A x1 R.1 Q C281 X.1.1 (by omega) C3 C4 lo9 lb9 hx hA hr (fun o po => (hp o po).2)) ?_
  rintro rv h1 Y
  refine ⟨_, Y.1, fun d' => ?_⟩
  refine j_V.mono (gm_plan R.wf hpk (MC.fr (fun y h1 h2 => Y.2.2.2 y (by omega) (by omega))) l1 l2 x1) ?_
  rintro rv2 h2 ⟨e9, M, F2⟩
  rw [hq] at e9 M
  exact ⟨e9, _, R.f Y M F2⟩
theorem hj_burden_A {h : J_H} {n S a e D d : Nat} {w0 w kp : List Int32} {sst : Int32} (R : hR 327 343 n S a e D w0 w kp sst h) (hD : 2000 ≤ D) (hb : D < 2 ^ 29) (Q : hT9 282 0 h) (C281 : h[281]? = some (.inl (1, [.ref 282, .ref 307, .ref 323, .ref 324]))) (x1 : Int32) : hJf 146 276 [.int x1] d h (fun h2 => ∃ st, hR 327 343 n S a e D w0 w kp st h2) := by
  obtain ⟨u, th, tm, sd, ot, tk, od, be, MC, l1, l2⟩ := R.2.2.1
  obtain ⟨-, WC, WW, m, hm, X⟩ := R.2.2.2.2.1
  refine j_V.mono (hq_burden_A x1 R.1 Q C281) ?_
  rintro rv h1 ⟨v9, Y⟩
  refine ⟨_, Y.1, fun d' => ?_⟩
  refine j_V.mono (gm_burd R.wf (MC.fr (fun y h1 h2 => Y.2.2.2 y (by omega) (by omega))) l1 l2 x1) ?_
  rintro rv2 h2 ⟨e9, M, F2⟩
  exact ⟨e9, _, R.f Y M F2⟩
theorem hj_go_A {h : J_H} {n S a e D d : Nat} {w0 w kp : List Int32} {sst : Int32} (R : hR 327 343 n S a e D w0 w kp sst h) (hD : 2000 ≤ D) (hb : D < 2 ^ 29) (x1 x2 : Int32) : hJ 149 283 [.int x1, .int x2] d h (fun h2 => ∃ a' e' w' kp' st, hR 327 343 n S a' e' (D + 99) w0 w' kp' st h2) := by
  obtain ⟨u, th, tm, sd, ot, tk, od, be, MC, l1, l2⟩ := R.2.2.1
  obtain ⟨-, WC, WW, m, hm, X⟩ := R.2.2.2.2.1
  refine j_V.mono (hb_go_A (th := th) (sst' := sst) R.1 R.2.1 R.2.2.2.1 R.2.2.2.2.1 R.2.2.2.2.2 X.1.1 (by omega) x1 x2) ?_
  rintro rv h1 B
  have FB := B
  obtain ⟨eb, -, -, -, -, -, -, -, F1⟩ := FB
  refine ⟨_, eb, fun d' => ?_⟩
  refine j_V.mono (gm_go (n := n) (S := S) R.wf (MC.fr (fun y h1 h2 => F1 y (by omega) (by omega) (by omega))) l1 l2 x1 x2) ?_
  rintro rv2 h2 ⟨e9, M, F2⟩
  obtain ⟨a', e', -, R'⟩ := hR.b B M F2 ((R.2.2.2.2.1.go R.wf hD (by omega) th sst (nI a) x1 x2).mono (Nat.le_add_right D 99)) (Nat.le_add_right _ _)
  exact ⟨e9, a', e', _, _, _, R'⟩
theorem hj_rank_A {h : J_H} {n S a e D d : Nat} {w0 w kp : List Int32} {sst : Int32} (R : hR 327 343 n S a e D w0 w kp sst h) (hD : 2000 ≤ D) (hb : D < 2 ^ 29) (C281 : h[281]? = some (.inl (1, [.ref 282, .ref 307, .ref 323, .ref 324]))) (T324 : ∃ l : List Int32, h[324]? = some (.inr (.inl (0, l))) ∧ l.length = 5) (T369 : ∃ l : List Int32, h[369]? = some (.inr (.inl (0, l))) ∧ l.length = 5) (x1 : Int32) : hJ 152 286 [.int x1] d h (fun h2 => ∃ a' e' w' kp' st, hR 327 343 n S a' e' (D + 99) w0 w' kp' st h2) := by
  obtain ⟨u, th, tm, sd, ot, tk, od, be, MC, l1, l2⟩ := R.2.2.1
  obtain ⟨-, WC, WW, m, hm, X⟩ := R.2.2.2.2.1
  have lod : od.length = 5 := by
    obtain ⟨z, z1, z2⟩ := T369
    rw [MC.2.2.2.2.2.2.1] at z1
    cases z1
    exact z2
  obtain ⟨b9, C4, lb9⟩ := T324
  refine j_V.mono (hb_rank_A (th := th) (sst' := sst) R.1 R.2.1 R.2.2.2.1 R.2.2.2.2.1 R.2.2.2.2.2 C281 C4 lb9 lod x1) ?_
  rintro rv h1 B
  have FB := B
  obtain ⟨eb, -, -, -, -, -, -, -, F1⟩ := FB
  refine ⟨_, eb, fun d' => ?_⟩
  refine j_V.mono (gm_rank (n := n) (S := S) R.wf (MC.fr (fun y h1 h2 => F1 y (by omega) (by omega) (by omega))) l1 l2 x1) ?_
  rintro rv2 h2 ⟨e9, M, F2⟩
  obtain ⟨a', e', -, R'⟩ := hR.b B M F2 (R.2.2.2.2.1.rank R.wf th sst (nI a) x1) (Nat.le_add_right _ _)
  exact ⟨e9, a', e', _, _, _, R'⟩
theorem hj_undo_A {h : J_H} {n S a e D d : Nat} {w0 w kp : List Int32} {sst : Int32} (R : hR 327 343 n S a e D w0 w kp sst h) (hD : 2000 ≤ D) (hb : D < 2 ^ 29) : hJ 157 282 [] d h (fun h2 => ∃ a' e' w' kp' st, hR 327 343 n S a' e' (D + 99) w0 w' kp' st h2) := by
  obtain ⟨u, th, tm, sd, ot, tk, od, be, MC, l1, l2⟩ := R.2.2.1
  obtain ⟨-, WC, WW, m, hm, X⟩ := R.2.2.2.2.1
  refine j_V.mono (hb_undo_A (th := th) (sst' := sst) R.1 R.2.1 R.2.2.2.1 R.2.2.2.2.2 R.un) ?_
  rintro rv h1 B
  have FB := B
  obtain ⟨eb, -, -, -, -, -, -, -, F1⟩ := FB
  refine ⟨_, eb, fun d' => ?_⟩
  refine j_V.mono (gm_undo (n := n) (S := S) (MC.fr (fun y h1 h2 => F1 y (by omega) (by omega) (by omega))) l1 l2) ?_
  rintro rv2 h2 ⟨e9, M, F2⟩
  obtain ⟨a', e', -, R'⟩ := hR.b B M F2 ((R.2.2.2.2.1.undo R.2.2.2.2.2 R.2.1.2.2.2.1 R.wf.len th sst).mono (Nat.le_add_right D 99)) (Nat.le_add_right _ _)
  exact ⟨e9, a', e', _, _, _, R'⟩
theorem hj_status_B {h : J_H} {n S a e D d : Nat} {w0 w kp : List Int32} {sst : Int32} (R : hR 343 327 n S a e D w0 w kp sst h) (hD : 2000 ≤ D) (hb : D < 2 ^ 29) : hJ 112 168 [] d h (fun h2 => ∃ st, hR 343 327 n S a e D w0 w kp st h2) := by
  obtain ⟨u, th, tm, sd, ot, tk, od, be, MC, l1, l2⟩ := R.2.2.1
  obtain ⟨-, WC, WW, m, hm, X⟩ := R.2.2.2.2.1
  have K0 : kA h [(0, .inl (9, [.ref 1, .ref 3, .ref 4, .ref 29, .ref 281, .ref 325, .ref 343, .ref 327, .int sst]))] := ⟨R.1.1, trivial⟩
  refine j_V.mono (xb52_ok K0.K) ?_
  rintro rv h1 ⟨rfl, rfl⟩
  refine ⟨_, rfl, fun d' => ?_⟩
  refine j_V.mono (gm_status (n := n) (S := S) MC l1 l2) ?_
  rintro rv2 h2 ⟨e9, M, F2⟩
  exact ⟨e9, _, R.q R.1 (fun y _ _ => rfl) M F2⟩
theorem hj_through_B {h : J_H} {n S a e D d : Nat} {w0 w kp : List Int32} {sst : Int32} (R : hR 343 327 n S a e D w0 w kp sst h) (hD : 2000 ≤ D) (hb : D < 2 ^ 29) (T368 : ∃ l : List Int32, h[368]? = some (.inr (.inl (0, l))) ∧ l.length = 5) (x1 : Int32) : hJ 122 248 [.int x1] d h (fun h2 => ∃ st, hR 343 327 n S a e D w0 w kp st h2) := by
  obtain ⟨u, th, tm, sd, ot, tk, od, be, MC, l1, l2⟩ := R.2.2.1
  obtain ⟨-, WC, WW, m, hm, X⟩ := R.2.2.2.2.1
  have ltk : tk.length = 5 := by
    obtain ⟨z, z1, z2⟩ := T368
    rw [MC.2.2.2.2.2.1] at z1
    cases z1
    exact z2
  refine j_V.mono (ga_through_B (th := th) (sst' := sst) (tk := tk) (m := m) (D := D) (acs := nI a) (acne := nI e) R.1 ltk x1) ?_
  rintro rv h1 ⟨v, st, e1, ⟨rfl, rfl⟩, X1, F1⟩
  refine ⟨_, e1, fun d' => ?_⟩
  refine j_V.mono (gm_through (n := n) (S := S) R.wf (MC.fr (fun y h1 h2 => F1 y (by omega))) l1 l2 x1) ?_
  rintro rv2 h2 ⟨e9, M, F2⟩
  exact ⟨e9, _, R.q X1 (fun y g1 g2 => F1 y (by omega)) M F2⟩
theorem hj_plan_B {h : J_H} {n S a e D d : Nat} {w0 w kp : List Int32} {sst : Int32} (R : hR 343 327 n S a e D w0 w kp sst h) (hD : 2000 ≤ D) (hb : D < 2 ^ 29) (Q : hT9 282 0 h) (C281 : h[281]? = some (.inl (1, [.ref 282, .ref 307, .ref 323, .ref 324]))) (T369 : ∃ l : List Int32, h[369]? = some (.inr (.inl (0, l))) ∧ l.length = 5) (T370 : ∃ l : List Int32, h[370]? = some (.inr (.inl (0, l))) ∧ l.length = 5) (T323 : ∃ l : List Int32, h[323]? = some (.inr (.inl (0, l))) ∧ l.length = 5) (T324 : ∃ l : List Int32, h[324]? = some (.inr (.inl (0, l))) ∧ l.length = 5) (x1 : Int32) : hJ 141 268 [.int x1] d h (fun h2 => ∃ st, hR 343 327 n S a e D w0 w kp st h2) := by
  obtain ⟨u, th, tm, sd, ot, tk, od, be, MC, l1, l2⟩ := R.2.2.1
  obtain ⟨-, WC, WW, m, hm, X⟩ := R.2.2.2.2.1
  have lod : od.length = 5 := by
    obtain ⟨z, z1, z2⟩ := T369
    rw [MC.2.2.2.2.2.2.1] at z1
    cases z1
    exact z2
  have lbe : be.length = 5 := by
    obtain ⟨z, z1, z2⟩ := T370
    rw [MC.2.2.2.2.2.2.2] at z1
    cases z1
    exact z2
  obtain ⟨o9, C3, lo9⟩ := T323
  obtain ⟨b9, C4, lb9⟩ := T324
  have hp := price_plan X R.wf WW (by omega) (by omega) (by omega)
  obtain ⟨r, hx, hA, hr, hpk, hq⟩ := qplan_A R.wf lod lbe (fun o po => (hp o po).1)
  refine j_V.mono (hq_plan_B x1 R.1 Q C281 X.1.1 (by omega) C3 C4 lo9 lb9 hx hA hr (fun o po => (hp o po).2)) ?_
  rintro rv h1 Y
  refine ⟨_, Y.1, fun d' => ?_⟩
  refine j_V.mono (gm_plan R.wf hpk (MC.fr (fun y h1 h2 => Y.2.2.2 y (by omega) (by omega))) l1 l2 x1) ?_
  rintro rv2 h2 ⟨e9, M, F2⟩
  rw [hq] at e9 M
  exact ⟨e9, _, R.f Y M F2⟩
theorem hj_burden_B {h : J_H} {n S a e D d : Nat} {w0 w kp : List Int32} {sst : Int32} (R : hR 343 327 n S a e D w0 w kp sst h) (hD : 2000 ≤ D) (hb : D < 2 ^ 29) (Q : hT9 282 0 h) (C281 : h[281]? = some (.inl (1, [.ref 282, .ref 307, .ref 323, .ref 324]))) (x1 : Int32) : hJf 146 276 [.int x1] d h (fun h2 => ∃ st, hR 343 327 n S a e D w0 w kp st h2) := by
  obtain ⟨u, th, tm, sd, ot, tk, od, be, MC, l1, l2⟩ := R.2.2.1
  obtain ⟨-, WC, WW, m, hm, X⟩ := R.2.2.2.2.1
  refine j_V.mono (hq_burden_B x1 R.1 Q C281) ?_
  rintro rv h1 ⟨v9, Y⟩
  refine ⟨_, Y.1, fun d' => ?_⟩
  refine j_V.mono (gm_burd R.wf (MC.fr (fun y h1 h2 => Y.2.2.2 y (by omega) (by omega))) l1 l2 x1) ?_
  rintro rv2 h2 ⟨e9, M, F2⟩
  exact ⟨e9, _, R.f Y M F2⟩
theorem hj_go_B {h : J_H} {n S a e D d : Nat} {w0 w kp : List Int32} {sst : Int32} (R : hR 343 327 n S a e D w0 w kp sst h) (hD : 2000 ≤ D) (hb : D < 2 ^ 29) (x1 x2 : Int32) : hJ 149 283 [.int x1, .int x2] d h (fun h2 => ∃ a' e' w' kp' st, hR 343 327 n S a' e' (D + 99) w0 w' kp' st h2) := by
  obtain ⟨u, th, tm, sd, ot, tk, od, be, MC, l1, l2⟩ := R.2.2.1
  obtain ⟨-, WC, WW, m, hm, X⟩ := R.2.2.2.2.1
  refine j_V.mono (hb_go_B (th := th) (sst' := sst) R.1 R.2.1 R.2.2.2.1 R.2.2.2.2.1 R.2.2.2.2.2 X.1.1 (by omega) x1 x2) ?_
  rintro rv h1 B
  have FB := B
  obtain ⟨eb, -, -, -, -, -, -, -, F1⟩ := FB
  refine ⟨_, eb, fun d' => ?_⟩
  refine j_V.mono (gm_go (n := n) (S := S) R.wf (MC.fr (fun y h1 h2 => F1 y (by omega) (by omega) (by omega))) l1 l2 x1 x2) ?_
  rintro rv2 h2 ⟨e9, M, F2⟩
  obtain ⟨a', e', -, R'⟩ := hR.b B M F2 ((R.2.2.2.2.1.go R.wf hD (by omega) th sst (nI a) x1 x2).mono (Nat.le_add_right D 99)) (Nat.le_add_right _ _)
  exact ⟨e9, a', e', _, _, _, R'⟩
theorem hj_rank_B {h : J_H} {n S a e D d : Nat} {w0 w kp : List Int32} {sst : Int32} (R : hR 343 327 n S a e D w0 w kp sst h) (hD : 2000 ≤ D) (hb : D < 2 ^ 29) (C281 : h[281]? = some (.inl (1, [.ref 282, .ref 307, .ref 323, .ref 324]))) (T324 : ∃ l : List Int32, h[324]? = some (.inr (.inl (0, l))) ∧ l.length = 5) (T369 : ∃ l : List Int32, h[369]? = some (.inr (.inl (0, l))) ∧ l.length = 5) (x1 : Int32) : hJ 152 286 [.int x1] d h (fun h2 => ∃ a' e' w' kp' st, hR 343 327 n S a' e' (D + 99) w0 w' kp' st h2) := by
  obtain ⟨u, th, tm, sd, ot, tk, od, be, MC, l1, l2⟩ := R.2.2.1
  obtain ⟨-, WC, WW, m, hm, X⟩ := R.2.2.2.2.1
  have lod : od.length = 5 := by
    obtain ⟨z, z1, z2⟩ := T369
    rw [MC.2.2.2.2.2.2.1] at z1
    cases z1
    exact z2
  obtain ⟨b9, C4, lb9⟩ := T324
  refine j_V.mono (hb_rank_B (th := th) (sst' := sst) R.1 R.2.1 R.2.2.2.1 R.2.2.2.2.1 R.2.2.2.2.2 C281 C4 lb9 lod x1) ?_
  rintro rv h1 B
  have FB := B
  obtain ⟨eb, -, -, -, -, -, -, -, F1⟩ := FB
  refine ⟨_, eb, fun d' => ?_⟩
  refine j_V.mono (gm_rank (n := n) (S := S) R.wf (MC.fr (fun y h1 h2 => F1 y (by omega) (by omega) (by omega))) l1 l2 x1) ?_
  rintro rv2 h2 ⟨e9, M, F2⟩
  obtain ⟨a', e', -, R'⟩ := hR.b B M F2 (R.2.2.2.2.1.rank R.wf th sst (nI a) x1) (Nat.le_add_right _ _)
  exact ⟨e9, a', e', _, _, _, R'⟩
theorem hj_undo_B {h : J_H} {n S a e D d : Nat} {w0 w kp : List Int32} {sst : Int32} (R : hR 343 327 n S a e D w0 w kp sst h) (hD : 2000 ≤ D) (hb : D < 2 ^ 29) : hJ 157 282 [] d h (fun h2 => ∃ a' e' w' kp' st, hR 343 327 n S a' e' (D + 99) w0 w' kp' st h2) := by
  obtain ⟨u, th, tm, sd, ot, tk, od, be, MC, l1, l2⟩ := R.2.2.1
  obtain ⟨-, WC, WW, m, hm, X⟩ := R.2.2.2.2.1
  refine j_V.mono (hb_undo_B (th := th) (sst' := sst) R.1 R.2.1 R.2.2.2.1 R.2.2.2.2.2 R.un) ?_
  rintro rv h1 B
  have FB := B
  obtain ⟨eb, -, -, -, -, -, -, -, F1⟩ := FB
  refine ⟨_, eb, fun d' => ?_⟩
  refine j_V.mono (gm_undo (n := n) (S := S) (MC.fr (fun y h1 h2 => F1 y (by omega) (by omega) (by omega))) l1 l2) ?_
  rintro rv2 h2 ⟨e9, M, F2⟩
  obtain ⟨a', e', -, R'⟩ := hR.b B M F2 ((R.2.2.2.2.1.undo R.2.2.2.2.2 R.2.1.2.2.2.1 R.wf.len th sst).mono (Nat.le_add_right D 99)) (Nat.le_add_right _ _)
  exact ⟨e9, a', e', _, _, _, R'⟩

/-! each question of both, one behind the other: written by wip/px/gen_hF.py -/
/-- both answer, and both stand alike: the answers themselves are free -/
def hJf (mi mi' : Nat) (As : List Value) (d : Nat) (h : J_H) (R' : J_H → Prop) : Prop := j_V jP d mi 0 (lv_args 0 (.ref 0 :: As)) [] h (fun rv h1 => ∃ v, rv = some (.int v) ∧ ∀ d', j_V jP d' mi' 0 (lv_args 0 (.ref 359 :: As)) [] h1 (fun rv2 h2 => (∃ v', rv2 = some (.int v')) ∧ R' h2))
theorem hj_cost_A {h : J_H} {n S a e D d : Nat} {w0 w kp : List Int32} {sst : Int32} (R : hR 327 343 n S a e D w0 w kp sst h) (hD : 2000 ≤ D) (hb : D < 2 ^ 29) (Q : hT9 282 0 h) (C281 : h[281]? = some (.inl (1, [.ref 282, .ref 307, .ref 323, .ref 324]))) (x1 : Int32) (x2 : Int32) : hJ 142 271 [.int x1, .int x2] d h (fun h2 => ∃ st, hR 327 343 n S a e D w0 w kp st h2) := by
  obtain ⟨u, th, tm, sd, ot, tk, od, be, MC, l1, l2⟩ := R.2.2.1
  obtain ⟨-, WC, WW, m, hm, X⟩ := R.2.2.2.2.1
  refine j_V.mono (hq_cost_A (th := th) (sst' := sst) R.1 Q C281 X.1.1 (by omega) x1 x2) ?_
  rintro rv h1 Y
  refine ⟨_, Y.1, fun d' => ?_⟩
  refine j_V.mono (gm_cost R.wf (MC.fr (fun y h1 h2 => Y.2.2.2 y (by omega) (by omega))) l1 l2 x1 x2) ?_
  rintro rv2 h2 ⟨e, M, F2⟩
  exact ⟨e, _, R.f Y M F2⟩
theorem hj_ahead_A {h : J_H} {n S a e D d : Nat} {w0 w kp : List Int32} {sst : Int32} (R : hR 327 343 n S a e D w0 w kp sst h) (hD : 2000 ≤ D) (hb : D < 2 ^ 29) (Q : hT9 282 0 h) (C281 : h[281]? = some (.inl (1, [.ref 282, .ref 307, .ref 323, .ref 324]))) (x1 : Int32) (x2 : Int32) (x3 : Int32) : hJ 138 262 [.int x1, .int x2, .int x3] d h (fun h2 => ∃ st, hR 327 343 n S a e D w0 w kp st h2) := by
  obtain ⟨u, th, tm, sd, ot, tk, od, be, MC, l1, l2⟩ := R.2.2.1
  obtain ⟨-, WC, WW, m, hm, X⟩ := R.2.2.2.2.1
  refine j_V.mono (hq_ahead_A (th := th) (sst' := sst) R.1 Q C281 X.1.1 (by omega) x1 x2 x3) ?_
  rintro rv h1 Y
  refine ⟨_, Y.1, fun d' => ?_⟩
  refine j_V.mono (gm_ahead R.wf (MC.fr (fun y h1 h2 => Y.2.2.2 y (by omega) (by omega))) l1 l2 x1 x2 x3) ?_
  rintro rv2 h2 ⟨e, M, F2⟩
  exact ⟨e, _, R.f Y M F2⟩
theorem hj_ends_A {h : J_H} {n S a e D d : Nat} {w0 w kp : List Int32} {sst : Int32} (R : hR 327 343 n S a e D w0 w kp sst h) (hD : 2000 ≤ D) (hb : D < 2 ^ 29) (Q : hT9 282 0 h) (C281 : h[281]? = some (.inl (1, [.ref 282, .ref 307, .ref 323, .ref 324]))) (x1 : Int32) (x2 : Int32) : hJ 139 264 [.int x1, .int x2] d h (fun h2 => ∃ st, hR 327 343 n S a e D w0 w kp st h2) := by
  obtain ⟨u, th, tm, sd, ot, tk, od, be, MC, l1, l2⟩ := R.2.2.1
  obtain ⟨-, WC, WW, m, hm, X⟩ := R.2.2.2.2.1
  refine j_V.mono (hq_ends_A (th := th) (sst' := sst) R.1 Q C281 X.1.1 (by omega) x1 x2) ?_
  rintro rv h1 Y
  refine ⟨_, Y.1, fun d' => ?_⟩
  refine j_V.mono (gm_ends R.wf (MC.fr (fun y h1 h2 => Y.2.2.2 y (by omega) (by omega))) l1 l2 x1 x2) ?_
  rintro rv2 h2 ⟨e, M, F2⟩
  exact ⟨e, _, R.f Y M F2⟩
theorem hj_when_A {h : J_H} {n S a e D d : Nat} {w0 w kp : List Int32} {sst : Int32} (R : hR 327 343 n S a e D w0 w kp sst h) (hD : 2000 ≤ D) (hb : D < 2 ^ 29) (Q : hT9 282 0 h) (C281 : h[281]? = some (.inl (1, [.ref 282, .ref 307, .ref 323, .ref 324]))) (x1 : Int32) : hJ 140 265 [.int x1] d h (fun h2 => ∃ st, hR 327 343 n S a e D w0 w kp st h2) := by
  obtain ⟨u, th, tm, sd, ot, tk, od, be, MC, l1, l2⟩ := R.2.2.1
  obtain ⟨-, WC, WW, m, hm, X⟩ := R.2.2.2.2.1
  refine j_V.mono (hq_when_A (th := th) (sst' := sst) R.1 Q C281 X.1.1 (by omega) WC x1) ?_
  rintro rv h1 Y
  refine ⟨_, Y.1, fun d' => ?_⟩
  refine j_V.mono (gm_when R.wf (MC.fr (fun y h1 h2 => Y.2.2.2 y (by omega) (by omega))) l1 l2 x1) ?_
  rintro rv2 h2 ⟨e, M, F2⟩
  exact ⟨e, _, R.f Y M F2⟩
theorem hj_swap_A {h : J_H} {n S a e D d : Nat} {w0 w kp : List Int32} {sst : Int32} (R : hR 327 343 n S a e D w0 w kp sst h) (hD : 2000 ≤ D) (hb : D < 2 ^ 29) (Q : hT9 282 0 h) (C281 : h[281]? = some (.inl (1, [.ref 282, .ref 307, .ref 323, .ref 324]))) (x1 : Int32) (x2 : Int32) : hJ 145 273 [.int x1, .int x2] d h (fun h2 => ∃ st, hR 327 343 n S a e D w0 w kp st h2) := by
  obtain ⟨u, th, tm, sd, ot, tk, od, be, MC, l1, l2⟩ := R.2.2.1
  obtain ⟨-, WC, WW, m, hm, X⟩ := R.2.2.2.2.1
  refine j_V.mono (hq_swap_A (th := th) (sst' := sst) R.1 Q C281 X.1.1 (by omega) x1 x2) ?_
  rintro rv h1 Y
  refine ⟨_, Y.1, fun d' => ?_⟩
  refine j_V.mono (gm_swap R.wf (MC.fr (fun y h1 h2 => Y.2.2.2 y (by omega) (by omega))) l1 l2 x1 x2) ?_
  rintro rv2 h2 ⟨e, M, F2⟩
  exact ⟨e, _, R.f Y M F2⟩
theorem hj_loop_A {h : J_H} {n S a e D d : Nat} {w0 w kp : List Int32} {sst : Int32} (R : hR 327 343 n S a e D w0 w kp sst h) (hD : 2000 ≤ D) (hb : D < 2 ^ 29) (Q : hT9 282 0 h) (C281 : h[281]? = some (.inl (1, [.ref 282, .ref 307, .ref 323, .ref 324]))) (Z : hZ9 307 h) (x1 : Int32) (x2 : Int32) : hJ 147 279 [.int x1, .int x2] d h (fun h2 => ∃ st, hR 327 343 n S a e D w0 w kp st h2) := by
  obtain ⟨u, th, tm, sd, ot, tk, od, be, MC, l1, l2⟩ := R.2.2.1
  obtain ⟨-, WC, WW, m, hm, X⟩ := R.2.2.2.2.1
  refine j_V.mono (hq_loop_A (th := th) (sst' := sst) R.1 Q C281 X.1.1 (by omega) Z x1 x2) ?_
  rintro rv h1 Y
  refine ⟨_, Y.1, fun d' => ?_⟩
  refine j_V.mono (gm_loop R.wf (MC.fr (fun y h1 h2 => Y.2.2.2 y (by omega) (by omega))) l1 l2 x1 x2) ?_
  rintro rv2 h2 ⟨e, M, F2⟩
  exact ⟨e, _, R.f Y M F2⟩
theorem hj_build_A {h : J_H} {n S a e D d : Nat} {w0 w kp : List Int32} {sst : Int32} (R : hR 327 343 n S a e D w0 w kp sst h) (hD : 2000 ≤ D) (hb : D < 2 ^ 29) (Q : hT9 282 0 h) (C281 : h[281]? = some (.inl (1, [.ref 282, .ref 307, .ref 323, .ref 324]))) (Z : hZ9 307 h) : hJ 148 280 [] d h (fun h2 => ∃ st, hR 327 343 n S a e D w0 w kp st h2) := by
  obtain ⟨u, th, tm, sd, ot, tk, od, be, MC, l1, l2⟩ := R.2.2.1
  obtain ⟨-, WC, WW, m, hm, X⟩ := R.2.2.2.2.1
  refine j_V.mono (hq_build_A (th := th) (sst' := sst) R.1 Q C281 X.1.1 (by omega) Z (price_build X R.wf WW (by omega) (by omega) (by omega)) ) ?_
  rintro rv h1 Y
  refine ⟨_, Y.1, fun d' => ?_⟩
  refine j_V.mono (gm_build R.wf (MC.fr (fun y h1 h2 => Y.2.2.2 y (by omega) (by omega))) l1 l2 ) ?_
  rintro rv2 h2 ⟨e, M, F2⟩
  exact ⟨e, _, R.f Y M F2⟩
theorem hj_band_A {h : J_H} {n S a e D d : Nat} {w0 w kp : List Int32} {sst : Int32} (R : hR 327 343 n S a e D w0 w kp sst h) (hD : 2000 ≤ D) (hb : D < 2 ^ 29) (Q : hT9 282 0 h) (C281 : h[281]? = some (.inl (1, [.ref 282, .ref 307, .ref 323, .ref 324]))) (x1 : Int32) (x2 : Int32) : hJ 144 277 [.int x1, .int x2] d h (fun h2 => ∃ st, hR 327 343 n S a e D w0 w kp st h2) := by
  obtain ⟨u, th, tm, sd, ot, tk, od, be, MC, l1, l2⟩ := R.2.2.1
  obtain ⟨-, WC, WW, m, hm, X⟩ := R.2.2.2.2.1
  refine j_V.mono (hq_band_A (th := th) (sst' := sst) R.1 Q C281 X.1.1 (by omega) (price_band X R.wf WW (by omega) (by omega) (by omega)) x1 x2) ?_
  rintro rv h1 Y
  refine ⟨_, Y.1, fun d' => ?_⟩
  refine j_V.mono (gm_band R.wf (MC.fr (fun y h1 h2 => Y.2.2.2 y (by omega) (by omega))) l1 l2 x1 x2) ?_
  rintro rv2 h2 ⟨e, M, F2⟩
  exact ⟨e, _, R.f Y M F2⟩
theorem hj_slack_A {h : J_H} {n S a e D d : Nat} {w0 w kp : List Int32} {sst : Int32} (R : hR 327 343 n S a e D w0 w kp sst h) (hD : 2000 ≤ D) (hb : D < 2 ^ 29) (Q : hT9 282 0 h) (C281 : h[281]? = some (.inl (1, [.ref 282, .ref 307, .ref 323, .ref 324]))) (x1 : Int32) : hJf 143 272 [.int x1] d h (fun h2 => ∃ st, hR 327 343 n S a e D w0 w kp st h2) := by
  obtain ⟨u, th, tm, sd, ot, tk, od, be, MC, l1, l2⟩ := R.2.2.1
  obtain ⟨-, WC, WW, m, hm, X⟩ := R.2.2.2.2.1
  refine j_V.mono (hq_slack_A (th := th) (sst' := sst) R.1 Q C281 X.1.1 (by omega) x1) ?_
  rintro rv h1 ⟨v9, Y⟩
  refine ⟨_, Y.1, fun d' => ?_⟩
  refine j_V.mono (gm_slack R.wf (MC.fr (fun y h1 h2 => Y.2.2.2 y (by omega) (by omega))) l1 l2 x1) ?_
  rintro rv2 h2 ⟨e, M, F2⟩
  exact ⟨⟨_, e⟩, _, R.f Y M F2⟩
theorem hj_time_A {h : J_H} {n S a e D d : Nat} {w0 w kp : List Int32} {sst : Int32} (R : hR 327 343 n S a e D w0 w kp sst h) (hD : 2000 ≤ D) (hb : D < 2 ^ 29) (x1 : Int32) (x2 : Int32) (x3 : Int32) : hJ 129 252 [.int x1, .int x2, .int x3] d h (fun h2 => ∃ st, hR 327 343 n S a e D w0 w kp st h2) := by
  obtain ⟨u, th, tm, sd, ot, tk, od, be, MC, l1, l2⟩ := R.2.2.1
  obtain ⟨-, WC, WW, m, hm, X⟩ := R.2.2.2.2.1
  refine j_V.mono (ga_time_A (th := th) (sst' := sst) (m := m) (D := D) (acs := nI a) (tk := tk) (acne := nI e) R.1 X ⟨by omega, by omega⟩ x1 x2 x3) ?_
  rintro rv h1 ⟨v, st, e1, ⟨rfl, rfl⟩, X1, F1⟩
  refine ⟨_, e1, fun d' => ?_⟩
  refine j_V.mono (gm_time (n := n) (S := S) (MC.fr (fun y h1 h2 => F1 y (by omega))) l1 l2 x1 x2 x3) ?_
  rintro rv2 h2 ⟨e, M, F2⟩
  exact ⟨e, _, R.q X1 (fun y g1 g2 => F1 y (by omega)) M F2⟩
theorem hj_section_A {h : J_H} {n S a e D d : Nat} {w0 w kp : List Int32} {sst : Int32} (R : hR 327 343 n S a e D w0 w kp sst h) (hD : 2000 ≤ D) (hb : D < 2 ^ 29) (x1 : Int32) : hJ 128 247 [.int x1] d h (fun h2 => ∃ st, hR 327 343 n S a e D w0 w kp st h2) := by
  obtain ⟨u, th, tm, sd, ot, tk, od, be, MC, l1, l2⟩ := R.2.2.1
  obtain ⟨-, WC, WW, m, hm, X⟩ := R.2.2.2.2.1
  refine j_V.mono (ga_section_A (th := th) (sst' := sst) (m := m) (D := D) (acs := nI a) (tk := tk) (acne := nI e) R.1 X ⟨by omega, by omega⟩ x1) ?_
  rintro rv h1 ⟨v, st, e1, ⟨rfl, rfl⟩, X1, F1⟩
  refine ⟨_, e1, fun d' => ?_⟩
  refine j_V.mono (gm_section (n := n) (S := S) (MC.fr (fun y h1 h2 => F1 y (by omega))) l1 l2 x1) ?_
  rintro rv2 h2 ⟨e, M, F2⟩
  exact ⟨e, _, R.q X1 (fun y g1 g2 => F1 y (by omega)) M F2⟩
theorem hj_use_A {h : J_H} {n S a e D d : Nat} {w0 w kp : List Int32} {sst : Int32} (R : hR 327 343 n S a e D w0 w kp sst h) (hD : 2000 ≤ D) (hb : D < 2 ^ 29) (x1 : Int32) : hJ 135 258 [.int x1] d h (fun h2 => ∃ st, hR 327 343 n S a e D w0 w kp st h2) := by
  obtain ⟨u, th, tm, sd, ot, tk, od, be, MC, l1, l2⟩ := R.2.2.1
  obtain ⟨-, WC, WW, m, hm, X⟩ := R.2.2.2.2.1
  refine j_V.mono (ga_use_A (th := th) (sst' := sst) (m := m) (D := D) (acs := nI a) (tk := tk) (acne := nI e) R.1 X ⟨by omega, by omega⟩ x1) ?_
  rintro rv h1 ⟨v, st, e1, ⟨rfl, rfl⟩, X1, F1⟩
  refine ⟨_, e1, fun d' => ?_⟩
  refine j_V.mono (gm_use (n := n) (S := S) (MC.fr (fun y h1 h2 => F1 y (by omega))) l1 l2 x1) ?_
  rintro rv2 h2 ⟨e, M, F2⟩
  exact ⟨e, _, R.q X1 (fun y g1 g2 => F1 y (by omega)) M F2⟩
theorem hj_waits_A {h : J_H} {n S a e D d : Nat} {w0 w kp : List Int32} {sst : Int32} (R : hR 327 343 n S a e D w0 w kp sst h) (hD : 2000 ≤ D) (hb : D < 2 ^ 29) (x1 : Int32) : hJ 137 260 [.int x1] d h (fun h2 => ∃ st, hR 327 343 n S a e D w0 w kp st h2) := by
  obtain ⟨u, th, tm, sd, ot, tk, od, be, MC, l1, l2⟩ := R.2.2.1
  obtain ⟨-, WC, WW, m, hm, X⟩ := R.2.2.2.2.1
  refine j_V.mono (ga_waits_A (th := th) (sst' := sst) (m := m) (D := D) (acs := nI a) (tk := tk) (acne := nI e) R.1 X ⟨by omega, by omega⟩ x1) ?_
  rintro rv h1 ⟨v, st, e1, ⟨rfl, rfl⟩, X1, F1⟩
  refine ⟨_, e1, fun d' => ?_⟩
  refine j_V.mono (gm_waits (n := n) (S := S) (MC.fr (fun y h1 h2 => F1 y (by omega))) l1 l2 x1) ?_
  rintro rv2 h2 ⟨e, M, F2⟩
  exact ⟨e, _, R.q X1 (fun y g1 g2 => F1 y (by omega)) M F2⟩
theorem hj_stood_A {h : J_H} {n S a e D d : Nat} {w0 w kp : List Int32} {sst : Int32} (R : hR 327 343 n S a e D w0 w kp sst h) (hD : 2000 ≤ D) (hb : D < 2 ^ 29) (x1 : Int32) : hJ 132 255 [.int x1] d h (fun h2 => ∃ st, hR 327 343 n S a e D w0 w kp st h2) := by
  obtain ⟨u, th, tm, sd, ot, tk, od, be, MC, l1, l2⟩ := R.2.2.1
  obtain ⟨-, WC, WW, m, hm, X⟩ := R.2.2.2.2.1
  refine j_V.mono (ga_stood_A (th := th) (sst' := sst) (m := m) (D := D) (acs := nI a) (tk := tk) (acne := nI e) R.1 X ⟨by omega, by omega⟩ x1) ?_
  rintro rv h1 ⟨v, st, e1, ⟨rfl, rfl⟩, X1, F1⟩
  refine ⟨_, e1, fun d' => ?_⟩
  refine j_V.mono (gm_stood (n := n) (S := S) (MC.fr (fun y h1 h2 => F1 y (by omega))) l1 l2 x1) ?_
  rintro rv2 h2 ⟨e, M, F2⟩
  exact ⟨e, _, R.q X1 (fun y g1 g2 => F1 y (by omega)) M F2⟩
theorem hj_together_A {h : J_H} {n S a e D d : Nat} {w0 w kp : List Int32} {sst : Int32} (R : hR 327 343 n S a e D w0 w kp sst h) (hD : 2000 ≤ D) (hb : D < 2 ^ 29) (x1 : Int32) (x2 : Int32) (x3 : Int32) : hJ 130 253 [.int x1, .int x2, .int x3] d h (fun h2 => ∃ st, hR 327 343 n S a e D w0 w kp st h2) := by
  obtain ⟨u, th, tm, sd, ot, tk, od, be, MC, l1, l2⟩ := R.2.2.1
  obtain ⟨-, WC, WW, m, hm, X⟩ := R.2.2.2.2.1
  refine j_V.mono (ga_together_A (th := th) (sst' := sst) (m := m) (D := D) (acs := nI a) (tk := tk) (acne := nI e) R.1 X ⟨by omega, by omega⟩ x1 x2 x3) ?_
  rintro rv h1 ⟨v, st, e1, ⟨rfl, rfl⟩, X1, F1⟩
  refine ⟨_, e1, fun d' => ?_⟩
  refine j_V.mono (gm_together (n := n) (S := S) (MC.fr (fun y h1 h2 => F1 y (by omega))) l1 l2 x1 x2 x3) ?_
  rintro rv2 h2 ⟨e, M, F2⟩
  exact ⟨e, _, R.q X1 (fun y g1 g2 => F1 y (by omega)) M F2⟩
theorem hj_event_A {h : J_H} {n S a e D d : Nat} {w0 w kp : List Int32} {sst : Int32} (R : hR 327 343 n S a e D w0 w kp sst h) (hD : 2000 ≤ D) (hb : D < 2 ^ 29) (x1 : Int32) (x2 : Int32) : hJ 134 257 [.int x1, .int x2] d h (fun h2 => ∃ st, hR 327 343 n S a e D w0 w kp st h2) := by
  obtain ⟨u, th, tm, sd, ot, tk, od, be, MC, l1, l2⟩ := R.2.2.1
  obtain ⟨-, WC, WW, m, hm, X⟩ := R.2.2.2.2.1
  refine j_V.mono (ga_event_A (th := th) (sst' := sst) (m := m) (D := D) (acs := nI a) (tk := tk) (acne := nI e) R.1 X ⟨by omega, by omega⟩ x1 x2) ?_
  rintro rv h1 ⟨v, st, e1, ⟨rfl, rfl⟩, X1, F1⟩
  refine ⟨_, e1, fun d' => ?_⟩
  refine j_V.mono (gm_event (n := n) (S := S) (MC.fr (fun y h1 h2 => F1 y (by omega))) l1 l2 x1 x2) ?_
  rintro rv2 h2 ⟨e, M, F2⟩
  exact ⟨e, _, R.q X1 (fun y g1 g2 => F1 y (by omega)) M F2⟩
theorem hj_gone_A {h : J_H} {n S a e D d : Nat} {w0 w kp : List Int32} {sst : Int32} (R : hR 327 343 n S a e D w0 w kp sst h) (hD : 2000 ≤ D) (hb : D < 2 ^ 29) (x1 : Int32) (x2 : Int32) : hJ 136 259 [.int x1, .int x2] d h (fun h2 => ∃ st, hR 327 343 n S a e D w0 w kp st h2) := by
  obtain ⟨u, th, tm, sd, ot, tk, od, be, MC, l1, l2⟩ := R.2.2.1
  obtain ⟨-, WC, WW, m, hm, X⟩ := R.2.2.2.2.1
  refine j_V.mono (ga_gone_A (th := th) (sst' := sst) (m := m) (D := D) (acs := nI a) (tk := tk) (acne := nI e) R.1 X ⟨by omega, by omega⟩ x1 x2) ?_
  rintro rv h1 ⟨v, st, e1, ⟨rfl, rfl⟩, X1, F1⟩
  refine ⟨_, e1, fun d' => ?_⟩
  refine j_V.mono (gm_gone (n := n) (S := S) (MC.fr (fun y h1 h2 => F1 y (by omega))) l1 l2 x1 x2) ?_
  rintro rv2 h2 ⟨e, M, F2⟩
  exact ⟨e, _, R.q X1 (fun y g1 g2 => F1 y (by omega)) M F2⟩
theorem hj_links_A {h : J_H} {n S a e D d : Nat} {w0 w kp : List Int32} {sst : Int32} (R : hR 327 343 n S a e D w0 w kp sst h) (hD : 2000 ≤ D) (hb : D < 2 ^ 29) (x1 : Int32) (x2 : Int32) : hJ 125 251 [.int x1, .int x2] d h (fun h2 => ∃ st, hR 327 343 n S a e D w0 w kp st h2) := by
  obtain ⟨u, th, tm, sd, ot, tk, od, be, MC, l1, l2⟩ := R.2.2.1
  obtain ⟨-, WC, WW, m, hm, X⟩ := R.2.2.2.2.1
  refine j_V.mono (ga_links_A (th := th) (sst' := sst) (m := m) (D := D) (acs := nI a) (tk := tk) (acne := nI e) R.1 x1 x2) ?_
  rintro rv h1 ⟨v, st, e1, ⟨rfl, rfl⟩, X1, F1⟩
  refine ⟨_, e1, fun d' => ?_⟩
  refine j_V.mono (gm_links (n := n) (S := S) (MC.fr (fun y h1 h2 => F1 y (by omega))) l1 l2 x1 x2) ?_
  rintro rv2 h2 ⟨e, M, F2⟩
  exact ⟨e, _, R.q X1 (fun y g1 g2 => F1 y (by omega)) M F2⟩
theorem hj_fits_A {h : J_H} {n S a e D d : Nat} {w0 w kp : List Int32} {sst : Int32} (R : hR 327 343 n S a e D w0 w kp sst h) (hD : 2000 ≤ D) (hb : D < 2 ^ 29) (x1 : Int32) : hJ 120 242 [.int x1] d h (fun h2 => ∃ st, hR 327 343 n S a e D w0 w kp st h2) := by
  obtain ⟨u, th, tm, sd, ot, tk, od, be, MC, l1, l2⟩ := R.2.2.1
  obtain ⟨-, WC, WW, m, hm, X⟩ := R.2.2.2.2.1
  refine j_V.mono (ga_fits_A (th := th) (sst' := sst) (m := m) (D := D) (acs := nI a) (tk := tk) (acne := nI e) R.1 X ⟨by omega, by omega⟩ x1) ?_
  rintro rv h1 ⟨v, st, e1, ⟨rfl, rfl⟩, X1, F1⟩
  refine ⟨_, e1, fun d' => ?_⟩
  refine j_V.mono (gm_fits (n := n) (S := S) (MC.fr (fun y h1 h2 => F1 y (by omega))) l1 l2 x1) ?_
  rintro rv2 h2 ⟨e, M, F2⟩
  exact ⟨e, _, R.q X1 (fun y g1 g2 => F1 y (by omega)) M F2⟩
theorem hj_late_A {h : J_H} {n S a e D d : Nat} {w0 w kp : List Int32} {sst : Int32} (R : hR 327 343 n S a e D w0 w kp sst h) (hD : 2000 ≤ D) (hb : D < 2 ^ 29) (x1 : Int32) (x2 : Int32) : hJ 133 256 [.int x1, .int x2] d h (fun h2 => ∃ st, hR 327 343 n S a e D w0 w kp st h2) := by
  obtain ⟨u, th, tm, sd, ot, tk, od, be, MC, l1, l2⟩ := R.2.2.1
  obtain ⟨-, WC, WW, m, hm, X⟩ := R.2.2.2.2.1
  refine j_V.mono (ga_late_A (th := th) (sst' := sst) (m := m) (D := D) (acs := nI a) (tk := tk) (acne := nI e) R.1 X ⟨by omega, by omega⟩ x1 x2) ?_
  rintro rv h1 ⟨v, st, e1, ⟨rfl, rfl⟩, X1, F1⟩
  refine ⟨_, e1, fun d' => ?_⟩
  refine j_V.mono (gm_late (n := n) (S := S) (MC.fr (fun y h1 h2 => F1 y (by omega))) l1 l2 x1 x2) ?_
  rintro rv2 h2 ⟨e, M, F2⟩
  exact ⟨e, _, R.q X1 (fun y g1 g2 => F1 y (by omega)) M F2⟩
theorem hj_station_A {h : J_H} {n S a e D d : Nat} {w0 w kp : List Int32} {sst : Int32} (R : hR 327 343 n S a e D w0 w kp sst h) (hD : 2000 ≤ D) (hb : D < 2 ^ 29) (x1 : Int32) (x2 : Int32) : hJ 117 236 [.int x1, .int x2] d h (fun h2 => ∃ st, hR 327 343 n S a e D w0 w kp st h2) := by
  obtain ⟨u, th, tm, sd, ot, tk, od, be, MC, l1, l2⟩ := R.2.2.1
  obtain ⟨-, WC, WW, m, hm, X⟩ := R.2.2.2.2.1
  refine j_V.mono (ga_station_A (th := th) (sst' := sst) (m := m) (D := D) (acs := nI a) (tk := tk) (acne := nI e) R.1 X ⟨by omega, by omega⟩ x1 x2) ?_
  rintro rv h1 ⟨v, st, e1, ⟨rfl, rfl⟩, X1, F1⟩
  refine ⟨_, e1, fun d' => ?_⟩
  refine j_V.mono (gm_station (n := n) (S := S) (MC.fr (fun y h1 h2 => F1 y (by omega))) l1 l2 x1 x2) ?_
  rintro rv2 h2 ⟨e, M, F2⟩
  exact ⟨e, _, R.q X1 (fun y g1 g2 => F1 y (by omega)) M F2⟩
theorem hj_track_A {h : J_H} {n S a e D d : Nat} {w0 w kp : List Int32} {sst : Int32} (R : hR 327 343 n S a e D w0 w kp sst h) (hD : 2000 ≤ D) (hb : D < 2 ^ 29) (x1 : Int32) (x2 : Int32) (x3 : Int32) : hJ 118 237 [.int x1, .int x2, .int x3] d h (fun h2 => ∃ st, hR 327 343 n S a e D w0 w kp st h2) := by
  obtain ⟨u, th, tm, sd, ot, tk, od, be, MC, l1, l2⟩ := R.2.2.1
  obtain ⟨-, WC, WW, m, hm, X⟩ := R.2.2.2.2.1
  refine j_V.mono (ga_track_A (th := th) (sst' := sst) (m := m) (D := D) (acs := nI a) (tk := tk) (acne := nI e) R.1 X ⟨by omega, by omega⟩ x1 x2 x3) ?_
  rintro rv h1 ⟨v, st, e1, ⟨rfl, rfl⟩, X1, F1⟩
  refine ⟨_, e1, fun d' => ?_⟩
  refine j_V.mono (gm_track (n := n) (S := S) (MC.fr (fun y h1 h2 => F1 y (by omega))) l1 l2 x1 x2 x3) ?_
  rintro rv2 h2 ⟨e, M, F2⟩
  exact ⟨e, _, R.q X1 (fun y g1 g2 => F1 y (by omega)) M F2⟩
theorem hj_passes_A {h : J_H} {n S a e D d : Nat} {w0 w kp : List Int32} {sst : Int32} (R : hR 327 343 n S a e D w0 w kp sst h) (hD : 2000 ≤ D) (hb : D < 2 ^ 29) (x1 : Int32) (x2 : Int32) : hJ 131 254 [.int x1, .int x2] d h (fun h2 => ∃ st, hR 327 343 n S a e D w0 w kp st h2) := by
  obtain ⟨u, th, tm, sd, ot, tk, od, be, MC, l1, l2⟩ := R.2.2.1
  obtain ⟨-, WC, WW, m, hm, X⟩ := R.2.2.2.2.1
  refine j_V.mono (ga_passes_A (th := th) (sst' := sst) (m := m) (D := D) (acs := nI a) (tk := tk) (acne := nI e) R.1 X ⟨by omega, by omega⟩ x1 x2) ?_
  rintro rv h1 ⟨v, st, e1, ⟨rfl, rfl⟩, X1, F1⟩
  refine ⟨_, e1, fun d' => ?_⟩
  refine j_V.mono (gm_passes (n := n) (S := S) R.wf (MC.fr (fun y h1 h2 => F1 y (by omega))) l1 l2 x1 x2) ?_
  rintro rv2 h2 ⟨e, M, F2⟩
  exact ⟨e, _, R.q X1 (fun y g1 g2 => F1 y (by omega)) M F2⟩
theorem hj_train_A {h : J_H} {n S a e D d : Nat} {w0 w kp : List Int32} {sst : Int32} (R : hR 327 343 n S a e D w0 w kp sst h) (hD : 2000 ≤ D) (hb : D < 2 ^ 29) (x1 : Int32) (x2 : Int32) : hJ 119 240 [.int x1, .int x2] d h (fun h2 => ∃ st, hR 327 343 n S a e D w0 w kp st h2) := by
  obtain ⟨u, th, tm, sd, ot, tk, od, be, MC, l1, l2⟩ := R.2.2.1
  obtain ⟨-, WC, WW, m, hm, X⟩ := R.2.2.2.2.1
  refine j_V.mono (ga_train_A (th := th) (sst' := sst) (m := m) (D := D) (acs := nI a) (tk := tk) (acne := nI e) R.1 X ⟨by omega, by omega⟩ x1 x2) ?_
  rintro rv h1 ⟨v, st, e1, ⟨rfl, rfl⟩, X1, F1⟩
  refine ⟨_, e1, fun d' => ?_⟩
  refine j_V.mono (gm_train (n := n) (S := S) R.wf (MC.fr (fun y h1 h2 => F1 y (by omega))) l1 l2 x1 x2) ?_
  rintro rv2 h2 ⟨e, M, F2⟩
  exact ⟨e, _, R.q X1 (fun y g1 g2 => F1 y (by omega)) M F2⟩
theorem hj_blocks_A {h : J_H} {n S a e D d : Nat} {w0 w kp : List Int32} {sst : Int32} (R : hR 327 343 n S a e D w0 w kp sst h) (hD : 2000 ≤ D) (hb : D < 2 ^ 29) (x1 : Int32) : hJ 126 245 [.int x1] d h (fun h2 => ∃ st, hR 327 343 n S a e D w0 w kp st h2) := by
  obtain ⟨u, th, tm, sd, ot, tk, od, be, MC, l1, l2⟩ := R.2.2.1
  obtain ⟨-, WC, WW, m, hm, X⟩ := R.2.2.2.2.1
  refine j_V.mono (ga_blocks_A (th := th) (sst' := sst) (m := m) (D := D) (acs := nI a) (tk := tk) (acne := nI e) R.1 X ⟨by omega, by omega⟩ x1) ?_
  rintro rv h1 ⟨v, st, e1, ⟨rfl, rfl⟩, X1, F1⟩
  refine ⟨_, e1, fun d' => ?_⟩
  refine j_V.mono (gm_blocks (n := n) (S := S) (MC.fr (fun y h1 h2 => F1 y (by omega))) l1 l2 x1) ?_
  rintro rv2 h2 ⟨e, M, F2⟩
  exact ⟨e, _, R.q X1 (fun y g1 g2 => F1 y (by omega)) M F2⟩
theorem hj_ring_A {h : J_H} {n S a e D d : Nat} {w0 w kp : List Int32} {sst : Int32} (R : hR 327 343 n S a e D w0 w kp sst h) (hD : 2000 ≤ D) (hb : D < 2 ^ 29) : hJ 127 246 [] d h (fun h2 => ∃ st, hR 327 343 n S a e D w0 w kp st h2) := by
  obtain ⟨u, th, tm, sd, ot, tk, od, be, MC, l1, l2⟩ := R.2.2.1
  obtain ⟨-, WC, WW, m, hm, X⟩ := R.2.2.2.2.1
  refine j_V.mono (ga_ring_A (th := th) (sst' := sst) (m := m) (D := D) (acs := nI a) (tk := tk) (acne := nI e) R.1 X ⟨by omega, by omega⟩ ) ?_
  rintro rv h1 ⟨v, st, e1, ⟨rfl, rfl⟩, X1, F1⟩
  refine ⟨_, e1, fun d' => ?_⟩
  refine j_V.mono (gm_ring (n := n) (S := S) R.wf (MC.fr (fun y h1 h2 => F1 y (by omega))) l1 l2 ) ?_
  rintro rv2 h2 ⟨e, M, F2⟩
  exact ⟨e, _, R.q X1 (fun y g1 g2 => F1 y (by omega)) M F2⟩
theorem hj_why_A {h : J_H} {n S a e D d : Nat} {w0 w kp : List Int32} {sst : Int32} (R : hR 327 343 n S a e D w0 w kp sst h) (hD : 2000 ≤ D) (hb : D < 2 ^ 29) (x1 : Int32) : hJ 121 243 [.int x1] d h (fun h2 => ∃ st, hR 327 343 n S a e D w0 w kp st h2) := by
  obtain ⟨u, th, tm, sd, ot, tk, od, be, MC, l1, l2⟩ := R.2.2.1
  obtain ⟨-, WC, WW, m, hm, X⟩ := R.2.2.2.2.1
  refine j_V.mono (ga_why_A (th := th) (sst' := sst) (m := m) (D := D) (acs := nI a) (tk := tk) (acne := nI e) R.1 x1) ?_
  rintro rv h1 ⟨v, st, e1, ⟨rfl, rfl⟩, X1, F1⟩
  refine ⟨_, e1, fun d' => ?_⟩
  refine j_V.mono (gm_why (n := n) (S := S) R.wf (MC.fr (fun y h1 h2 => F1 y (by omega))) l1 l2 x1) ?_
  rintro rv2 h2 ⟨e, M, F2⟩
  exact ⟨e, _, R.q X1 (fun y g1 g2 => F1 y (by omega)) M F2⟩
theorem hj_risks_A {h : J_H} {n S a e D d : Nat} {w0 w kp : List Int32} {sst : Int32} (R : hR 327 343 n S a e D w0 w kp sst h) (hD : 2000 ≤ D) (hb : D < 2 ^ 29) : hJ 123 249 [] d h (fun h2 => ∃ st, hR 327 343 n S a e D w0 w kp st h2) := by
  obtain ⟨u, th, tm, sd, ot, tk, od, be, MC, l1, l2⟩ := R.2.2.1
  obtain ⟨-, WC, WW, m, hm, X⟩ := R.2.2.2.2.1
  refine j_V.mono (ga_risks_A (th := th) (sst' := sst) (m := m) (D := D) (acs := nI a) (tk := tk) (acne := nI e) R.1 ) ?_
  rintro rv h1 ⟨v, st, e1, ⟨rfl, rfl⟩, X1, F1⟩
  refine ⟨_, e1, fun d' => ?_⟩
  refine j_V.mono (gm_risks (n := n) (S := S) R.wf (MC.fr (fun y h1 h2 => F1 y (by omega))) l1 l2 ) ?_
  rintro rv2 h2 ⟨e, M, F2⟩
  exact ⟨e, _, R.q X1 (fun y g1 g2 => F1 y (by omega)) M F2⟩
theorem hj_weak_A {h : J_H} {n S a e D d : Nat} {w0 w kp : List Int32} {sst : Int32} (R : hR 327 343 n S a e D w0 w kp sst h) (hD : 2000 ≤ D) (hb : D < 2 ^ 29) (x1 : Int32) : hJ 124 250 [.int x1] d h (fun h2 => ∃ st, hR 327 343 n S a e D w0 w kp st h2) := by
  obtain ⟨u, th, tm, sd, ot, tk, od, be, MC, l1, l2⟩ := R.2.2.1
  obtain ⟨-, WC, WW, m, hm, X⟩ := R.2.2.2.2.1
  refine j_V.mono (ga_weak_A (th := th) (sst' := sst) (m := m) (D := D) (acs := nI a) (tk := tk) (acne := nI e) R.1 x1) ?_
  rintro rv h1 ⟨v, st, e1, ⟨rfl, rfl⟩, X1, F1⟩
  refine ⟨_, e1, fun d' => ?_⟩
  refine j_V.mono (gm_weak (n := n) (S := S) R.wf (MC.fr (fun y h1 h2 => F1 y (by omega))) l1 l2 x1) ?_
  rintro rv2 h2 ⟨e, M, F2⟩
  exact ⟨e, _, R.q X1 (fun y g1 g2 => F1 y (by omega)) M F2⟩
theorem hj_many_A {h : J_H} {n S a e D d : Nat} {w0 w kp : List Int32} {sst : Int32} (R : hR 327 343 n S a e D w0 w kp sst h) (hD : 2000 ≤ D) (hb : D < 2 ^ 29) (x1 : Int32) : hJ 116 234 [.int x1] d h (fun h2 => ∃ st, hR 327 343 n S a e D w0 w kp st h2) := by
  obtain ⟨u, th, tm, sd, ot, tk, od, be, MC, l1, l2⟩ := R.2.2.1
  obtain ⟨-, WC, WW, m, hm, X⟩ := R.2.2.2.2.1
  refine j_V.mono (ga_many_A (th := th) (sst' := sst) (m := m) (D := D) (acs := nI a) (tk := tk) (acne := nI e) R.1 X ⟨by omega, by omega⟩ R.2.1.1 x1) ?_
  rintro rv h1 ⟨v, st, e1, ⟨rfl, rfl⟩, X1, F1⟩
  refine ⟨_, e1, fun d' => ?_⟩
  refine j_V.mono (gm_many (n := n) (S := S) R.wf (MC.fr (fun y h1 h2 => F1 y (by omega))) l1 l2 x1) ?_
  rintro rv2 h2 ⟨e, M, F2⟩
  exact ⟨e, _, R.q X1 (fun y g1 g2 => F1 y (by omega)) M F2⟩
theorem hj_cost_B {h : J_H} {n S a e D d : Nat} {w0 w kp : List Int32} {sst : Int32} (R : hR 343 327 n S a e D w0 w kp sst h) (hD : 2000 ≤ D) (hb : D < 2 ^ 29) (Q : hT9 282 0 h) (C281 : h[281]? = some (.inl (1, [.ref 282, .ref 307, .ref 323, .ref 324]))) (x1 : Int32) (x2 : Int32) : hJ 142 271 [.int x1, .int x2] d h (fun h2 => ∃ st, hR 343 327 n S a e D w0 w kp st h2) := by
  obtain ⟨u, th, tm, sd, ot, tk, od, be, MC, l1, l2⟩ := R.2.2.1
  obtain ⟨-, WC, WW, m, hm, X⟩ := R.2.2.2.2.1
  refine j_V.mono (hq_cost_B (th := th) (sst' := sst) R.1 Q C281 X.1.1 (by omega) x1 x2) ?_
  rintro rv h1 Y
  refine ⟨_, Y.1, fun d' => ?_⟩
  refine j_V.mono (gm_cost R.wf (MC.fr (fun y h1 h2 => Y.2.2.2 y (by omega) (by omega))) l1 l2 x1 x2) ?_
  rintro rv2 h2 ⟨e, M, F2⟩
  exact ⟨e, _, R.f Y M F2⟩
theorem hj_ahead_B {h : J_H} {n S a e D d : Nat} {w0 w kp : List Int32} {sst : Int32} (R : hR 343 327 n S a e D w0 w kp sst h) (hD : 2000 ≤ D) (hb : D < 2 ^ 29) (Q : hT9 282 0 h) (C281 : h[281]? = some (.inl (1, [.ref 282, .ref 307, .ref 323, .ref 324]))) (x1 : Int32) (x2 : Int32) (x3 : Int32) : hJ 138 262 [.int x1, .int x2, .int x3] d h (fun h2 => ∃ st, hR 343 327 n S a e D w0 w kp st h2) := by
  obtain ⟨u, th, tm, sd, ot, tk, od, be, MC, l1, l2⟩ := R.2.2.1
  obtain ⟨-, WC, WW, m, hm, X⟩ := R.2.2.2.2.1
  refine j_V.mono (hq_ahead_B (th := th) (sst' := sst) R.1 Q C281 X.1.1 (by omega) x1 x2 x3) ?_
  rintro rv h1 Y
  refine ⟨_, Y.1, fun d' => ?_⟩
  refine j_V.mono (gm_ahead R.wf (MC.fr (fun y h1 h2 => Y.2.2.2 y (by omega) (by omega))) l1 l2 x1 x2 x3) ?_
  rintro rv2 h2 ⟨e, M, F2⟩
  exact ⟨e, _, R.f Y M F2⟩
theorem hj_ends_B {h : J_H} {n S a e D d : Nat} {w0 w kp : List Int32} {sst : Int32} (R : hR 343 327 n S a e D w0 w kp sst h) (hD : 2000 ≤ D) (hb : D < 2 ^ 29) (Q : hT9 282 0 h) (C281 : h[281]? = some (.inl (1, [.ref 282, .ref 307, .ref 323, .ref 324]))) (x1 : Int32) (x2 : Int32) : hJ 139 264 [.int x1, .int x2] d h (fun h2 => ∃ st, hR 343 327 n S a e D w0 w kp st h2) := by
  obtain ⟨u, th, tm, sd, ot, tk, od, be, MC, l1, l2⟩ := R.2.2.1
  obtain ⟨-, WC, WW, m, hm, X⟩ := R.2.2.2.2.1
  refine j_V.mono (hq_ends_B (th := th) (sst' := sst) R.1 Q C281 X.1.1 (by omega) x1 x2) ?_
  rintro rv h1 Y
  refine ⟨_, Y.1, fun d' => ?_⟩
  refine j_V.mono (gm_ends R.wf (MC.fr (fun y h1 h2 => Y.2.2.2 y (by omega) (by omega))) l1 l2 x1 x2) ?_
  rintro rv2 h2 ⟨e, M, F2⟩
  exact ⟨e, _, R.f Y M F2⟩
theorem hj_when_B {h : J_H} {n S a e D d : Nat} {w0 w kp : List Int32} {sst : Int32} (R : hR 343 327 n S a e D w0 w kp sst h) (hD : 2000 ≤ D) (hb : D < 2 ^ 29) (Q : hT9 282 0 h) (C281 : h[281]? = some (.inl (1, [.ref 282, .ref 307, .ref 323, .ref 324]))) (x1 : Int32) : hJ 140 265 [.int x1] d h (fun h2 => ∃ st, hR 343 327 n S a e D w0 w kp st h2) := by
  obtain ⟨u, th, tm, sd, ot, tk, od, be, MC, l1, l2⟩ := R.2.2.1
  obtain ⟨-, WC, WW, m, hm, X⟩ := R.2.2.2.2.1
  refine j_V.mono (hq_when_B (th := th) (sst' := sst) R.1 Q C281 X.1.1 (by omega) WC x1) ?_
  rintro rv h1 Y
  refine ⟨_, Y.1, fun d' => ?_⟩
  refine j_V.mono (gm_when R.wf (MC.fr (fun y h1 h2 => Y.2.2.2 y (by omega) (by omega))) l1 l2 x1) ?_
  rintro rv2 h2 ⟨e, M, F2⟩
  exact ⟨e, _, R.f Y M F2⟩
theorem hj_swap_B {h : J_H} {n S a e D d : Nat} {w0 w kp : List Int32} {sst : Int32} (R : hR 343 327 n S a e D w0 w kp sst h) (hD : 2000 ≤ D) (hb : D < 2 ^ 29) (Q : hT9 282 0 h) (C281 : h[281]? = some (.inl (1, [.ref 282, .ref 307, .ref 323, .ref 324]))) (x1 : Int32) (x2 : Int32) : hJ 145 273 [.int x1, .int x2] d h (fun h2 => ∃ st, hR 343 327 n S a e D w0 w kp st h2) := by
  obtain ⟨u, th, tm, sd, ot, tk, od, be, MC, l1, l2⟩ := R.2.2.1
  obtain ⟨-, WC, WW, m, hm, X⟩ := R.2.2.2.2.1
  refine j_V.mono (hq_swap_B (th := th) (sst' := sst) R.1 Q C281 X.1.1 (by omega) x1 x2) ?_
  rintro rv h1 Y
  refine ⟨_, Y.1, fun d' => ?_⟩
  refine j_V.mono (gm_swap R.wf (MC.fr (fun y h1 h2 => Y.2.2.2 y (by omega) (by omega))) l1 l2 x1 x2) ?_
  rintro rv2 h2 ⟨e, M, F2⟩
  exact ⟨e, _, R.f Y M F2⟩
theorem hj_loop_B {h : J_H} {n S a e D d : Nat} {w0 w kp : List Int32} {sst : Int32} (R : hR 343 327 n S a e D w0 w kp sst h) (hD : 2000 ≤ D) (hb : D < 2 ^ 29) (Q : hT9 282 0 h) (C281 : h[281]? = some (.inl (1, [.ref 282, .ref 307, .ref 323, .ref 324]))) (Z : hZ9 307 h) (x1 : Int32) (x2 : Int32) : hJ 147 279 [.int x1, .int x2] d h (fun h2 => ∃ st, hR 343 327 n S a e D w0 w kp st h2) := by
  obtain ⟨u, th, tm, sd, ot, tk, od, be, MC, l1, l2⟩ := R.2.2.1
  obtain ⟨-, WC, WW, m, hm, X⟩ := R.2.2.2.2.1
  refine j_V.mono (hq_loop_B (th := th) (sst' := sst) R.1 Q C281 X.1.1 (by omega) Z x1 x2) ?_
  rintro rv h1 Y
  refine ⟨_, Y.1, fun d' => ?_⟩
  refine j_V.mono (gm_loop R.wf (MC.fr (fun y h1 h2 => Y.2.2.2 y (by omega) (by omega))) l1 l2 x1 x2) ?_
  rintro rv2 h2 ⟨e, M, F2⟩
  exact ⟨e, _, R.f Y M F2⟩
theorem hj_build_B {h : J_H} {n S a e D d : Nat} {w0 w kp : List Int32} {sst : Int32} (R : hR 343 327 n S a e D w0 w kp sst h) (hD : 2000 ≤ D) (hb : D < 2 ^ 29) (Q : hT9 282 0 h) (C281 : h[281]? = some (.inl (1, [.ref 282, .ref 307, .ref 323, .ref 324]))) (Z : hZ9 307 h) : hJ 148 280 [] d h (fun h2 => ∃ st, hR 343 327 n S a e D w0 w kp st h2) := by
  obtain ⟨u, th, tm, sd, ot, tk, od, be, MC, l1, l2⟩ := R.2.2.1
  obtain ⟨-, WC, WW, m, hm, X⟩ := R.2.2.2.2.1
  refine j_V.mono (hq_build_B (th := th) (sst' := sst) R.1 Q C281 X.1.1 (by omega) Z (price_build X R.wf WW (by omega) (by omega) (by omega)) ) ?_
  rintro rv h1 Y
  refine ⟨_, Y.1, fun d' => ?_⟩
  refine j_V.mono (gm_build R.wf (MC.fr (fun y h1 h2 => Y.2.2.2 y (by omega) (by omega))) l1 l2 ) ?_
  rintro rv2 h2 ⟨e, M, F2⟩
  exact ⟨e, _, R.f Y M F2⟩
theorem hj_band_B {h : J_H} {n S a e D d : Nat} {w0 w kp : List Int32} {sst : Int32} (R : hR 343 327 n S a e D w0 w kp sst h) (hD : 2000 ≤ D) (hb : D < 2 ^ 29) (Q : hT9 282 0 h) (C281 : h[281]? = some (.inl (1, [.ref 282, .ref 307, .ref 323, .ref 324]))) (x1 : Int32) (x2 : Int32) : hJ 144 277 [.int x1, .int x2] d h (fun h2 => ∃ st, hR 343 327 n S a e D w0 w kp st h2) := by
  obtain ⟨u, th, tm, sd, ot, tk, od, be, MC, l1, l2⟩ := R.2.2.1
  obtain ⟨-, WC, WW, m, hm, X⟩ := R.2.2.2.2.1
  refine j_V.mono (hq_band_B (th := th) (sst' := sst) R.1 Q C281 X.1.1 (by omega) (price_band X R.wf WW (by omega) (by omega) (by omega)) x1 x2) ?_
  rintro rv h1 Y
  refine ⟨_, Y.1, fun d' => ?_⟩
  refine j_V.mono (gm_band R.wf (MC.fr (fun y h1 h2 => Y.2.2.2 y (by omega) (by omega))) l1 l2 x1 x2) ?_
  rintro rv2 h2 ⟨e, M, F2⟩
  exact ⟨e, _, R.f Y M F2⟩
theorem hj_slack_B {h : J_H} {n S a e D d : Nat} {w0 w kp : List Int32} {sst : Int32} (R : hR 343 327 n S a e D w0 w kp sst h) (hD : 2000 ≤ D) (hb : D < 2 ^ 29) (Q : hT9 282 0 h) (C281 : h[281]? = some (.inl (1, [.ref 282, .ref 307, .ref 323, .ref 324]))) (x1 : Int32) : hJf 143 272 [.int x1] d h (fun h2 => ∃ st, hR 343 327 n S a e D w0 w kp st h2) := by
  obtain ⟨u, th, tm, sd, ot, tk, od, be, MC, l1, l2⟩ := R.2.2.1
  obtain ⟨-, WC, WW, m, hm, X⟩ := R.2.2.2.2.1
  refine j_V.mono (hq_slack_B (th := th) (sst' := sst) R.1 Q C281 X.1.1 (by omega) x1) ?_
  rintro rv h1 ⟨v9, Y⟩
  refine ⟨_, Y.1, fun d' => ?_⟩
  refine j_V.mono (gm_slack R.wf (MC.fr (fun y h1 h2 => Y.2.2.2 y (by omega) (by omega))) l1 l2 x1) ?_
  rintro rv2 h2 ⟨e, M, F2⟩
  exact ⟨⟨_, e⟩, _, R.f Y M F2⟩
theorem hj_time_B {h : J_H} {n S a e D d : Nat} {w0 w kp : List Int32} {sst : Int32} (R : hR 343 327 n S a e D w0 w kp sst h) (hD : 2000 ≤ D) (hb : D < 2 ^ 29) (x1 : Int32) (x2 : Int32) (x3 : Int32) : hJ 129 252 [.int x1, .int x2, .int x3] d h (fun h2 => ∃ st, hR 343 327 n S a e D w0 w kp st h2) := by
  obtain ⟨u, th, tm, sd, ot, tk, od, be, MC, l1, l2⟩ := R.2.2.1
  obtain ⟨-, WC, WW, m, hm, X⟩ := R.2.2.2.2.1
  refine j_V.mono (ga_time_B (th := th) (sst' := sst) (m := m) (D := D) (acs := nI a) (tk := tk) (acne := nI e) R.1 X ⟨by omega, by omega⟩ x1 x2 x3) ?_
  rintro rv h1 ⟨v, st, e1, ⟨rfl, rfl⟩, X1, F1⟩
  refine ⟨_, e1, fun d' => ?_⟩
  refine j_V.mono (gm_time (n := n) (S := S) (MC.fr (fun y h1 h2 => F1 y (by omega))) l1 l2 x1 x2 x3) ?_
  rintro rv2 h2 ⟨e, M, F2⟩
  exact ⟨e, _, R.q X1 (fun y g1 g2 => F1 y (by omega)) M F2⟩
theorem hj_section_B {h : J_H} {n S a e D d : Nat} {w0 w kp : List Int32} {sst : Int32} (R : hR 343 327 n S a e D w0 w kp sst h) (hD : 2000 ≤ D) (hb : D < 2 ^ 29) (x1 : Int32) : hJ 128 247 [.int x1] d h (fun h2 => ∃ st, hR 343 327 n S a e D w0 w kp st h2) := by
  obtain ⟨u, th, tm, sd, ot, tk, od, be, MC, l1, l2⟩ := R.2.2.1
  obtain ⟨-, WC, WW, m, hm, X⟩ := R.2.2.2.2.1
  refine j_V.mono (ga_section_B (th := th) (sst' := sst) (m := m) (D := D) (acs := nI a) (tk := tk) (acne := nI e) R.1 X ⟨by omega, by omega⟩ x1) ?_
  rintro rv h1 ⟨v, st, e1, ⟨rfl, rfl⟩, X1, F1⟩
  refine ⟨_, e1, fun d' => ?_⟩
  refine j_V.mono (gm_section (n := n) (S := S) (MC.fr (fun y h1 h2 => F1 y (by omega))) l1 l2 x1) ?_
  rintro rv2 h2 ⟨e, M, F2⟩
  exact ⟨e, _, R.q X1 (fun y g1 g2 => F1 y (by omega)) M F2⟩
theorem hj_use_B {h : J_H} {n S a e D d : Nat} {w0 w kp : List Int32} {sst : Int32} (R : hR 343 327 n S a e D w0 w kp sst h) (hD : 2000 ≤ D) (hb : D < 2 ^ 29) (x1 : Int32) : hJ 135 258 [.int x1] d h (fun h2 => ∃ st, hR 343 327 n S a e D w0 w kp st h2) := by
  obtain ⟨u, th, tm, sd, ot, tk, od, be, MC, l1, l2⟩ := R.2.2.1
  obtain ⟨-, WC, WW, m, hm, X⟩ := R.2.2.2.2.1
  refine j_V.mono (ga_use_B (th := th) (sst' := sst) (m := m) (D := D) (acs := nI a) (tk := tk) (acne := nI e) R.1 X ⟨by omega, by omega⟩ x1) ?_
  rintro rv h1 ⟨v, st, e1, ⟨rfl, rfl⟩, X1, F1⟩
  refine ⟨_, e1, fun d' => ?_⟩
  refine j_V.mono (gm_use (n := n) (S := S) (MC.fr (fun y h1 h2 => F1 y (by omega))) l1 l2 x1) ?_
  rintro rv2 h2 ⟨e, M, F2⟩
  exact ⟨e, _, R.q X1 (fun y g1 g2 => F1 y (by omega)) M F2⟩
theorem hj_waits_B {h : J_H} {n S a e D d : Nat} {w0 w kp : List Int32} {sst : Int32} (R : hR 343 327 n S a e D w0 w kp sst h) (hD : 2000 ≤ D) (hb : D < 2 ^ 29) (x1 : Int32) : hJ 137 260 [.int x1] d h (fun h2 => ∃ st, hR 343 327 n S a e D w0 w kp st h2) := by
  obtain ⟨u, th, tm, sd, ot, tk, od, be, MC, l1, l2⟩ := R.2.2.1
  obtain ⟨-, WC, WW, m, hm, X⟩ := R.2.2.2.2.1
  refine j_V.mono (ga_waits_B (th := th) (sst' := sst) (m := m) (D := D) (acs := nI a) (tk := tk) (acne := nI e) R.1 X ⟨by omega, by omega⟩ x1) ?_
  rintro rv h1 ⟨v, st, e1, ⟨rfl, rfl⟩, X1, F1⟩
  refine ⟨_, e1, fun d' => ?_⟩
  refine j_V.mono (gm_waits (n := n) (S := S) (MC.fr (fun y h1 h2 => F1 y (by omega))) l1 l2 x1) ?_
  rintro rv2 h2 ⟨e, M, F2⟩
  exact ⟨e, _, R.q X1 (fun y g1 g2 => F1 y (by omega)) M F2⟩
theorem hj_stood_B {h : J_H} {n S a e D d : Nat} {w0 w kp : List Int32} {sst : Int32} (R : hR 343 327 n S a e D w0 w kp sst h) (hD : 2000 ≤ D) (hb : D < 2 ^ 29) (x1 : Int32) : hJ 132 255 [.int x1] d h (fun h2 => ∃ st, hR 343 327 n S a e D w0 w kp st h2) := by
  obtain ⟨u, th, tm, sd, ot, tk, od, be, MC, l1, l2⟩ := R.2.2.1
  obtain ⟨-, WC, WW, m, hm, X⟩ := R.2.2.2.2.1
  refine j_V.mono (ga_stood_B (th := th) (sst' := sst) (m := m) (D := D) (acs := nI a) (tk := tk) (acne := nI e) R.1 X ⟨by omega, by omega⟩ x1) ?_
  rintro rv h1 ⟨v, st, e1, ⟨rfl, rfl⟩, X1, F1⟩
  refine ⟨_, e1, fun d' => ?_⟩
  refine j_V.mono (gm_stood (n := n) (S := S) (MC.fr (fun y h1 h2 => F1 y (by omega))) l1 l2 x1) ?_
  rintro rv2 h2 ⟨e, M, F2⟩
  exact ⟨e, _, R.q X1 (fun y g1 g2 => F1 y (by omega)) M F2⟩
theorem hj_together_B {h : J_H} {n S a e D d : Nat} {w0 w kp : List Int32} {sst : Int32} (R : hR 343 327 n S a e D w0 w kp sst h) (hD : 2000 ≤ D) (hb : D < 2 ^ 29) (x1 : Int32) (x2 : Int32) (x3 : Int32) : hJ 130 253 [.int x1, .int x2, .int x3] d h (fun h2 => ∃ st, hR 343 327 n S a e D w0 w kp st h2) := by
  obtain ⟨u, th, tm, sd, ot, tk, od, be, MC, l1, l2⟩ := R.2.2.1
  obtain ⟨-, WC, WW, m, hm, X⟩ := R.2.2.2.2.1
  refine j_V.mono (ga_together_B (th := th) (sst' := sst) (m := m) (D := D) (acs := nI a) (tk := tk) (acne := nI e) R.1 X ⟨by omega, by omega⟩ x1 x2 x3) ?_
  rintro rv h1 ⟨v, st, e1, ⟨rfl, rfl⟩, X1, F1⟩
  refine ⟨_, e1, fun d' => ?_⟩
  refine j_V.mono (gm_together (n := n) (S := S) (MC.fr (fun y h1 h2 => F1 y (by omega))) l1 l2 x1 x2 x3) ?_
  rintro rv2 h2 ⟨e, M, F2⟩
  exact ⟨e, _, R.q X1 (fun y g1 g2 => F1 y (by omega)) M F2⟩
theorem hj_event_B {h : J_H} {n S a e D d : Nat} {w0 w kp : List Int32} {sst : Int32} (R : hR 343 327 n S a e D w0 w kp sst h) (hD : 2000 ≤ D) (hb : D < 2 ^ 29) (x1 : Int32) (x2 : Int32) : hJ 134 257 [.int x1, .int x2] d h (fun h2 => ∃ st, hR 343 327 n S a e D w0 w kp st h2) := by
  obtain ⟨u, th, tm, sd, ot, tk, od, be, MC, l1, l2⟩ := R.2.2.1
  obtain ⟨-, WC, WW, m, hm, X⟩ := R.2.2.2.2.1
  refine j_V.mono (ga_event_B (th := th) (sst' := sst) (m := m) (D := D) (acs := nI a) (tk := tk) (acne := nI e) R.1 X ⟨by omega, by omega⟩ x1 x2) ?_
  rintro rv h1 ⟨v, st, e1, ⟨rfl, rfl⟩, X1, F1⟩
  refine ⟨_, e1, fun d' => ?_⟩
  refine j_V.mono (gm_event (n := n) (S := S) (MC.fr (fun y h1 h2 => F1 y (by omega))) l1 l2 x1 x2) ?_
  rintro rv2 h2 ⟨e, M, F2⟩
  exact ⟨e, _, R.q X1 (fun y g1 g2 => F1 y (by omega)) M F2⟩
theorem hj_gone_B {h : J_H} {n S a e D d : Nat} {w0 w kp : List Int32} {sst : Int32} (R : hR 343 327 n S a e D w0 w kp sst h) (hD : 2000 ≤ D) (hb : D < 2 ^ 29) (x1 : Int32) (x2 : Int32) : hJ 136 259 [.int x1, .int x2] d h (fun h2 => ∃ st, hR 343 327 n S a e D w0 w kp st h2) := by
  obtain ⟨u, th, tm, sd, ot, tk, od, be, MC, l1, l2⟩ := R.2.2.1
  obtain ⟨-, WC, WW, m, hm, X⟩ := R.2.2.2.2.1
  refine j_V.mono (ga_gone_B (th := th) (sst' := sst) (m := m) (D := D) (acs := nI a) (tk := tk) (acne := nI e) R.1 X ⟨by omega, by omega⟩ x1 x2) ?_
  rintro rv h1 ⟨v, st, e1, ⟨rfl, rfl⟩, X1, F1⟩
  refine ⟨_, e1, fun d' => ?_⟩
  refine j_V.mono (gm_gone (n := n) (S := S) (MC.fr (fun y h1 h2 => F1 y (by omega))) l1 l2 x1 x2) ?_
  rintro rv2 h2 ⟨e, M, F2⟩
  exact ⟨e, _, R.q X1 (fun y g1 g2 => F1 y (by omega)) M F2⟩
theorem hj_links_B {h : J_H} {n S a e D d : Nat} {w0 w kp : List Int32} {sst : Int32} (R : hR 343 327 n S a e D w0 w kp sst h) (hD : 2000 ≤ D) (hb : D < 2 ^ 29) (x1 : Int32) (x2 : Int32) : hJ 125 251 [.int x1, .int x2] d h (fun h2 => ∃ st, hR 343 327 n S a e D w0 w kp st h2) := by
  obtain ⟨u, th, tm, sd, ot, tk, od, be, MC, l1, l2⟩ := R.2.2.1
  obtain ⟨-, WC, WW, m, hm, X⟩ := R.2.2.2.2.1
  refine j_V.mono (ga_links_B (th := th) (sst' := sst) (m := m) (D := D) (acs := nI a) (tk := tk) (acne := nI e) R.1 x1 x2) ?_
  rintro rv h1 ⟨v, st, e1, ⟨rfl, rfl⟩, X1, F1⟩
  refine ⟨_, e1, fun d' => ?_⟩
  refine j_V.mono (gm_links (n := n) (S := S) (MC.fr (fun y h1 h2 => F1 y (by omega))) l1 l2 x1 x2) ?_
  rintro rv2 h2 ⟨e, M, F2⟩
  exact ⟨e, _, R.q X1 (fun y g1 g2 => F1 y (by omega)) M F2⟩
theorem hj_fits_B {h : J_H} {n S a e D d : Nat} {w0 w kp : List Int32} {sst : Int32} (R : hR 343 327 n S a e D w0 w kp sst h) (hD : 2000 ≤ D) (hb : D < 2 ^ 29) (x1 : Int32) : hJ 120 242 [.int x1] d h (fun h2 => ∃ st, hR 343 327 n S a e D w0 w kp st h2) := by
  obtain ⟨u, th, tm, sd, ot, tk, od, be, MC, l1, l2⟩ := R.2.2.1
  obtain ⟨-, WC, WW, m, hm, X⟩ := R.2.2.2.2.1
  refine j_V.mono (ga_fits_B (th := th) (sst' := sst) (m := m) (D := D) (acs := nI a) (tk := tk) (acne := nI e) R.1 X ⟨by omega, by omega⟩ x1) ?_
  rintro rv h1 ⟨v, st, e1, ⟨rfl, rfl⟩, X1, F1⟩
  refine ⟨_, e1, fun d' => ?_⟩
  refine j_V.mono (gm_fits (n := n) (S := S) (MC.fr (fun y h1 h2 => F1 y (by omega))) l1 l2 x1) ?_
  rintro rv2 h2 ⟨e, M, F2⟩
  exact ⟨e, _, R.q X1 (fun y g1 g2 => F1 y (by omega)) M F2⟩
theorem hj_late_B {h : J_H} {n S a e D d : Nat} {w0 w kp : List Int32} {sst : Int32} (R : hR 343 327 n S a e D w0 w kp sst h) (hD : 2000 ≤ D) (hb : D < 2 ^ 29) (x1 : Int32) (x2 : Int32) : hJ 133 256 [.int x1, .int x2] d h (fun h2 => ∃ st, hR 343 327 n S a e D w0 w kp st h2) := by
  obtain ⟨u, th, tm, sd, ot, tk, od, be, MC, l1, l2⟩ := R.2.2.1
  obtain ⟨-, WC, WW, m, hm, X⟩ := R.2.2.2.2.1
  refine j_V.mono (ga_late_B (th := th) (sst' := sst) (m := m) (D := D) (acs := nI a) (tk := tk) (acne := nI e) R.1 X ⟨by omega, by omega⟩ x1 x2) ?_
  rintro rv h1 ⟨v, st, e1, ⟨rfl, rfl⟩, X1, F1⟩
  refine ⟨_, e1, fun d' => ?_⟩
  refine j_V.mono (gm_late (n := n) (S := S) (MC.fr (fun y h1 h2 => F1 y (by omega))) l1 l2 x1 x2) ?_
  rintro rv2 h2 ⟨e, M, F2⟩
  exact ⟨e, _, R.q X1 (fun y g1 g2 => F1 y (by omega)) M F2⟩
theorem hj_station_B {h : J_H} {n S a e D d : Nat} {w0 w kp : List Int32} {sst : Int32} (R : hR 343 327 n S a e D w0 w kp sst h) (hD : 2000 ≤ D) (hb : D < 2 ^ 29) (x1 : Int32) (x2 : Int32) : hJ 117 236 [.int x1, .int x2] d h (fun h2 => ∃ st, hR 343 327 n S a e D w0 w kp st h2) := by
  obtain ⟨u, th, tm, sd, ot, tk, od, be, MC, l1, l2⟩ := R.2.2.1
  obtain ⟨-, WC, WW, m, hm, X⟩ := R.2.2.2.2.1
  refine j_V.mono (ga_station_B (th := th) (sst' := sst) (m := m) (D := D) (acs := nI a) (tk := tk) (acne := nI e) R.1 X ⟨by omega, by omega⟩ x1 x2) ?_
  rintro rv h1 ⟨v, st, e1, ⟨rfl, rfl⟩, X1, F1⟩
  refine ⟨_, e1, fun d' => ?_⟩
  refine j_V.mono (gm_station (n := n) (S := S) (MC.fr (fun y h1 h2 => F1 y (by omega))) l1 l2 x1 x2) ?_
  rintro rv2 h2 ⟨e, M, F2⟩
  exact ⟨e, _, R.q X1 (fun y g1 g2 => F1 y (by omega)) M F2⟩
theorem hj_track_B {h : J_H} {n S a e D d : Nat} {w0 w kp : List Int32} {sst : Int32} (R : hR 343 327 n S a e D w0 w kp sst h) (hD : 2000 ≤ D) (hb : D < 2 ^ 29) (x1 : Int32) (x2 : Int32) (x3 : Int32) : hJ 118 237 [.int x1, .int x2, .int x3] d h (fun h2 => ∃ st, hR 343 327 n S a e D w0 w kp st h2) := by
  obtain ⟨u, th, tm, sd, ot, tk, od, be, MC, l1, l2⟩ := R.2.2.1
  obtain ⟨-, WC, WW, m, hm, X⟩ := R.2.2.2.2.1
  refine j_V.mono (ga_track_B (th := th) (sst' := sst) (m := m) (D := D) (acs := nI a) (tk := tk) (acne := nI e) R.1 X ⟨by omega, by omega⟩ x1 x2 x3) ?_
  rintro rv h1 ⟨v, st, e1, ⟨rfl, rfl⟩, X1, F1⟩
  refine ⟨_, e1, fun d' => ?_⟩
  refine j_V.mono (gm_track (n := n) (S := S) (MC.fr (fun y h1 h2 => F1 y (by omega))) l1 l2 x1 x2 x3) ?_
  rintro rv2 h2 ⟨e, M, F2⟩
  exact ⟨e, _, R.q X1 (fun y g1 g2 => F1 y (by omega)) M F2⟩
theorem hj_passes_B {h : J_H} {n S a e D d : Nat} {w0 w kp : List Int32} {sst : Int32} (R : hR 343 327 n S a e D w0 w kp sst h) (hD : 2000 ≤ D) (hb : D < 2 ^ 29) (x1 : Int32) (x2 : Int32) : hJ 131 254 [.int x1, .int x2] d h (fun h2 => ∃ st, hR 343 327 n S a e D w0 w kp st h2) := by
  obtain ⟨u, th, tm, sd, ot, tk, od, be, MC, l1, l2⟩ := R.2.2.1
  obtain ⟨-, WC, WW, m, hm, X⟩ := R.2.2.2.2.1
  refine j_V.mono (ga_passes_B (th := th) (sst' := sst) (m := m) (D := D) (acs := nI a) (tk := tk) (acne := nI e) R.1 X ⟨by omega, by omega⟩ x1 x2) ?_
  rintro rv h1 ⟨v, st, e1, ⟨rfl, rfl⟩, X1, F1⟩
  refine ⟨_, e1, fun d' => ?_⟩
  refine j_V.mono (gm_passes (n := n) (S := S) R.wf (MC.fr (fun y h1 h2 => F1 y (by omega))) l1 l2 x1 x2) ?_
  rintro rv2 h2 ⟨e, M, F2⟩
  exact ⟨e, _, R.q X1 (fun y g1 g2 => F1 y (by omega)) M F2⟩
theorem hj_train_B {h : J_H} {n S a e D d : Nat} {w0 w kp : List Int32} {sst : Int32} (R : hR 343 327 n S a e D w0 w kp sst h) (hD : 2000 ≤ D) (hb : D < 2 ^ 29) (x1 : Int32) (x2 : Int32) : hJ 119 240 [.int x1, .int x2] d h (fun h2 => ∃ st, hR 343 327 n S a e D w0 w kp st h2) := by
  obtain ⟨u, th, tm, sd, ot, tk, od, be, MC, l1, l2⟩ := R.2.2.1
  obtain ⟨-, WC, WW, m, hm, X⟩ := R.2.2.2.2.1
  refine j_V.mono (ga_train_B (th := th) (sst' := sst) (m := m) (D := D) (acs := nI a) (tk := tk) (acne := nI e) R.1 X ⟨by omega, by omega⟩ x1 x2) ?_
  rintro rv h1 ⟨v, st, e1, ⟨rfl, rfl⟩, X1, F1⟩
  refine ⟨_, e1, fun d' => ?_⟩
  refine j_V.mono (gm_train (n := n) (S := S) R.wf (MC.fr (fun y h1 h2 => F1 y (by omega))) l1 l2 x1 x2) ?_
  rintro rv2 h2 ⟨e, M, F2⟩
  exact ⟨e, _, R.q X1 (fun y g1 g2 => F1 y (by omega)) M F2⟩
theorem hj_blocks_B {h : J_H} {n S a e D d : Nat} {w0 w kp : List Int32} {sst : Int32} (R : hR 343 327 n S a e D w0 w kp sst h) (hD : 2000 ≤ D) (hb : D < 2 ^ 29) (x1 : Int32) : hJ 126 245 [.int x1] d h (fun h2 => ∃ st, hR 343 327 n S a e D w0 w kp st h2) := by
  obtain ⟨u, th, tm, sd, ot, tk, od, be, MC, l1, l2⟩ := R.2.2.1
  obtain ⟨-, WC, WW, m, hm, X⟩ := R.2.2.2.2.1
  refine j_V.mono (ga_blocks_B (th := th) (sst' := sst) (m := m) (D := D) (acs := nI a) (tk := tk) (acne := nI e) R.1 X ⟨by omega, by omega⟩ x1) ?_
  rintro rv h1 ⟨v, st, e1, ⟨rfl, rfl⟩, X1, F1⟩
  refine ⟨_, e1, fun d' => ?_⟩
  refine j_V.mono (gm_blocks (n := n) (S := S) (MC.fr (fun y h1 h2 => F1 y (by omega))) l1 l2 x1) ?_
  rintro rv2 h2 ⟨e, M, F2⟩
  exact ⟨e, _, R.q X1 (fun y g1 g2 => F1 y (by omega)) M F2⟩
theorem hj_ring_B {h : J_H} {n S a e D d : Nat} {w0 w kp : List Int32} {sst : Int32} (R : hR 343 327 n S a e D w0 w kp sst h) (hD : 2000 ≤ D) (hb : D < 2 ^ 29) : hJ 127 246 [] d h (fun h2 => ∃ st, hR 343 327 n S a e D w0 w kp st h2) := by
  obtain ⟨u, th, tm, sd, ot, tk, od, be, MC, l1, l2⟩ := R.2.2.1
  obtain ⟨-, WC, WW, m, hm, X⟩ := R.2.2.2.2.1
  refine j_V.mono (ga_ring_B (th := th) (sst' := sst) (m := m) (D := D) (acs := nI a) (tk := tk) (acne := nI e) R.1 X ⟨by omega, by omega⟩ ) ?_
  rintro rv h1 ⟨v, st, e1, ⟨rfl, rfl⟩, X1, F1⟩
  refine ⟨_, e1, fun d' => ?_⟩
  refine j_V.mono (gm_ring (n := n) (S := S) R.wf (MC.fr (fun y h1 h2 => F1 y (by omega))) l1 l2 ) ?_
  rintro rv2 h2 ⟨e, M, F2⟩
  exact ⟨e, _, R.q X1 (fun y g1 g2 => F1 y (by omega)) M F2⟩
theorem hj_why_B {h : J_H} {n S a e D d : Nat} {w0 w kp : List Int32} {sst : Int32} (R : hR 343 327 n S a e D w0 w kp sst h) (hD : 2000 ≤ D) (hb : D < 2 ^ 29) (x1 : Int32) : hJ 121 243 [.int x1] d h (fun h2 => ∃ st, hR 343 327 n S a e D w0 w kp st h2) := by
  obtain ⟨u, th, tm, sd, ot, tk, od, be, MC, l1, l2⟩ := R.2.2.1
  obtain ⟨-, WC, WW, m, hm, X⟩ := R.2.2.2.2.1
  refine j_V.mono (ga_why_B (th := th) (sst' := sst) (m := m) (D := D) (acs := nI a) (tk := tk) (acne := nI e) R.1 x1) ?_
  rintro rv h1 ⟨v, st, e1, ⟨rfl, rfl⟩, X1, F1⟩
  refine ⟨_, e1, fun d' => ?_⟩
  refine j_V.mono (gm_why (n := n) (S := S) R.wf (MC.fr (fun y h1 h2 => F1 y (by omega))) l1 l2 x1) ?_
  rintro rv2 h2 ⟨e, M, F2⟩
  exact ⟨e, _, R.q X1 (fun y g1 g2 => F1 y (by omega)) M F2⟩
theorem hj_risks_B {h : J_H} {n S a e D d : Nat} {w0 w kp : List Int32} {sst : Int32} (R : hR 343 327 n S a e D w0 w kp sst h) (hD : 2000 ≤ D) (hb : D < 2 ^ 29) : hJ 123 249 [] d h (fun h2 => ∃ st, hR 343 327 n S a e D w0 w kp st h2) := by
  obtain ⟨u, th, tm, sd, ot, tk, od, be, MC, l1, l2⟩ := R.2.2.1
  obtain ⟨-, WC, WW, m, hm, X⟩ := R.2.2.2.2.1
  refine j_V.mono (ga_risks_B (th := th) (sst' := sst) (m := m) (D := D) (acs := nI a) (tk := tk) (acne := nI e) R.1 ) ?_
  rintro rv h1 ⟨v, st, e1, ⟨rfl, rfl⟩, X1, F1⟩
  refine ⟨_, e1, fun d' => ?_⟩
  refine j_V.mono (gm_risks (n := n) (S := S) R.wf (MC.fr (fun y h1 h2 => F1 y (by omega))) l1 l2 ) ?_
  rintro rv2 h2 ⟨e, M, F2⟩
  exact ⟨e, _, R.q X1 (fun y g1 g2 => F1 y (by omega)) M F2⟩
theorem hj_weak_B {h : J_H} {n S a e D d : Nat} {w0 w kp : List Int32} {sst : Int32} (R : hR 343 327 n S a e D w0 w kp sst h) (hD : 2000 ≤ D) (hb : D < 2 ^ 29) (x1 : Int32) : hJ 124 250 [.int x1] d h (fun h2 => ∃ st, hR 343 327 n S a e D w0 w kp st h2) := by
  obtain ⟨u, th, tm, sd, ot, tk, od, be, MC, l1, l2⟩ := R.2.2.1
  obtain ⟨-, WC, WW, m, hm, X⟩ := R.2.2.2.2.1
  refine j_V.mono (ga_weak_B (th := th) (sst' := sst) (m := m) (D := D) (acs := nI a) (tk := tk) (acne := nI e) R.1 x1) ?_
  rintro rv h1 ⟨v, st, e1, ⟨rfl, rfl⟩, X1, F1⟩
  refine ⟨_, e1, fun d' => ?_⟩
  refine j_V.mono (gm_weak (n := n) (S := S) R.wf (MC.fr (fun y h1 h2 => F1 y (by omega))) l1 l2 x1) ?_
  rintro rv2 h2 ⟨e, M, F2⟩
  exact ⟨e, _, R.q X1 (fun y g1 g2 => F1 y (by omega)) M F2⟩
theorem hj_many_B {h : J_H} {n S a e D d : Nat} {w0 w kp : List Int32} {sst : Int32} (R : hR 343 327 n S a e D w0 w kp sst h) (hD : 2000 ≤ D) (hb : D < 2 ^ 29) (x1 : Int32) : hJ 116 234 [.int x1] d h (fun h2 => ∃ st, hR 343 327 n S a e D w0 w kp st h2) := by
  obtain ⟨u, th, tm, sd, ot, tk, od, be, MC, l1, l2⟩ := R.2.2.1
  obtain ⟨-, WC, WW, m, hm, X⟩ := R.2.2.2.2.1
  refine j_V.mono (ga_many_B (th := th) (sst' := sst) (m := m) (D := D) (acs := nI a) (tk := tk) (acne := nI e) R.1 X ⟨by omega, by omega⟩ R.2.1.1 x1) ?_
  rintro rv h1 ⟨v, st, e1, ⟨rfl, rfl⟩, X1, F1⟩
  refine ⟨_, e1, fun d' => ?_⟩
  refine j_V.mono (gm_many (n := n) (S := S) R.wf (MC.fr (fun y h1 h2 => F1 y (by omega))) l1 l2 x1) ?_
  rintro rv2 h2 ⟨e, M, F2⟩
  exact ⟨e, _, R.q X1 (fun y g1 g2 => F1 y (by omega)) M F2⟩

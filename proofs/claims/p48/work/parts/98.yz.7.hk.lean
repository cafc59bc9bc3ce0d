/-! joined calls, with the frame of the class told: written by wip/py/gen_lg.py -/
def hKj (mi mi' : Nat) (As : List Value) (d : Nat) (h : J_H) (R' : J_H → Prop) : Prop := j_V jP d mi 0 (lv_args 0 (.ref 0 :: As)) [] h (fun rv h1 => ∃ v, rv = some (.int v) ∧ (∀ x, 324 < x → h1[x]? = h[x]?) ∧ ∀ d', j_V jP d' mi' 0 (lv_args 0 (.ref 359 :: As)) [] h1 (fun rv2 h2 => rv2 = some (.int v) ∧ R' h2))
def hKf (mi mi' : Nat) (As : List Value) (d : Nat) (h : J_H) (R' : J_H → Prop) : Prop := j_V jP d mi 0 (lv_args 0 (.ref 0 :: As)) [] h (fun rv h1 => ∃ v, rv = some (.int v) ∧ (∀ x, 324 < x → h1[x]? = h[x]?) ∧ ∀ d', j_V jP d' mi' 0 (lv_args 0 (.ref 359 :: As)) [] h1 (fun rv2 h2 => (∃ v', rv2 = some (.int v')) ∧ R' h2))
theorem hk_cost_A {h : J_H} {n S a e D d : Nat} {w0 w kp : List Int32} {sst : Int32} (R : hR 327 343 n S a e D w0 w kp sst h) (hD : 2000 ≤ D) (hb : D < 2 ^ 29) (Q : hT9 282 0 h) (C281 : h[281]? = some (.inl (1, [.ref 282, .ref 307, .ref 323, .ref 324]))) (x1 : Int32) (x2 : Int32) : hKj 142 271 [.int x1, .int x2] d h (fun h2 => ∃ st, hR 327 343 n S a e D w0 w kp st h2) := by
  obtain ⟨u, th, tm, sd, ot, tk, od, be, MC, l1, l2⟩ := R.2.2.1
  obtain ⟨-, WC, WW, m, hm, X⟩ := R.2.2.2.2.1
  refine j_V.mono (hq_cost_A (th := th) (sst' := sst) R.1 Q C281 X.1.1 (by omega) x1 x2) ?_
  rintro rv h1 Y
  refine ⟨_, Y.1, fun x hx => (by first | exact F1 x (by omega) | exact F1 x (by omega) (by omega) (by omega) | exact Y.2.2.2 x (by omega) (by omega) | rfl), fun d' => ?_⟩
  refine j_V.mono (gm_cost R.wf (MC.fr (fun y h1 h2 => Y.2.2.2 y (by omega) (by omega))) l1 l2 x1 x2) ?_
  rintro rv2 h2 ⟨e, M, F2⟩
  exact ⟨e, _, R.f Y M F2⟩
theorem hk_ahead_A {h : J_H} {n S a e D d : Nat} {w0 w kp : List Int32} {sst : Int32} (R : hR 327 343 n S a e D w0 w kp sst h) (hD : 2000 ≤ D) (hb : D < 2 ^ 29) (Q : hT9 282 0 h) (C281 : h[281]? = some (.inl (1, [.ref 282, .ref 307, .ref 323, .ref 324]))) (x1 : Int32) (x2 : Int32) (x3 : Int32) : hKj 138 262 [.int x1, .int x2, .int x3] d h (fun h2 => ∃ st, hR 327 343 n S a e D w0 w kp st h2) := by
  obtain ⟨u, th, tm, sd, ot, tk, od, be, MC, l1, l2⟩ := R.2.2.1
  obtain ⟨-, WC, WW, m, hm, X⟩ := R.2.2.2.2.1
  refine j_V.mono (hq_ahead_A (th := th) (sst' := sst) R.1 Q C281 X.1.1 (by omega) x1 x2 x3) ?_
  rintro rv h1 Y
  refine ⟨_, Y.1, fun x hx => (by first | exact F1 x (by omega) | exact F1 x (by omega) (by omega) (by omega) | exact Y.2.2.2 x (by omega) (by omega) | rfl), fun d' => ?_⟩
  refine j_V.mono (gm_ahead R.wf (MC.fr (fun y h1 h2 => Y.2.2.2 y (by omega) (by omega))) l1 l2 x1 x2 x3) ?_
  rintro rv2 h2 ⟨e, M, F2⟩
  exact ⟨e, _, R.f Y M F2⟩
theorem hk_ends_A {h : J_H} {n S a e D d : Nat} {w0 w kp : List Int32} {sst : Int32} (R : hR 327 343 n S a e D w0 w kp sst h) (hD : 2000 ≤ D) (hb : D < 2 ^ 29) (Q : hT9 282 0 h) (C281 : h[281]? = some (.inl (1, [.ref 282, .ref 307, .ref 323, .ref 324]))) (x1 : Int32) (x2 : Int32) : hKj 139 264 [.int x1, .int x2] d h (fun h2 => ∃ st, hR 327 343 n S a e D w0 w kp st h2) := by
  obtain ⟨u, th, tm, sd, ot, tk, od, be, MC, l1, l2⟩ := R.2.2.1
  obtain ⟨-, WC, WW, m, hm, X⟩ := R.2.2.2.2.1
  refine j_V.mono (hq_ends_A (th := th) (sst' := sst) R.1 Q C281 X.1.1 (by omega) x1 x2) ?_
  rintro rv h1 Y
  refine ⟨_, Y.1, fun x hx => (by first | exact F1 x (by omega) | exact F1 x (by omega) (by omega) (by omega) | exact Y.2.2.2 x (by omega) (by omega) | rfl), fun d' => ?_⟩
  refine j_V.mono (gm_ends R.wf (MC.fr (fun y h1 h2 => Y.2.2.2 y (by omega) (by omega))) l1 l2 x1 x2) ?_
  rintro rv2 h2 ⟨e, M, F2⟩
  exact ⟨e, _, R.f Y M F2⟩
theorem hk_when_A {h : J_H} {n S a e D d : Nat} {w0 w kp : List Int32} {sst : Int32} (R : hR 327 343 n S a e D w0 w kp sst h) (hD : 2000 ≤ D) (hb : D < 2 ^ 29) (Q : hT9 282 0 h) (C281 : h[281]? = some (.inl (1, [.ref 282, .ref 307, .ref 323, .ref 324]))) (x1 : Int32) : hKj 140 265 [.int x1] d h (fun h2 => ∃ st, hR 327 343 n S a e D w0 w kp st h2) := by
  obtain ⟨u, th, tm, sd, ot, tk, od, be, MC, l1, l2⟩ := R.2.2.1
  obtain ⟨-, WC, WW, m, hm, X⟩ := R.2.2.2.2.1
  refine j_V.mono (hq_when_A (th := th) (sst' := sst) R.1 Q C281 X.1.1 (by omega) WC x1) ?_
  rintro rv h1 Y
  refine ⟨_, Y.1, fun x hx => (by first | exact F1 x (by omega) | exact F1 x (by omega) (by omega) (by omega) | exact Y.2.2.2 x (by omega) (by omega) | rfl), fun d' => ?_⟩
  refine j_V.mono (gm_when R.wf (MC.fr (fun y h1 h2 => Y.2.2.2 y (by omega) (by omega))) l1 l2 x1) ?_
  rintro rv2 h2 ⟨e, M, F2⟩
  exact ⟨e, _, R.f Y M F2⟩
theorem hk_swap_A {h : J_H} {n S a e D d : Nat} {w0 w kp : List Int32} {sst : Int32} (R : hR 327 343 n S a e D w0 w kp sst h) (hD : 2000 ≤ D) (hb : D < 2 ^ 29) (Q : hT9 282 0 h) (C281 : h[281]? = some (.inl (1, [.ref 282, .ref 307, .ref 323, .ref 324]))) (x1 : Int32) (x2 : Int32) : hKj 145 273 [.int x1, .int x2] d h (fun h2 => ∃ st, hR 327 343 n S a e D w0 w kp st h2) := by
  obtain ⟨u, th, tm, sd, ot, tk, od, be, MC, l1, l2⟩ := R.2.2.1
  obtain ⟨-, WC, WW, m, hm, X⟩ := R.2.2.2.2.1
  refine j_V.mono (hq_swap_A (th := th) (sst' := sst) R.1 Q C281 X.1.1 (by omega) x1 x2) ?_
  rintro rv h1 Y
  refine ⟨_, Y.1, fun x hx => (by first | exact F1 x (by omega) | exact F1 x (by omega) (by omega) (by omega) | exact Y.2.2.2 x (by omega) (by omega) | rfl), fun d' => ?_⟩
  refine j_V.mono (gm_swap R.wf (MC.fr (fun y h1 h2 => Y.2.2.2 y (by omega) (by omega))) l1 l2 x1 x2) ?_
  rintro rv2 h2 ⟨e, M, F2⟩
  exact ⟨e, _, R.f Y M F2⟩
theorem hk_loop_A {h : J_H} {n S a e D d : Nat} {w0 w kp : List Int32} {sst : Int32} (R : hR 327 343 n S a e D w0 w kp sst h) (hD : 2000 ≤ D) (hb : D < 2 ^ 29) (Q : hT9 282 0 h) (C281 : h[281]? = some (.inl (1, [.ref 282, .ref 307, .ref 323, .ref 324]))) (Z : hZ9 307 h) (x1 : Int32) (x2 : Int32) : hKj 147 279 [.int x1, .int x2] d h (fun h2 => ∃ st, hR 327 343 n S a e D w0 w kp st h2) := by
  obtain ⟨u, th, tm, sd, ot, tk, od, be, MC, l1, l2⟩ := R.2.2.1
  obtain ⟨-, WC, WW, m, hm, X⟩ := R.2.2.2.2.1
  refine j_V.mono (hq_loop_A (th := th) (sst' := sst) R.1 Q C281 X.1.1 (by omega) Z x1 x2) ?_
  rintro rv h1 Y
  refine ⟨_, Y.1, fun x hx => (by first | exact F1 x (by omega) | exact F1 x (by omega) (by omega) (by omega) | exact Y.2.2.2 x (by omega) (by omega) | rfl), fun d' => ?_⟩
  refine j_V.mono (gm_loop R.wf (MC.fr (fun y h1 h2 => Y.2.2.2 y (by omega) (by omega))) l1 l2 x1 x2) ?_
  rintro rv2 h2 ⟨e, M, F2⟩
  exact ⟨e, _, R.f Y M F2⟩
theorem hk_build_A {h : J_H} {n S a e D d : Nat} {w0 w kp : List Int32} {sst : Int32} (R : hR 327 343 n S a e D w0 w kp sst h) (hD : 2000 ≤ D) (hb : D < 2 ^ 29) (Q : hT9 282 0 h) (C281 : h[281]? = some (.inl (1, [.ref 282, .ref 307, .ref 323, .ref 324]))) (Z : hZ9 307 h) : hKj 148 280 [] d h (fun h2 => ∃ st, hR 327 343 n S a e D w0 w kp st h2) := by
  obtain ⟨u, th, tm, sd, ot, tk, od, be, MC, l1, l2⟩ := R.2.2.1
  obtain ⟨-, WC, WW, m, hm, X⟩ := R.2.2.2.2.1
  refine j_V.mono (hq_build_A (th := th) (sst' := sst) R.1 Q C281 X.1.1 (by omega) Z (price_build X R.wf WW (by omega) (by omega) (by omega)) ) ?_
  rintro rv h1 Y
  refine ⟨_, Y.1, fun x hx => (by first | exact F1 x (by omega) | exact F1 x (by omega) (by omega) (by omega) | exact Y.2.2.2 x (by omega) (by omega) | rfl), fun d' => ?_⟩
  refine j_V.mono (gm_build R.wf (MC.fr (fun y h1 h2 => Y.2.2.2 y (by omega) (by omega))) l1 l2 ) ?_
  rintro rv2 h2 ⟨e, M, F2⟩
  exact ⟨e, _, R.f Y M F2⟩
theorem hk_band_A {h : J_H} {n S a e D d : Nat} {w0 w kp : List Int32} {sst : Int32} (R : hR 327 343 n S a e D w0 w kp sst h) (hD : 2000 ≤ D) (hb : D < 2 ^ 29) (Q : hT9 282 0 h) (C281 : h[281]? = some (.inl (1, [.ref 282, .ref 307, .ref 323, .ref 324]))) (x1 : Int32) (x2 : Int32) : hKj 144 277 [.int x1, .int x2] d h (fun h2 => ∃ st, hR 327 343 n S a e D w0 w kp st h2) := by
  obtain ⟨u, th, tm, sd, ot, tk, od, be, MC, l1, l2⟩ := R.2.2.1
  obtain ⟨-, WC, WW, m, hm, X⟩ := R.2.2.2.2.1
  refine j_V.mono (hq_band_A (th := th) (sst' := sst) R.1 Q C281 X.1.1 (by omega) (price_band X R.wf WW (by omega) (by omega) (by omega)) x1 x2) ?_
  rintro rv h1 Y
  refine ⟨_, Y.1, fun x hx => (by first | exact F1 x (by omega) | exact F1 x (by omega) (by omega) (by omega) | exact Y.2.2.2 x (by omega) (by omega) | rfl), fun d' => ?_⟩
  refine j_V.mono (gm_band R.wf (MC.fr (fun y h1 h2 => Y.2.2.2 y (by omega) (by omega))) l1 l2 x1 x2) ?_
  rintro rv2 h2 ⟨e, M, F2⟩
  exact ⟨e, _, R.f Y M F2⟩
theorem hk_slack_A {h : J_H} {n S a e D d : Nat} {w0 w kp : List Int32} {sst : Int32} (R : hR 327 343 n S a e D w0 w kp sst h) (hD : 2000 ≤ D) (hb : D < 2 ^ 29) (Q : hT9 282 0 h) (C281 : h[281]? = some (.inl (1, [.ref 282, .ref 307, .ref 323, .ref 324]))) (x1 : Int32) : hKf 143 272 [.int x1] d h (fun h2 => ∃ st, hR 327 343 n S a e D w0 w kp st h2) := by
  obtain ⟨u, th, tm, sd, ot, tk, od, be, MC, l1, l2⟩ := R.2.2.1
  obtain ⟨-, WC, WW, m, hm, X⟩ := R.2.2.2.2.1
  refine j_V.mono (hq_slack_A (th := th) (sst' := sst) R.1 Q C281 X.1.1 (by omega) x1) ?_
  rintro rv h1 ⟨v9, Y⟩
  refine ⟨_, Y.1, fun x hx => (by first | exact F1 x (by omega) | exact F1 x (by omega) (by omega) (by omega) | exact Y.2.2.2 x (by omega) (by omega) | rfl), fun d' => ?_⟩
  refine j_V.mono (gm_slack R.wf (MC.fr (fun y h1 h2 => Y.2.2.2 y (by omega) (by omega))) l1 l2 x1) ?_
  rintro rv2 h2 ⟨e, M, F2⟩
  exact ⟨⟨_, e⟩, _, R.f Y M F2⟩
theorem hk_time_A {h : J_H} {n S a e D d : Nat} {w0 w kp : List Int32} {sst : Int32} (R : hR 327 343 n S a e D w0 w kp sst h) (hD : 2000 ≤ D) (hb : D < 2 ^ 29) (x1 : Int32) (x2 : Int32) (x3 : Int32) : hKj 129 252 [.int x1, .int x2, .int x3] d h (fun h2 => ∃ st, hR 327 343 n S a e D w0 w kp st h2) := by
  obtain ⟨u, th, tm, sd, ot, tk, od, be, MC, l1, l2⟩ := R.2.2.1
  obtain ⟨-, WC, WW, m, hm, X⟩ := R.2.2.2.2.1
  refine j_V.mono (ga_time_A (th := th) (sst' := sst) (m := m) (D := D) (acs := nI a) (tk := tk) (acne := nI e) R.1 X ⟨by omega, by omega⟩ x1 x2 x3) ?_
  rintro rv h1 ⟨v, st, e1, ⟨rfl, rfl⟩, X1, F1⟩
  refine ⟨_, e1, fun x hx => (by first | exact F1 x (by omega) | exact F1 x (by omega) (by omega) (by omega) | exact Y.2.2.2 x (by omega) (by omega) | rfl), fun d' => ?_⟩
  refine j_V.mono (gm_time (n := n) (S := S) (MC.fr (fun y h1 h2 => F1 y (by omega))) l1 l2 x1 x2 x3) ?_
  rintro rv2 h2 ⟨e, M, F2⟩
  exact ⟨e, _, R.q X1 (fun y g1 g2 => F1 y (by omega)) M F2⟩
theorem hk_section_A {h : J_H} {n S a e D d : Nat} {w0 w kp : List Int32} {sst : Int32} (R : hR 327 343 n S a e D w0 w kp sst h) (hD : 2000 ≤ D) (hb : D < 2 ^ 29) (x1 : Int32) : hKj 128 247 [.int x1] d h (fun h2 => ∃ st, hR 327 343 n S a e D w0 w kp st h2) := by
  obtain ⟨u, th, tm, sd, ot, tk, od, be, MC, l1, l2⟩ := R.2.2.1
  obtain ⟨-, WC, WW, m, hm, X⟩ := R.2.2.2.2.1
  refine j_V.mono (ga_section_A (th := th) (sst' := sst) (m := m) (D := D) (acs := nI a) (tk := tk) (acne := nI e) R.1 X ⟨by omega, by omega⟩ x1) ?_
  rintro rv h1 ⟨v, st, e1, ⟨rfl, rfl⟩, X1, F1⟩
  refine ⟨_, e1, fun x hx => (by first | exact F1 x (by omega) | exact F1 x (by omega) (by omega) (by omega) | exact Y.2.2.2 x (by omega) (by omega) | rfl), fun d' => ?_⟩
  refine j_V.mono (gm_section (n := n) (S := S) (MC.fr (fun y h1 h2 => F1 y (by omega))) l1 l2 x1) ?_
  rintro rv2 h2 ⟨e, M, F2⟩
  exact ⟨e, _, R.q X1 (fun y g1 g2 => F1 y (by omega)) M F2⟩
theorem hk_use_A {h : J_H} {n S a e D d : Nat} {w0 w kp : List Int32} {sst : Int32} (R : hR 327 343 n S a e D w0 w kp sst h) (hD : 2000 ≤ D) (hb : D < 2 ^ 29) (x1 : Int32) : hKj 135 258 [.int x1] d h (fun h2 => ∃ st, hR 327 343 n S a e D w0 w kp st h2) := by
  obtain ⟨u, th, tm, sd, ot, tk, od, be, MC, l1, l2⟩ := R.2.2.1
  obtain ⟨-, WC, WW, m, hm, X⟩ := R.2.2.2.2.1
  refine j_V.mono (ga_use_A (th := th) (sst' := sst) (m := m) (D := D) (acs := nI a) (tk := tk) (acne := nI e) R.1 X ⟨by omega, by omega⟩ x1) ?_
  rintro rv h1 ⟨v, st, e1, ⟨rfl, rfl⟩, X1, F1⟩
  refine ⟨_, e1, fun x hx => (by first | exact F1 x (by omega) | exact F1 x (by omega) (by omega) (by omega) | exact Y.2.2.2 x (by omega) (by omega) | rfl), fun d' => ?_⟩
  refine j_V.mono (gm_use (n := n) (S := S) (MC.fr (fun y h1 h2 => F1 y (by omega))) l1 l2 x1) ?_
  rintro rv2 h2 ⟨e, M, F2⟩
  exact ⟨e, _, R.q X1 (fun y g1 g2 => F1 y (by omega)) M F2⟩
theorem hk_waits_A {h : J_H} {n S a e D d : Nat} {w0 w kp : List Int32} {sst : Int32} (R : hR 327 343 n S a e D w0 w kp sst h) (hD : 2000 ≤ D) (hb : D < 2 ^ 29) (x1 : Int32) : hKj 137 260 [.int x1] d h (fun h2 => ∃ st, hR 327 343 n S a e D w0 w kp st h2) := by
  obtain ⟨u, th, tm, sd, ot, tk, od, be, MC, l1, l2⟩ := R.2.2.1
  obtain ⟨-, WC, WW, m, hm, X⟩ := R.2.2.2.2.1
  refine j_V.mono (ga_waits_A (th := th) (sst' := sst) (m := m) (D := D) (acs := nI a) (tk := tk) (acne := nI e) R.1 X ⟨by omega, by omega⟩ x1) ?_
  rintro rv h1 ⟨v, st, e1, ⟨rfl, rfl⟩, X1, F1⟩
  refine ⟨_, e1, fun x hx => (by first | exact F1 x (by omega) | exact F1 x (by omega) (by omega) (by omega) | exact Y.2.2.2 x (by omega) (by omega) | rfl), fun d' => ?_⟩
  refine j_V.mono (gm_waits (n := n) (S := S) (MC.fr (fun y h1 h2 => F1 y (by omega))) l1 l2 x1) ?_
  rintro rv2 h2 ⟨e, M, F2⟩
  exact ⟨e, _, R.q X1 (fun y g1 g2 => F1 y (by omega)) M F2⟩
theorem hk_stood_A {h : J_H} {n S a e D d : Nat} {w0 w kp : List Int32} {sst : Int32} (R : hR 327 343 n S a e D w0 w kp sst h) (hD : 2000 ≤ D) (hb : D < 2 ^ 29) (x1 : Int32) : hKj 132 255 [.int x1] d h (fun h2 => ∃ st, hR 327 343 n S a e D w0 w kp st h2) := by
  obtain ⟨u, th, tm, sd, ot, tk, od, be, MC, l1, l2⟩ := R.2.2.1
  obtain ⟨-, WC, WW, m, hm, X⟩ := R.2.2.2.2.1
  refine j_V.mono (ga_stood_A (th := th) (sst' := sst) (m := m) (D := D) (acs := nI a) (tk := tk) (acne := nI e) R.1 X ⟨by omega, by omega⟩ x1) ?_
  rintro rv h1 ⟨v, st, e1, ⟨rfl, rfl⟩, X1, F1⟩
  refine ⟨_, e1, fun x hx => (by first | exact F1 x (by omega) | exact F1 x (by omega) (by omega) (by omega) | exact Y.2.2.2 x (by omega) (by omega) | rfl), fun d' => ?_⟩
  refine j_V.mono (gm_stood (n := n) (S := S) (MC.fr (fun y h1 h2 => F1 y (by omega))) l1 l2 x1) ?_
  rintro rv2 h2 ⟨e, M, F2⟩
  exact ⟨e, _, R.q X1 (fun y g1 g2 => F1 y (by omega)) M F2⟩
theorem hk_together_A {h : J_H} {n S a e D d : Nat} {w0 w kp : List Int32} {sst : Int32} (R : hR 327 343 n S a e D w0 w kp sst h) (hD : 2000 ≤ D) (hb : D < 2 ^ 29) (x1 : Int32) (x2 : Int32) (x3 : Int32) : hKj 130 253 [.int x1, .int x2, .int x3] d h (fun h2 => ∃ st, hR 327 343 n S a e D w0 w kp st h2) := by
  obtain ⟨u, th, tm, sd, ot, tk, od, be, MC, l1, l2⟩ := R.2.2.1
  obtain ⟨-, WC, WW, m, hm, X⟩ := R.2.2.2.2.1
  refine j_V.mono (ga_together_A (th := th) (sst' := sst) (m := m) (D := D) (acs := nI a) (tk := tk) (acne := nI e) R.1 X ⟨by omega, by omega⟩ x1 x2 x3) ?_
  rintro rv h1 ⟨v, st, e1, ⟨rfl, rfl⟩, X1, F1⟩
  refine ⟨_, e1, fun x hx => (by first | exact F1 x (by omega) | exact F1 x (by omega) (by omega) (by omega) | exact Y.2.2.2 x (by omega) (by omega) | rfl), fun d' => ?_⟩
  refine j_V.mono (gm_together (n := n) (S := S) (MC.fr (fun y h1 h2 => F1 y (by omega))) l1 l2 x1 x2 x3) ?_
  rintro rv2 h2 ⟨e, M, F2⟩
  exact ⟨e, _, R.q X1 (fun y g1 g2 => F1 y (by omega)) M F2⟩
theorem hk_event_A {h : J_H} {n S a e D d : Nat} {w0 w kp : List Int32} {sst : Int32} (R : hR 327 343 n S a e D w0 w kp sst h) (hD : 2000 ≤ D) (hb : D < 2 ^ 29) (x1 : Int32) (x2 : Int32) : hKj 134 257 [.int x1, .int x2] d h (fun h2 => ∃ st, hR 327 343 n S a e D w0 w kp st h2) := by
  obtain ⟨u, th, tm, sd, ot, tk, od, be, MC, l1, l2⟩ := R.2.2.1
  obtain ⟨-, WC, WW, m, hm, X⟩ := R.2.2.2.2.1
  refine j_V.mono (ga_event_A (th := th) (sst' := sst) (m := m) (D := D) (acs := nI a) (tk := tk) (acne := nI e) R.1 X ⟨by omega, by omega⟩ x1 x2) ?_
  rintro rv h1 ⟨v, st, e1, ⟨rfl, rfl⟩, X1, F1⟩
  refine ⟨_, e1, fun x hx => (by first | exact F1 x (by omega) | exact F1 x (by omega) (by omega) (by omega) | exact Y.2.2.2 x (by omega) (by omega) | rfl), fun d' => ?_⟩
  refine j_V.mono (gm_event (n := n) (S := S) (MC.fr (fun y h1 h2 => F1 y (by omega))) l1 l2 x1 x2) ?_
  rintro rv2 h2 ⟨e, M, F2⟩
  exact ⟨e, _, R.q X1 (fun y g1 g2 => F1 y (by omega)) M F2⟩
theorem hk_gone_A {h : J_H} {n S a e D d : Nat} {w0 w kp : List Int32} {sst : Int32} (R : hR 327 343 n S a e D w0 w kp sst h) (hD : 2000 ≤ D) (hb : D < 2 ^ 29) (x1 : Int32) (x2 : Int32) : hKj 136 259 [.int x1, .int x2] d h (fun h2 => ∃ st, hR 327 343 n S a e D w0 w kp st h2) := by
  obtain ⟨u, th, tm, sd, ot, tk, od, be, MC, l1, l2⟩ := R.2.2.1
  obtain ⟨-, WC, WW, m, hm, X⟩ := R.2.2.2.2.1
  refine j_V.mono (ga_gone_A (th := th) (sst' := sst) (m := m) (D := D) (acs := nI a) (tk := tk) (acne := nI e) R.1 X ⟨by omega, by omega⟩ x1 x2) ?_
  rintro rv h1 ⟨v, st, e1, ⟨rfl, rfl⟩, X1, F1⟩
  refine ⟨_, e1, fun x hx => (by first | exact F1 x (by omega) | exact F1 x (by omega) (by omega) (by omega) | exact Y.2.2.2 x (by omega) (by omega) | rfl), fun d' => ?_⟩
  refine j_V.mono (gm_gone (n := n) (S := S) (MC.fr (fun y h1 h2 => F1 y (by omega))) l1 l2 x1 x2) ?_
  rintro rv2 h2 ⟨e, M, F2⟩
  exact ⟨e, _, R.q X1 (fun y g1 g2 => F1 y (by omega)) M F2⟩
theorem hk_links_A {h : J_H} {n S a e D d : Nat} {w0 w kp : List Int32} {sst : Int32} (R : hR 327 343 n S a e D w0 w kp sst h) (hD : 2000 ≤ D) (hb : D < 2 ^ 29) (x1 : Int32) (x2 : Int32) : hKj 125 251 [.int x1, .int x2] d h (fun h2 => ∃ st, hR 327 343 n S a e D w0 w kp st h2) := by
  obtain ⟨u, th, tm, sd, ot, tk, od, be, MC, l1, l2⟩ := R.2.2.1
  obtain ⟨-, WC, WW, m, hm, X⟩ := R.2.2.2.2.1
  refine j_V.mono (ga_links_A (th := th) (sst' := sst) (m := m) (D := D) (acs := nI a) (tk := tk) (acne := nI e) R.1 x1 x2) ?_
  rintro rv h1 ⟨v, st, e1, ⟨rfl, rfl⟩, X1, F1⟩
  refine ⟨_, e1, fun x hx => (by first | exact F1 x (by omega) | exact F1 x (by omega) (by omega) (by omega) | exact Y.2.2.2 x (by omega) (by omega) | rfl), fun d' => ?_⟩
  refine j_V.mono (gm_links (n := n) (S := S) (MC.fr (fun y h1 h2 => F1 y (by omega))) l1 l2 x1 x2) ?_
  rintro rv2 h2 ⟨e, M, F2⟩
  exact ⟨e, _, R.q X1 (fun y g1 g2 => F1 y (by omega)) M F2⟩
theorem hk_fits_A {h : J_H} {n S a e D d : Nat} {w0 w kp : List Int32} {sst : Int32} (R : hR 327 343 n S a e D w0 w kp sst h) (hD : 2000 ≤ D) (hb : D < 2 ^ 29) (x1 : Int32) : hKj 120 242 [.int x1] d h (fun h2 => ∃ st, hR 327 343 n S a e D w0 w kp st h2) := by
  obtain ⟨u, th, tm, sd, ot, tk, od, be, MC, l1, l2⟩ := R.2.2.1
  obtain ⟨-, WC, WW, m, hm, X⟩ := R.2.2.2.2.1
  refine j_V.mono (ga_fits_A (th := th) (sst' := sst) (m := m) (D := D) (acs := nI a) (tk := tk) (acne := nI e) R.1 X ⟨by omega, by omega⟩ x1) ?_
  rintro rv h1 ⟨v, st, e1, ⟨rfl, rfl⟩, X1, F1⟩
  refine ⟨_, e1, fun x hx => (by first | exact F1 x (by omega) | exact F1 x (by omega) (by omega) (by omega) | exact Y.2.2.2 x (by omega) (by omega) | rfl), fun d' => ?_⟩
  refine j_V.mono (gm_fits (n := n) (S := S) (MC.fr (fun y h1 h2 => F1 y (by omega))) l1 l2 x1) ?_
  rintro rv2 h2 ⟨e, M, F2⟩
  exact ⟨e, _, R.q X1 (fun y g1 g2 => F1 y (by omega)) M F2⟩
theorem hk_late_A {h : J_H} {n S a e D d : Nat} {w0 w kp : List Int32} {sst : Int32} (R : hR 327 343 n S a e D w0 w kp sst h) (hD : 2000 ≤ D) (hb : D < 2 ^ 29) (x1 : Int32) (x2 : Int32) : hKj 133 256 [.int x1, .int x2] d h (fun h2 => ∃ st, hR 327 343 n S a e D w0 w kp st h2) := by
  obtain ⟨u, th, tm, sd, ot, tk, od, be, MC, l1, l2⟩ := R.2.2.1
  obtain ⟨-, WC, WW, m, hm, X⟩ := R.2.2.2.2.1
  refine j_V.mono (ga_late_A (th := th) (sst' := sst) (m := m) (D := D) (acs := nI a) (tk := tk) (acne := nI e) R.1 X ⟨by omega, by omega⟩ x1 x2) ?_
  rintro rv h1 ⟨v, st, e1, ⟨rfl, rfl⟩, X1, F1⟩
  refine ⟨_, e1, fun x hx => (by first | exact F1 x (by omega) | exact F1 x (by omega) (by omega) (by omega) | exact Y.2.2.2 x (by omega) (by omega) | rfl), fun d' => ?_⟩
  refine j_V.mono (gm_late (n := n) (S := S) (MC.fr (fun y h1 h2 => F1 y (by omega))) l1 l2 x1 x2) ?_
  rintro rv2 h2 ⟨e, M, F2⟩
  exact ⟨e, _, R.q X1 (fun y g1 g2 => F1 y (by omega)) M F2⟩
theorem hk_station_A {h : J_H} {n S a e D d : Nat} {w0 w kp : List Int32} {sst : Int32} (R : hR 327 343 n S a e D w0 w kp sst h) (hD : 2000 ≤ D) (hb : D < 2 ^ 29) (x1 : Int32) (x2 : Int32) : hKj 117 236 [.int x1, .int x2] d h (fun h2 => ∃ st, hR 327 343 n S a e D w0 w kp st h2) := by
  obtain ⟨u, th, tm, sd, ot, tk, od, be, MC, l1, l2⟩ := R.2.2.1
  obtain ⟨-, WC, WW, m, hm, X⟩ := R.2.2.2.2.1
  refine j_V.mono (ga_station_A (th := th) (sst' := sst) (m := m) (D := D) (acs := nI a) (tk := tk) (acne := nI e) R.1 X ⟨by omega, by omega⟩ x1 x2) ?_
  rintro rv h1 ⟨v, st, e1, ⟨rfl, rfl⟩, X1, F1⟩
  refine ⟨_, e1, fun x hx => (by first | exact F1 x (by omega) | exact F1 x (by omega) (by omega) (by omega) | exact Y.2.2.2 x (by omega) (by omega) | rfl), fun d' => ?_⟩
  refine j_V.mono (gm_station (n := n) (S := S) (MC.fr (fun y h1 h2 => F1 y (by omega))) l1 l2 x1 x2) ?_
  rintro rv2 h2 ⟨e, M, F2⟩
  exact ⟨e, _, R.q X1 (fun y g1 g2 => F1 y (by omega)) M F2⟩
theorem hk_track_A {h : J_H} {n S a e D d : Nat} {w0 w kp : List Int32} {sst : Int32} (R : hR 327 343 n S a e D w0 w kp sst h) (hD : 2000 ≤ D) (hb : D < 2 ^ 29) (x1 : Int32) (x2 : Int32) (x3 : Int32) : hKj 118 237 [.int x1, .int x2, .int x3] d h (fun h2 => ∃ st, hR 327 343 n S a e D w0 w kp st h2) := by
  obtain ⟨u, th, tm, sd, ot, tk, od, be, MC, l1, l2⟩ := R.2.2.1
  obtain ⟨-, WC, WW, m, hm, X⟩ := R.2.2.2.2.1
  refine j_V.mono (ga_track_A (th := th) (sst' := sst) (m := m) (D := D) (acs := nI a) (tk := tk) (acne := nI e) R.1 X ⟨by omega, by omega⟩ x1 x2 x3) ?_
  rintro rv h1 ⟨v, st, e1, ⟨rfl, rfl⟩, X1, F1⟩
  refine ⟨_, e1, fun x hx => (by first | exact F1 x (by omega) | exact F1 x (by omega) (by omega) (by omega) | exact Y.2.2.2 x (by omega) (by omega) | rfl), fun d' => ?_⟩
  refine j_V.mono (gm_track (n := n) (S := S) (MC.fr (fun y h1 h2 => F1 y (by omega))) l1 l2 x1 x2 x3) ?_
  rintro rv2 h2 ⟨e, M, F2⟩
  exact ⟨e, _, R.q X1 (fun y g1 g2 => F1 y (by omega)) M F2⟩
theorem hk_passes_A {h : J_H} {n S a e D d : Nat} {w0 w kp : List Int32} {sst : Int32} (R : hR 327 343 n S a e D w0 w kp sst h) (hD : 2000 ≤ D) (hb : D < 2 ^ 29) (x1 : Int32) (x2 : Int32) : hKj 131 254 [.int x1, .int x2] d h (fun h2 => ∃ st, hR 327 343 n S a e D w0 w kp st h2) := by
  obtain ⟨u, th, tm, sd, ot, tk, od, be, MC, l1, l2⟩ := R.2.2.1
  obtain ⟨-, WC, WW, m, hm, X⟩ := R.2.2.2.2.1
  refine j_V.mono (ga_passes_A (th := th) (sst' := sst) (m := m) (D := D) (acs := nI a) (tk := tk) (acne := nI e) R.1 X ⟨by omega, by omega⟩ x1 x2) ?_
  rintro rv h1 ⟨v, st, e1, ⟨rfl, rfl⟩, X1, F1⟩
  refine ⟨_, e1, fun x hx => (by first | exact F1 x (by omega) | exact F1 x (by omega) (by omega) (by omega) | exact Y.2.2.2 x (by omega) (by omega) | rfl), fun d' => ?_⟩
  refine j_V.mono (gm_passes (n := n) (S := S) R.wf (MC.fr (fun y h1 h2 => F1 y (by omega))) l1 l2 x1 x2) ?_
  rintro rv2 h2 ⟨e, M, F2⟩
  exact ⟨e, _, R.q X1 (fun y g1 g2 => F1 y (by omega)) M F2⟩
theorem hk_train_A {h : J_H} {n S a e D d : Nat} {w0 w kp : List Int32} {sst : Int32} (R : hR 327 343 n S a e D w0 w kp sst h) (hD : 2000 ≤ D) (hb : D < 2 ^ 29) (x1 : Int32) (x2 : Int32) : hKj 119 240 [.int x1, .int x2] d h (fun h2 => ∃ st, hR 327 343 n S a e D w0 w kp st h2) := by
  obtain ⟨u, th, tm, sd, ot, tk, od, be, MC, l1, l2⟩ := R.2.2.1
  obtain ⟨-, WC, WW, m, hm, X⟩ := R.2.2.2.2.1
  refine j_V.mono (ga_train_A (th := th) (sst' := sst) (m := m) (D := D) (acs := nI a) (tk := tk) (acne := nI e) R.1 X ⟨by omega, by omega⟩ x1 x2) ?_
  rintro rv h1 ⟨v, st, e1, ⟨rfl, rfl⟩, X1, F1⟩
  refine ⟨_, e1, fun x hx => (by first | exact F1 x (by omega) | exact F1 x (by omega) (by omega) (by omega) | exact Y.2.2.2 x (by omega) (by omega) | rfl), fun d' => ?_⟩
  refine j_V.mono (gm_train (n := n) (S := S) R.wf (MC.fr (fun y h1 h2 => F1 y (by omega))) l1 l2 x1 x2) ?_
  rintro rv2 h2 ⟨e, M, F2⟩
  exact ⟨e, _, R.q X1 (fun y g1 g2 => F1 y (by omega)) M F2⟩
theorem hk_blocks_A {h : J_H} {n S a e D d : Nat} {w0 w kp : List Int32} {sst : Int32} (R : hR 327 343 n S a e D w0 w kp sst h) (hD : 2000 ≤ D) (hb : D < 2 ^ 29) (x1 : Int32) : hKj 126 245 [.int x1] d h (fun h2 => ∃ st, hR 327 343 n S a e D w0 w kp st h2) := by
  obtain ⟨u, th, tm, sd, ot, tk, od, be, MC, l1, l2⟩ := R.2.2.1
  obtain ⟨-, WC, WW, m, hm, X⟩ := R.2.2.2.2.1
  refine j_V.mono (ga_blocks_A (th := th) (sst' := sst) (m := m) (D := D) (acs := nI a) (tk := tk) (acne := nI e) R.1 X ⟨by omega, by omega⟩ x1) ?_
  rintro rv h1 ⟨v, st, e1, ⟨rfl, rfl⟩, X1, F1⟩
  refine ⟨_, e1, fun x hx => (by first | exact F1 x (by omega) | exact F1 x (by omega) (by omega) (by omega) | exact Y.2.2.2 x (by omega) (by omega) | rfl), fun d' => ?_⟩
  refine j_V.mono (gm_blocks (n := n) (S := S) (MC.fr (fun y h1 h2 => F1 y (by omega))) l1 l2 x1) ?_
  rintro rv2 h2 ⟨e, M, F2⟩
  exact ⟨e, _, R.q X1 (fun y g1 g2 => F1 y (by omega)) M F2⟩
theorem hk_ring_A {h : J_H} {n S a e D d : Nat} {w0 w kp : List Int32} {sst : Int32} (R : hR 327 343 n S a e D w0 w kp sst h) (hD : 2000 ≤ D) (hb : D < 2 ^ 29) : hKj 127 246 [] d h (fun h2 => ∃ st, hR 327 343 n S a e D w0 w kp st h2) := by
  obtain ⟨u, th, tm, sd, ot, tk, od, be, MC, l1, l2⟩ := R.2.2.1
  obtain ⟨-, WC, WW, m, hm, X⟩ := R.2.2.2.2.1
  refine j_V.mono (ga_ring_A (th := th) (sst' := sst) (m := m) (D := D) (acs := nI a) (tk := tk) (acne := nI e) R.1 X ⟨by omega, by omega⟩ ) ?_
  rintro rv h1 ⟨v, st, e1, ⟨rfl, rfl⟩, X1, F1⟩
  refine ⟨_, e1, fun x hx => (by first | exact F1 x (by omega) | exact F1 x (by omega) (by omega) (by omega) | exact Y.2.2.2 x (by omega) (by omega) | rfl), fun d' => ?_⟩
  refine j_V.mono (gm_ring (n := n) (S := S) R.wf (MC.fr (fun y h1 h2 => F1 y (by omega))) l1 l2 ) ?_
  rintro rv2 h2 ⟨e, M, F2⟩
  exact ⟨e, _, R.q X1 (fun y g1 g2 => F1 y (by omega)) M F2⟩
theorem hk_why_A {h : J_H} {n S a e D d : Nat} {w0 w kp : List Int32} {sst : Int32} (R : hR 327 343 n S a e D w0 w kp sst h) (hD : 2000 ≤ D) (hb : D < 2 ^ 29) (x1 : Int32) : hKj 121 243 [.int x1] d h (fun h2 => ∃ st, hR 327 343 n S a e D w0 w kp st h2) := by
  obtain ⟨u, th, tm, sd, ot, tk, od, be, MC, l1, l2⟩ := R.2.2.1
  obtain ⟨-, WC, WW, m, hm, X⟩ := R.2.2.2.2.1
  refine j_V.mono (ga_why_A (th := th) (sst' := sst) (m := m) (D := D) (acs := nI a) (tk := tk) (acne := nI e) R.1 x1) ?_
  rintro rv h1 ⟨v, st, e1, ⟨rfl, rfl⟩, X1, F1⟩
  refine ⟨_, e1, fun x hx => (by first | exact F1 x (by omega) | exact F1 x (by omega) (by omega) (by omega) | exact Y.2.2.2 x (by omega) (by omega) | rfl), fun d' => ?_⟩
  refine j_V.mono (gm_why (n := n) (S := S) R.wf (MC.fr (fun y h1 h2 => F1 y (by omega))) l1 l2 x1) ?_
  rintro rv2 h2 ⟨e, M, F2⟩
  exact ⟨e, _, R.q X1 (fun y g1 g2 => F1 y (by omega)) M F2⟩
theorem hk_risks_A {h : J_H} {n S a e D d : Nat} {w0 w kp : List Int32} {sst : Int32} (R : hR 327 343 n S a e D w0 w kp sst h) (hD : 2000 ≤ D) (hb : D < 2 ^ 29) : hKj 123 249 [] d h (fun h2 => ∃ st, hR 327 343 n S a e D w0 w kp st h2) := by
  obtain ⟨u, th, tm, sd, ot, tk, od, be, MC, l1, l2⟩ := R.2.2.1
  obtain ⟨-, WC, WW, m, hm, X⟩ := R.2.2.2.2.1
  refine j_V.mono (ga_risks_A (th := th) (sst' := sst) (m := m) (D := D) (acs := nI a) (tk := tk) (acne := nI e) R.1 ) ?_
  rintro rv h1 ⟨v, st, e1, ⟨rfl, rfl⟩, X1, F1⟩
  refine ⟨_, e1, fun x hx => (by first | exact F1 x (by omega) | exact F1 x (by omega) (by omega) (by omega) | exact Y.2.2.2 x (by omega) (by omega) | rfl), fun d' => ?_⟩
  refine j_V.mono (gm_risks (n := n) (S := S) R.wf (MC.fr (fun y h1 h2 => F1 y (by omega))) l1 l2 ) ?_
  rintro rv2 h2 ⟨e, M, F2⟩
  exact ⟨e, _, R.q X1 (fun y g1 g2 => F1 y (by omega)) M F2⟩
theorem hk_weak_A {h : J_H} {n S a e D d : Nat} {w0 w kp : List Int32} {sst : Int32} (R : hR 327 343 n S a e D w0 w kp sst h) (hD : 2000 ≤ D) (hb : D < 2 ^ 29) (x1 : Int32) : hKj 124 250 [.int x1] d h (fun h2 => ∃ st, hR 327 343 n S a e D w0 w kp st h2) := by
  obtain ⟨u, th, tm, sd, ot, tk, od, be, MC, l1, l2⟩ := R.2.2.1
  obtain ⟨-, WC, WW, m, hm, X⟩ := R.2.2.2.2.1
  refine j_V.mono (ga_weak_A (th := th) (sst' := sst) (m := m) (D := D) (acs := nI a) (tk := tk) (acne := nI e) R.1 x1) ?_
  rintro rv h1 ⟨v, st, e1, ⟨rfl, rfl⟩, X1, F1⟩
  refine ⟨_, e1, fun x hx => (by first | exact F1 x (by omega) | exact F1 x (by omega) (by omega) (by omega) | exact Y.2.2.2 x (by omega) (by omega) | rfl), fun d' => ?_⟩
  refine j_V.mono (gm_weak (n := n) (S := S) R.wf (MC.fr (fun y h1 h2 => F1 y (by omega))) l1 l2 x1) ?_
  rintro rv2 h2 ⟨e, M, F2⟩
  exact ⟨e, _, R.q X1 (fun y g1 g2 => F1 y (by omega)) M F2⟩
theorem hk_many_A {h : J_H} {n S a e D d : Nat} {w0 w kp : List Int32} {sst : Int32} (R : hR 327 343 n S a e D w0 w kp sst h) (hD : 2000 ≤ D) (hb : D < 2 ^ 29) (x1 : Int32) : hKj 116 234 [.int x1] d h (fun h2 => ∃ st, hR 327 343 n S a e D w0 w kp st h2) := by
  obtain ⟨u, th, tm, sd, ot, tk, od, be, MC, l1, l2⟩ := R.2.2.1
  obtain ⟨-, WC, WW, m, hm, X⟩ := R.2.2.2.2.1
  refine j_V.mono (ga_many_A (th := th) (sst' := sst) (m := m) (D := D) (acs := nI a) (tk := tk) (acne := nI e) R.1 X ⟨by omega, by omega⟩ R.2.1.1 x1) ?_
  rintro rv h1 ⟨v, st, e1, ⟨rfl, rfl⟩, X1, F1⟩
  refine ⟨_, e1, fun x hx => (by first | exact F1 x (by omega) | exact F1 x (by omega) (by omega) (by omega) | exact Y.2.2.2 x (by omega) (by omega) | rfl), fun d' => ?_⟩
  refine j_V.mono (gm_many (n := n) (S := S) R.wf (MC.fr (fun y h1 h2 => F1 y (by omega))) l1 l2 x1) ?_
  rintro rv2 h2 ⟨e, M, F2⟩
  exact ⟨e, _, R.q X1 (fun y g1 g2 => F1 y (by omega)) M F2⟩
theorem hk_cost_B {h : J_H} {n S a e D d : Nat} {w0 w kp : List Int32} {sst : Int32} (R : hR 343 327 n S a e D w0 w kp sst h) (hD : 2000 ≤ D) (hb : D < 2 ^ 29) (Q : hT9 282 0 h) (C281 : h[281]? = some (.inl (1, [.ref 282, .ref 307, .ref 323, .ref 324]))) (x1 : Int32) (x2 : Int32) : hKj 142 271 [.int x1, .int x2] d h (fun h2 => ∃ st, hR 343 327 n S a e D w0 w kp st h2) := by
  obtain ⟨u, th, tm, sd, ot, tk, od, be, MC, l1, l2⟩ := R.2.2.1
  obtain ⟨-, WC, WW, m, hm, X⟩ := R.2.2.2.2.1
  refine j_V.mono (hq_cost_B (th := th) (sst' := sst) R.1 Q C281 X.1.1 (by omega) x1 x2) ?_
  rintro rv h1 Y
  refine ⟨_, Y.1, fun x hx => (by first | exact F1 x (by omega) | exact F1 x (by omega) (by omega) (by omega) | exact Y.2.2.2 x (by omega) (by omega) | rfl), fun d' => ?_⟩
  refine j_V.mono (gm_cost R.wf (MC.fr (fun y h1 h2 => Y.2.2.2 y (by omega) (by omega))) l1 l2 x1 x2) ?_
  rintro rv2 h2 ⟨e, M, F2⟩
  exact ⟨e, _, R.f Y M F2⟩
theorem hk_ahead_B {h : J_H} {n S a e D d : Nat} {w0 w kp : List Int32} {sst : Int32} (R : hR 343 327 n S a e D w0 w kp sst h) (hD : 2000 ≤ D) (hb : D < 2 ^ 29) (Q : hT9 282 0 h) (C281 : h[281]? = some (.inl (1, [.ref 282, .ref 307, .ref 323, .ref 324]))) (x1 : Int32) (x2 : Int32) (x3 : Int32) : hKj 138 262 [.int x1, .int x2, .int x3] d h (fun h2 => ∃ st, hR 343 327 n S a e D w0 w kp st h2) := by
  obtain ⟨u, th, tm, sd, ot, tk, od, be, MC, l1, l2⟩ := R.2.2.1
  obtain ⟨-, WC, WW, m, hm, X⟩ := R.2.2.2.2.1
  refine j_V.mono (hq_ahead_B (th := th) (sst' := sst) R.1 Q C281 X.1.1 (by omega) x1 x2 x3) ?_
  rintro rv h1 Y
  refine ⟨_, Y.1, fun x hx => (by first | exact F1 x (by omega) | exact F1 x (by omega) (by omega) (by omega) | exact Y.2.2.2 x (by omega) (by omega) | rfl), fun d' => ?_⟩
  refine j_V.mono (gm_ahead R.wf (MC.fr (fun y h1 h2 => Y.2.2.2 y (by omega) (by omega))) l1 l2 x1 x2 x3) ?_
  rintro rv2 h2 ⟨e, M, F2⟩
  exact ⟨e, _, R.f Y M F2⟩
theorem hk_ends_B {h : J_H} {n S a e D d : Nat} {w0 w kp : List Int32} {sst : Int32} (R : hR 343 327 n S a e D w0 w kp sst h) (hD : 2000 ≤ D) (hb : D < 2 ^ 29) (Q : hT9 282 0 h) (C281 : h[281]? = some (.inl (1, [.ref 282, .ref 307, .ref 323, .ref 324]))) (x1 : Int32) (x2 : Int32) : hKj 139 264 [.int x1, .int x2] d h (fun h2 => ∃ st, hR 343 327 n S a e D w0 w kp st h2) := by
  obtain ⟨u, th, tm, sd, ot, tk, od, be, MC, l1, l2⟩ := R.2.2.1
  obtain ⟨-, WC, WW, m, hm, X⟩ := R.2.2.2.2.1
  refine j_V.mono (hq_ends_B (th := th) (sst' := sst) R.1 Q C281 X.1.1 (by omega) x1 x2) ?_
  rintro rv h1 Y
  refine ⟨_, Y.1, fun x hx => (by first | exact F1 x (by omega) | exact F1 x (by omega) (by omega) (by omega) | exact Y.2.2.2 x (by omega) (by omega) | rfl), fun d' => ?_⟩
  refine j_V.mono (gm_ends R.wf (MC.fr (fun y h1 h2 => Y.2.2.2 y (by omega) (by omega))) l1 l2 x1 x2) ?_
  rintro rv2 h2 ⟨e, M, F2⟩
  exact ⟨e, _, R.f Y M F2⟩
theorem hk_when_B {h : J_H} {n S a e D d : Nat} {w0 w kp : List Int32} {sst : Int32} (R : hR 343 327 n S a e D w0 w kp sst h) (hD : 2000 ≤ D) (hb : D < 2 ^ 29) (Q : hT9 282 0 h) (C281 : h[281]? = some (.inl (1, [.ref 282, .ref 307, .ref 323, .ref 324]))) (x1 : Int32) : hKj 140 265 [.int x1] d h (fun h2 => ∃ st, hR 343 327 n S a e D w0 w kp st h2) := by
  obtain ⟨u, th, tm, sd, ot, tk, od, be, MC, l1, l2⟩ := R.2.2.1
  obtain ⟨-, WC, WW, m, hm, X⟩ := R.2.2.2.2.1
  refine j_V.mono (hq_when_B (th := th) (sst' := sst) R.1 Q C281 X.1.1 (by omega) WC x1) ?_
  rintro rv h1 Y
  refine ⟨_, Y.1, fun x hx => (by first | exact F1 x (by omega) | exact F1 x (by omega) (by omega) (by omega) | exact Y.2.2.2 x (by omega) (by omega) | rfl), fun d' => ?_⟩
  refine j_V.mono (gm_when R.wf (MC.fr (fun y h1 h2 => Y.2.2.2 y (by omega) (by omega))) l1 l2 x1) ?_
  rintro rv2 h2 ⟨e, M, F2⟩
  exact ⟨e, _, R.f Y M F2⟩
theorem hk_swap_B {h : J_H} {n S a e D d : Nat} {w0 w kp : List Int32} {sst : Int32} (R : hR 343 327 n S a e D w0 w kp sst h) (hD : 2000 ≤ D) (hb : D < 2 ^ 29) (Q : hT9 282 0 h) (C281 : h[281]? = some (.inl (1, [.ref 282, .ref 307, .ref 323, .ref 324]))) (x1 : Int32) (x2 : Int32) : hKj 145 273 [.int x1, .int x2] d h (fun h2 => ∃ st, hR 343 327 n S a e D w0 w kp st h2) := by
  obtain ⟨u, th, tm, sd, ot, tk, od, be, MC, l1, l2⟩ := R.2.2.1
  obtain ⟨-, WC, WW, m, hm, X⟩ := R.2.2.2.2.1
  refine j_V.mono (hq_swap_B (th := th) (sst' := sst) R.1 Q C281 X.1.1 (by omega) x1 x2) ?_
  rintro rv h1 Y
  refine ⟨_, Y.1, fun x hx => (by first | exact F1 x (by omega) | exact F1 x (by omega) (by omega) (by omega) | exact Y.2.2.2 x (by omega) (by omega) | rfl), fun d' => ?_⟩
  refine j_V.mono (gm_swap R.wf (MC.fr (fun y h1 h2 => Y.2.2.2 y (by omega) (by omega))) l1 l2 x1 x2) ?_
  rintro rv2 h2 ⟨e, M, F2⟩
  exact ⟨e, _, R.f Y M F2⟩
theorem hk_loop_B {h : J_H} {n S a e D d : Nat} {w0 w kp : List Int32} {sst : Int32} (R : hR 343 327 n S a e D w0 w kp sst h) (hD : 2000 ≤ D) (hb : D < 2 ^ 29) (Q : hT9 282 0 h) (C281 : h[281]? = some (.inl (1, [.ref 282, .ref 307, .ref 323, .ref 324]))) (Z : hZ9 307 h) (x1 : Int32) (x2 : Int32) : hKj 147 279 [.int x1, .int x2] d h (fun h2 => ∃ st, hR 343 327 n S a e D w0 w kp st h2) := by
  obtain ⟨u, th, tm, sd, ot, tk, od, be, MC, l1, l2⟩ := R.2.2.1
  obtain ⟨-, WC, WW, m, hm, X⟩ := R.2.2.2.2.1
  refine j_V.mono (hq_loop_B (th := th) (sst' := sst) R.1 Q C281 X.1.1 (by omega) Z x1 x2) ?_
  rintro rv h1 Y
  refine ⟨_, Y.1, fun x hx => (by first | exact F1 x (by omega) | exact F1 x (by omega) (by omega) (by omega) | exact Y.2.2.2 x (by omega) (by omega) | rfl), fun d' => ?_⟩
  refine j_V.mono (gm_loop R.wf (MC.fr (fun y h1 h2 => Y.2.2.2 y (by omega) (by omega))) l1 l2 x1 x2) ?_
  rintro rv2 h2 ⟨e, M, F2⟩
  exact ⟨e, _, R.f Y M F2⟩
theorem hk_build_B {h : J_H} {n S a e D d : Nat} {w0 w kp : List Int32} {sst : Int32} (R : hR 343 327 n S a e D w0 w kp sst h) (hD : 2000 ≤ D) (hb : D < 2 ^ 29) (Q : hT9 282 0 h) (C281 : h[281]? = some (.inl (1, [.ref 282, .ref 307, .ref 323, .ref 324]))) (Z : hZ9 307 h) : hKj 148 280 [] d h (fun h2 => ∃ st, hR 343 327 n S a e D w0 w kp st h2) := by
  obtain ⟨u, th, tm, sd, ot, tk, od, be, MC, l1, l2⟩ := R.2.2.1
  obtain ⟨-, WC, WW, m, hm, X⟩ := R.2.2.2.2.1
  refine j_V.mono (hq_build_B (th := th) (sst' := sst) R.1 Q C281 X.1.1 (by omega) Z (price_build X R.wf WW (by omega) (by omega) (by omega)) ) ?_
  rintro rv h1 Y
  refine ⟨_, Y.1, fun x hx => (by first | exact F1 x (by omega) | exact F1 x (by omega) (by omega) (by omega) | exact Y.2.2.2 x (by omega) (by omega) | rfl), fun d' => ?_⟩
  refine j_V.mono (gm_build R.wf (MC.fr (fun y h1 h2 => Y.2.2.2 y (by omega) (by omega))) l1 l2 ) ?_
  rintro rv2 h2 ⟨e, M, F2⟩
  exact ⟨e, _, R.f Y M F2⟩
theorem hk_band_B {h : J_H} {n S a e D d : Nat} {w0 w kp : List Int32} {sst : Int32} (R : hR 343 327 n S a e D w0 w kp sst h) (hD : 2000 ≤ D) (hb : D < 2 ^ 29) (Q : hT9 282 0 h) (C281 : h[281]? = some (.inl (1, [.ref 282, .ref 307, .ref 323, .ref 324]))) (x1 : Int32) (x2 : Int32) : hKj 144 277 [.int x1, .int x2] d h (fun h2 => ∃ st, hR 343 327 n S a e D w0 w kp st h2) := by
  obtain ⟨u, th, tm, sd, ot, tk, od, be, MC, l1, l2⟩ := R.2.2.1
  obtain ⟨-, WC, WW, m, hm, X⟩ := R.2.2.2.2.1
  refine j_V.mono (hq_band_B (th := th) (sst' := sst) R.1 Q C281 X.1.1 (by omega) (price_band X R.wf WW (by omega) (by omega) (by omega)) x1 x2) ?_
  rintro rv h1 Y
  refine ⟨_, Y.1, fun x hx => (by first | exact F1 x (by omega) | exact F1 x (by omega) (by omega) (by omega) | exact Y.2.2.2 x (by omega) (by omega) | rfl), fun d' => ?_⟩
  refine j_V.mono (gm_band R.wf (MC.fr (fun y h1 h2 => Y.2.2.2 y (by omega) (by omega))) l1 l2 x1 x2) ?_
  rintro rv2 h2 ⟨e, M, F2⟩
  exact ⟨e, _, R.f Y M F2⟩
theorem hk_slack_B {h : J_H} {n S a e D d : Nat} {w0 w kp : List Int32} {sst : Int32} (R : hR 343 327 n S a e D w0 w kp sst h) (hD : 2000 ≤ D) (hb : D < 2 ^ 29) (Q : hT9 282 0 h) (C281 : h[281]? = some (.inl (1, [.ref 282, .ref 307, .ref 323, .ref 324]))) (x1 : Int32) : hKf 143 272 [.int x1] d h (fun h2 => ∃ st, hR 343 327 n S a e D w0 w kp st h2) := by
  obtain ⟨u, th, tm, sd, ot, tk, od, be, MC, l1, l2⟩ := R.2.2.1
  obtain ⟨-, WC, WW, m, hm, X⟩ := R.2.2.2.2.1
  refine j_V.mono (hq_slack_B (th := th) (sst' := sst) R.1 Q C281 X.1.1 (by omega) x1) ?_
  rintro rv h1 ⟨v9, Y⟩
  refine ⟨_, Y.1, fun x hx => (by first | exact F1 x (by omega) | exact F1 x (by omega) (by omega) (by omega) | exact Y.2.2.2 x (by omega) (by omega) | rfl), fun d' => ?_⟩
  refine j_V.mono (gm_slack R.wf (MC.fr (fun y h1 h2 => Y.2.2.2 y (by omega) (by omega))) l1 l2 x1) ?_
  rintro rv2 h2 ⟨e, M, F2⟩
  exact ⟨⟨_, e⟩, _, R.f Y M F2⟩
theorem hk_time_B {h : J_H} {n S a e D d : Nat} {w0 w kp : List Int32} {sst : Int32} (R : hR 343 327 n S a e D w0 w kp sst h) (hD : 2000 ≤ D) (hb : D < 2 ^ 29) (x1 : Int32) (x2 : Int32) (x3 : Int32) : hKj 129 252 [.int x1, .int x2, .int x3] d h (fun h2 => ∃ st, hR 343 327 n S a e D w0 w kp st h2) := by
  obtain ⟨u, th, tm, sd, ot, tk, od, be, MC, l1, l2⟩ := R.2.2.1
  obtain ⟨-, WC, WW, m, hm, X⟩ := R.2.2.2.2.1
  refine j_V.mono (ga_time_B (th := th) (sst' := sst) (m := m) (D := D) (acs := nI a) (tk := tk) (acne := nI e) R.1 X ⟨by omega, by omega⟩ x1 x2 x3) ?_
  rintro rv h1 ⟨v, st, e1, ⟨rfl, rfl⟩, X1, F1⟩
  refine ⟨_, e1, fun x hx => (by first | exact F1 x (by omega) | exact F1 x (by omega) (by omega) (by omega) | exact Y.2.2.2 x (by omega) (by omega) | rfl), fun d' => ?_⟩
  refine j_V.mono (gm_time (n := n) (S := S) (MC.fr (fun y h1 h2 => F1 y (by omega))) l1 l2 x1 x2 x3) ?_
  rintro rv2 h2 ⟨e, M, F2⟩
  exact ⟨e, _, R.q X1 (fun y g1 g2 => F1 y (by omega)) M F2⟩
theorem hk_section_B {h : J_H} {n S a e D d : Nat} {w0 w kp : List Int32} {sst : Int32} (R : hR 343 327 n S a e D w0 w kp sst h) (hD : 2000 ≤ D) (hb : D < 2 ^ 29) (x1 : Int32) : hKj 128 247 [.int x1] d h (fun h2 => ∃ st, hR 343 327 n S a e D w0 w kp st h2) := by
  obtain ⟨u, th, tm, sd, ot, tk, od, be, MC, l1, l2⟩ := R.2.2.1
  obtain ⟨-, WC, WW, m, hm, X⟩ := R.2.2.2.2.1
  refine j_V.mono (ga_section_B (th := th) (sst' := sst) (m := m) (D := D) (acs := nI a) (tk := tk) (acne := nI e) R.1 X ⟨by omega, by omega⟩ x1) ?_
  rintro rv h1 ⟨v, st, e1, ⟨rfl, rfl⟩, X1, F1⟩
  refine ⟨_, e1, fun x hx => (by first | exact F1 x (by omega) | exact F1 x (by omega) (by omega) (by omega) | exact Y.2.2.2 x (by omega) (by omega) | rfl), fun d' => ?_⟩
  refine j_V.mono (gm_section (n := n) (S := S) (MC.fr (fun y h1 h2 => F1 y (by omega))) l1 l2 x1) ?_
  rintro rv2 h2 ⟨e, M, F2⟩
  exact ⟨e, _, R.q X1 (fun y g1 g2 => F1 y (by omega)) M F2⟩
theorem hk_use_B {h : J_H} {n S a e D d : Nat} {w0 w kp : List Int32} {sst : Int32} (R : hR 343 327 n S a e D w0 w kp sst h) (hD : 2000 ≤ D) (hb : D < 2 ^ 29) (x1 : Int32) : hKj 135 258 [.int x1] d h (fun h2 => ∃ st, hR 343 327 n S a e D w0 w kp st h2) := by
  obtain ⟨u, th, tm, sd, ot, tk, od, be, MC, l1, l2⟩ := R.2.2.1
  obtain ⟨-, WC, WW, m, hm, X⟩ := R.2.2.2.2.1
  refine j_V.mono (ga_use_B (th := th) (sst' := sst) (m := m) (D := D) (acs := nI a) (tk := tk) (acne := nI e) R.1 X ⟨by omega, by omega⟩ x1) ?_
  rintro rv h1 ⟨v, st, e1, ⟨rfl, rfl⟩, X1, F1⟩
  refine ⟨_, e1, fun x hx => (by first | exact F1 x (by omega) | exact F1 x (by omega) (by omega) (by omega) | exact Y.2.2.2 x (by omega) (by omega) | rfl), fun d' => ?_⟩
  refine j_V.mono (gm_use (n := n) (S := S) (MC.fr (fun y h1 h2 => F1 y (by omega))) l1 l2 x1) ?_
  rintro rv2 h2 ⟨e, M, F2⟩
  exact ⟨e, _, R.q X1 (fun y g1 g2 => F1 y (by omega)) M F2⟩
theorem hk_waits_B {h : J_H} {n S a e D d : Nat} {w0 w kp : List Int32} {sst : Int32} (R : hR 343 327 n S a e D w0 w kp sst h) (hD : 2000 ≤ D) (hb : D < 2 ^ 29) (x1 : Int32) : hKj 137 260 [.int x1] d h (fun h2 => ∃ st, hR 343 327 n S a e D w0 w kp st h2) := by
  obtain ⟨u, th, tm, sd, ot, tk, od, be, MC, l1, l2⟩ := R.2.2.1
  obtain ⟨-, WC, WW, m, hm, X⟩ := R.2.2.2.2.1
  refine j_V.mono (ga_waits_B (th := th) (sst' := sst) (m := m) (D := D) (acs := nI a) (tk := tk) (acne := nI e) R.1 X ⟨by omega, by omega⟩ x1) ?_
  rintro rv h1 ⟨v, st, e1, ⟨rfl, rfl⟩, X1, F1⟩
  refine ⟨_, e1, fun x hx => (by first | exact F1 x (by omega) | exact F1 x (by omega) (by omega) (by omega) | exact Y.2.2.2 x (by omega) (by omega) | rfl), fun d' => ?_⟩
  refine j_V.mono (gm_waits (n := n) (S := S) (MC.fr (fun y h1 h2 => F1 y (by omega))) l1 l2 x1) ?_
  rintro rv2 h2 ⟨e, M, F2⟩
  exact ⟨e, _, R.q X1 (fun y g1 g2 => F1 y (by omega)) M F2⟩
theorem hk_stood_B {h : J_H} {n S a e D d : Nat} {w0 w kp : List Int32} {sst : Int32} (R : hR 343 327 n S a e D w0 w kp sst h) (hD : 2000 ≤ D) (hb : D < 2 ^ 29) (x1 : Int32) : hKj 132 255 [.int x1] d h (fun h2 => ∃ st, hR 343 327 n S a e D w0 w kp st h2) := by
  obtain ⟨u, th, tm, sd, ot, tk, od, be, MC, l1, l2⟩ := R.2.2.1
  obtain ⟨-, WC, WW, m, hm, X⟩ := R.2.2.2.2.1
  refine j_V.mono (ga_stood_B (th := th) (sst' := sst) (m := m) (D := D) (acs := nI a) (tk := tk) (acne := nI e) R.1 X ⟨by omega, by omega⟩ x1) ?_
  rintro rv h1 ⟨v, st, e1, ⟨rfl, rfl⟩, X1, F1⟩
  refine ⟨_, e1, fun x hx => (by first | exact F1 x (by omega) | exact F1 x (by omega) (by omega) (by omega) | exact Y.2.2.2 x (by omega) (by omega) | rfl), fun d' => ?_⟩
  refine j_V.mono (gm_stood (n := n) (S := S) (MC.fr (fun y h1 h2 => F1 y (by omega))) l1 l2 x1) ?_
  rintro rv2 h2 ⟨e, M, F2⟩
  exact ⟨e, _, R.q X1 (fun y g1 g2 => F1 y (by omega)) M F2⟩
theorem hk_together_B {h : J_H} {n S a e D d : Nat} {w0 w kp : List Int32} {sst : Int32} (R : hR 343 327 n S a e D w0 w kp sst h) (hD : 2000 ≤ D) (hb : D < 2 ^ 29) (x1 : Int32) (x2 : Int32) (x3 : Int32) : hKj 130 253 [.int x1, .int x2, .int x3] d h (fun h2 => ∃ st, hR 343 327 n S a e D w0 w kp st h2) := by
  obtain ⟨u, th, tm, sd, ot, tk, od, be, MC, l1, l2⟩ := R.2.2.1
  obtain ⟨-, WC, WW, m, hm, X⟩ := R.2.2.2.2.1
  refine j_V.mono (ga_together_B (th := th) (sst' := sst) (m := m) (D := D) (acs := nI a) (tk := tk) (acne := nI e) R.1 X ⟨by omega, by omega⟩ x1 x2 x3) ?_
  rintro rv h1 ⟨v, st, e1, ⟨rfl, rfl⟩, X1, F1⟩
  refine ⟨_, e1, fun x hx => (by first | exact F1 x (by omega) | exact F1 x (by omega) (by omega) (by omega) | exact Y.2.2.2 x (by omega) (by omega) | rfl), fun d' => ?_⟩
  refine j_V.mono (gm_together (n := n) (S := S) (MC.fr (fun y h1 h2 => F1 y (by omega))) l1 l2 x1 x2 x3) ?_
  rintro rv2 h2 ⟨e, M, F2⟩
  exact ⟨e, _, R.q X1 (fun y g1 g2 => F1 y (by omega)) M F2⟩
theorem hk_event_B {h : J_H} {n S a e D d : Nat} {w0 w kp : List Int32} {sst : Int32} (R : hR 343 327 n S a e D w0 w kp sst h) (hD : 2000 ≤ D) (hb : D < 2 ^ 29) (x1 : Int32) (x2 : Int32) : hKj 134 257 [.int x1, .int x2] d h (fun h2 => ∃ st, hR 343 327 n S a e D w0 w kp st h2) := by
  obtain ⟨u, th, tm, sd, ot, tk, od, be, MC, l1, l2⟩ := R.2.2.1
  obtain ⟨-, WC, WW, m, hm, X⟩ := R.2.2.2.2.1
  refine j_V.mono (ga_event_B (th := th) (sst' := sst) (m := m) (D := D) (acs := nI a) (tk := tk) (acne := nI e) R.1 X ⟨by omega, by omega⟩ x1 x2) ?_
  rintro rv h1 ⟨v, st, e1, ⟨rfl, rfl⟩, X1, F1⟩
  refine ⟨_, e1, fun x hx => (by first | exact F1 x (by omega) | exact F1 x (by omega) (by omega) (by omega) | exact Y.2.2.2 x (by omega) (by omega) | rfl), fun d' => ?_⟩
  refine j_V.mono (gm_event (n := n) (S := S) (MC.fr (fun y h1 h2 => F1 y (by omega))) l1 l2 x1 x2) ?_
  rintro rv2 h2 ⟨e, M, F2⟩
  exact ⟨e, _, R.q X1 (fun y g1 g2 => F1 y (by omega)) M F2⟩
theorem hk_gone_B {h : J_H} {n S a e D d : Nat} {w0 w kp : List Int32} {sst : Int32} (R : hR 343 327 n S a e D w0 w kp sst h) (hD : 2000 ≤ D) (hb : D < 2 ^ 29) (x1 : Int32) (x2 : Int32) : hKj 136 259 [.int x1, .int x2] d h (fun h2 => ∃ st, hR 343 327 n S a e D w0 w kp st h2) := by
  obtain ⟨u, th, tm, sd, ot, tk, od, be, MC, l1, l2⟩ := R.2.2.1
  obtain ⟨-, WC, WW, m, hm, X⟩ := R.2.2.2.2.1
  refine j_V.mono (ga_gone_B (th := th) (sst' := sst) (m := m) (D := D) (acs := nI a) (tk := tk) (acne := nI e) R.1 X ⟨by omega, by omega⟩ x1 x2) ?_
  rintro rv h1 ⟨v, st, e1, ⟨rfl, rfl⟩, X1, F1⟩
  refine ⟨_, e1, fun x hx => (by first | exact F1 x (by omega) | exact F1 x (by omega) (by omega) (by omega) | exact Y.2.2.2 x (by omega) (by omega) | rfl), fun d' => ?_⟩
  refine j_V.mono (gm_gone (n := n) (S := S) (MC.fr (fun y h1 h2 => F1 y (by omega))) l1 l2 x1 x2) ?_
  rintro rv2 h2 ⟨e, M, F2⟩
  exact ⟨e, _, R.q X1 (fun y g1 g2 => F1 y (by omega)) M F2⟩
theorem hk_links_B {h : J_H} {n S a e D d : Nat} {w0 w kp : List Int32} {sst : Int32} (R : hR 343 327 n S a e D w0 w kp sst h) (hD : 2000 ≤ D) (hb : D < 2 ^ 29) (x1 : Int32) (x2 : Int32) : hKj 125 251 [.int x1, .int x2] d h (fun h2 => ∃ st, hR 343 327 n S a e D w0 w kp st h2) := by
  obtain ⟨u, th, tm, sd, ot, tk, od, be, MC, l1, l2⟩ := R.2.2.1
  obtain ⟨-, WC, WW, m, hm, X⟩ := R.2.2.2.2.1
  refine j_V.mono (ga_links_B (th := th) (sst' := sst) (m := m) (D := D) (acs := nI a) (tk := tk) (acne := nI e) R.1 x1 x2) ?_
  rintro rv h1 ⟨v, st, e1, ⟨rfl, rfl⟩, X1, F1⟩
  refine ⟨_, e1, fun x hx => (by first | exact F1 x (by omega) | exact F1 x (by omega) (by omega) (by omega) | exact Y.2.2.2 x (by omega) (by omega) | rfl), fun d' => ?_⟩
  refine j_V.mono (gm_links (n := n) (S := S) (MC.fr (fun y h1 h2 => F1 y (by omega))) l1 l2 x1 x2) ?_
  rintro rv2 h2 ⟨e, M, F2⟩
  exact ⟨e, _, R.q X1 (fun y g1 g2 => F1 y (by omega)) M F2⟩
theorem hk_fits_B {h : J_H} {n S a e D d : Nat} {w0 w kp : List Int32} {sst : Int32} (R : hR 343 327 n S a e D w0 w kp sst h) (hD : 2000 ≤ D) (hb : D < 2 ^ 29) (x1 : Int32) : hKj 120 242 [.int x1] d h (fun h2 => ∃ st, hR 343 327 n S a e D w0 w kp st h2) := by
  obtain ⟨u, th, tm, sd, ot, tk, od, be, MC, l1, l2⟩ := R.2.2.1
  obtain ⟨-, WC, WW, m, hm, X⟩ := R.2.2.2.2.1
  refine j_V.mono (ga_fits_B (th := th) (sst' := sst) (m := m) (D := D) (acs := nI a) (tk := tk) (acne := nI e) R.1 X ⟨by omega, by omega⟩ x1) ?_
  rintro rv h1 ⟨v, st, e1, ⟨rfl, rfl⟩, X1, F1⟩
  refine ⟨_, e1, fun x hx => (by first | exact F1 x (by omega) | exact F1 x (by omega) (by omega) (by omega) | exact Y.2.2.2 x (by omega) (by omega) | rfl), fun d' => ?_⟩
  refine j_V.mono (gm_fits (n := n) (S := S) (MC.fr (fun y h1 h2 => F1 y (by omega))) l1 l2 x1) ?_
  rintro rv2 h2 ⟨e, M, F2⟩
  exact ⟨e, _, R.q X1 (fun y g1 g2 => F1 y (by omega)) M F2⟩
theorem hk_late_B {h : J_H} {n S a e D d : Nat} {w0 w kp : List Int32} {sst : Int32} (R : hR 343 327 n S a e D w0 w kp sst h) (hD : 2000 ≤ D) (hb : D < 2 ^ 29) (x1 : Int32) (x2 : Int32) : hKj 133 256 [.int x1, .int x2] d h (fun h2 => ∃ st, hR 343 327 n S a e D w0 w kp st h2) := by
  obtain ⟨u, th, tm, sd, ot, tk, od, be, MC, l1, l2⟩ := R.2.2.1
  obtain ⟨-, WC, WW, m, hm, X⟩ := R.2.2.2.2.1
  refine j_V.mono (ga_late_B (th := th) (sst' := sst) (m := m) (D := D) (acs := nI a) (tk := tk) (acne := nI e) R.1 X ⟨by omega, by omega⟩ x1 x2) ?_
  rintro rv h1 ⟨v, st, e1, ⟨rfl, rfl⟩, X1, F1⟩
  refine ⟨_, e1, fun x hx => (by first | exact F1 x (by omega) | exact F1 x (by omega) (by omega) (by omega) | exact Y.2.2.2 x (by omega) (by omega) | rfl), fun d' => ?_⟩
  refine j_V.mono (gm_late (n := n) (S := S) (MC.fr (fun y h1 h2 => F1 y (by omega))) l1 l2 x1 x2) ?_
  rintro rv2 h2 ⟨e, M, F2⟩
  exact ⟨e, _, R.q X1 (fun y g1 g2 => F1 y (by omega)) M F2⟩
theorem hk_station_B {h : J_H} {n S a e D d : Nat} {w0 w kp : List Int32} {sst : Int32} (R : hR 343 327 n S a e D w0 w kp sst h) (hD : 2000 ≤ D) (hb : D < 2 ^ 29) (x1 : Int32) (x2 : Int32) : hKj 117 236 [.int x1, .int x2] d h (fun h2 => ∃ st, hR 343 327 n S a e D w0 w kp st h2) := by
  obtain ⟨u, th, tm, sd, ot, tk, od, be, MC, l1, l2⟩ := R.2.2.1
  obtain ⟨-, WC, WW, m, hm, X⟩ := R.2.2.2.2.1
  refine j_V.mono (ga_station_B (th := th) (sst' := sst) (m := m) (D := D) (acs := nI a) (tk := tk) (acne := nI e) R.1 X ⟨by omega, by omega⟩ x1 x2) ?_
  rintro rv h1 ⟨v, st, e1, ⟨rfl, rfl⟩, X1, F1⟩
  refine ⟨_, e1, fun x hx => (by first | exact F1 x (by omega) | exact F1 x (by omega) (by omega) (by omega) | exact Y.2.2.2 x (by omega) (by omega) | rfl), fun d' => ?_⟩
  refine j_V.mono (gm_station (n := n) (S := S) (MC.fr (fun y h1 h2 => F1 y (by omega))) l1 l2 x1 x2) ?_
  rintro rv2 h2 ⟨e, M, F2⟩
  exact ⟨e, _, R.q X1 (fun y g1 g2 => F1 y (by omega)) M F2⟩
theorem hk_track_B {h : J_H} {n S a e D d : Nat} {w0 w kp : List Int32} {sst : Int32} (R : hR 343 327 n S a e D w0 w kp sst h) (hD : 2000 ≤ D) (hb : D < 2 ^ 29) (x1 : Int32) (x2 : Int32) (x3 : Int32) : hKj 118 237 [.int x1, .int x2, .int x3] d h (fun h2 => ∃ st, hR 343 327 n S a e D w0 w kp st h2) := by
  obtain ⟨u, th, tm, sd, ot, tk, od, be, MC, l1, l2⟩ := R.2.2.1
  obtain ⟨-, WC, WW, m, hm, X⟩ := R.2.2.2.2.1
  refine j_V.mono (ga_track_B (th := th) (sst' := sst) (m := m) (D := D) (acs := nI a) (tk := tk) (acne := nI e) R.1 X ⟨by omega, by omega⟩ x1 x2 x3) ?_
  rintro rv h1 ⟨v, st, e1, ⟨rfl, rfl⟩, X1, F1⟩
  refine ⟨_, e1, fun x hx => (by first | exact F1 x (by omega) | exact F1 x (by omega) (by omega) (by omega) | exact Y.2.2.2 x (by omega) (by omega) | rfl), fun d' => ?_⟩
  refine j_V.mono (gm_track (n := n) (S := S) (MC.fr (fun y h1 h2 => F1 y (by omega))) l1 l2 x1 x2 x3) ?_
  rintro rv2 h2 ⟨e, M, F2⟩
  exact ⟨e, _, R.q X1 (fun y g1 g2 => F1 y (by omega)) M F2⟩
theorem hk_passes_B {h : J_H} {n S a e D d : Nat} {w0 w kp : List Int32} {sst : Int32} (R : hR 343 327 n S a e D w0 w kp sst h) (hD : 2000 ≤ D) (hb : D < 2 ^ 29) (x1 : Int32) (x2 : Int32) : hKj 131 254 [.int x1, .int x2] d h (fun h2 => ∃ st, hR 343 327 n S a e D w0 w kp st h2) := by
  obtain ⟨u, th, tm, sd, ot, tk, od, be, MC, l1, l2⟩ := R.2.2.1
  obtain ⟨-, WC, WW, m, hm, X⟩ := R.2.2.2.2.1
  refine j_V.mono (ga_passes_B (th := th) (sst' := sst) (m := m) (D := D) (acs := nI a) (tk := tk) (acne := nI e) R.1 X ⟨by omega, by omega⟩ x1 x2) ?_
  rintro rv h1 ⟨v, st, e1, ⟨rfl, rfl⟩, X1, F1⟩
  refine ⟨_, e1, fun x hx => (by first | exact F1 x (by omega) | exact F1 x (by omega) (by omega) (by omega) | exact Y.2.2.2 x (by omega) (by omega) | rfl), fun d' => ?_⟩
  refine j_V.mono (gm_passes (n := n) (S := S) R.wf (MC.fr (fun y h1 h2 => F1 y (by omega))) l1 l2 x1 x2) ?_
  rintro rv2 h2 ⟨e, M, F2⟩
  exact ⟨e, _, R.q X1 (fun y g1 g2 => F1 y (by omega)) M F2⟩
theorem hk_train_B {h : J_H} {n S a e D d : Nat} {w0 w kp : List Int32} {sst : Int32} (R : hR 343 327 n S a e D w0 w kp sst h) (hD : 2000 ≤ D) (hb : D < 2 ^ 29) (x1 : Int32) (x2 : Int32) : hKj 119 240 [.int x1, .int x2] d h (fun h2 => ∃ st, hR 343 327 n S a e D w0 w kp st h2) := by
  obtain ⟨u, th, tm, sd, ot, tk, od, be, MC, l1, l2⟩ := R.2.2.1
  obtain ⟨-, WC, WW, m, hm, X⟩ := R.2.2.2.2.1
  refine j_V.mono (ga_train_B (th := th) (sst' := sst) (m := m) (D := D) (acs := nI a) (tk := tk) (acne := nI e) R.1 X ⟨by omega, by omega⟩ x1 x2) ?_
  rintro rv h1 ⟨v, st, e1, ⟨rfl, rfl⟩, X1, F1⟩
  refine ⟨_, e1, fun x hx => (by first | exact F1 x (by omega) | exact F1 x (by omega) (by omega) (by omega) | exact Y.2.2.2 x (by omega) (by omega) | rfl), fun d' => ?_⟩
  refine j_V.mono (gm_train (n := n) (S := S) R.wf (MC.fr (fun y h1 h2 => F1 y (by omega))) l1 l2 x1 x2) ?_
  rintro rv2 h2 ⟨e, M, F2⟩
  exact ⟨e, _, R.q X1 (fun y g1 g2 => F1 y (by omega)) M F2⟩
theorem hk_blocks_B {h : J_H} {n S a e D d : Nat} {w0 w kp : List Int32} {sst : Int32} (R : hR 343 327 n S a e D w0 w kp sst h) (hD : 2000 ≤ D) (hb : D < 2 ^ 29) (x1 : Int32) : hKj 126 245 [.int x1] d h (fun h2 => ∃ st, hR 343 327 n S a e D w0 w kp st h2) := by
  obtain ⟨u, th, tm, sd, ot, tk, od, be, MC, l1, l2⟩ := R.2.2.1
  obtain ⟨-, WC, WW, m, hm, X⟩ := R.2.2.2.2.1
  refine j_V.mono (ga_blocks_B (th := th) (sst' := sst) (m := m) (D := D) (acs := nI a) (tk := tk) (acne := nI e) R.1 X ⟨by omega, by omega⟩ x1) ?_
  rintro rv h1 ⟨v, st, e1, ⟨rfl, rfl⟩, X1, F1⟩
  refine ⟨_, e1, fun x hx => (by first | exact F1 x (by omega) | exact F1 x (by omega) (by omega) (by omega) | exact Y.2.2.2 x (by omega) (by omega) | rfl), fun d' => ?_⟩
  refine j_V.mono (gm_blocks (n := n) (S := S) (MC.fr (fun y h1 h2 => F1 y (by omega))) l1 l2 x1) ?_
  rintro rv2 h2 ⟨e, M, F2⟩
  exact ⟨e, _, R.q X1 (fun y g1 g2 => F1 y (by omega)) M F2⟩
theorem hk_ring_B {h : J_H} {n S a e D d : Nat} {w0 w kp : List Int32} {sst : Int32} (R : hR 343 327 n S a e D w0 w kp sst h) (hD : 2000 ≤ D) (hb : D < 2 ^ 29) : hKj 127 246 [] d h (fun h2 => ∃ st, hR 343 327 n S a e D w0 w kp st h2) := by
  obtain ⟨u, th, tm, sd, ot, tk, od, be, MC, l1, l2⟩ := R.2.2.1
  obtain ⟨-, WC, WW, m, hm, X⟩ := R.2.2.2.2.1
  refine j_V.mono (ga_ring_B (th := th) (sst' := sst) (m := m) (D := D) (acs := nI a) (tk := tk) (acne := nI e) R.1 X ⟨by omega, by omega⟩ ) ?_
  rintro rv h1 ⟨v, st, e1, ⟨rfl, rfl⟩, X1, F1⟩
  refine ⟨_, e1, fun x hx => (by first | exact F1 x (by omega) | exact F1 x (by omega) (by omega) (by omega) | exact Y.2.2.2 x (by omega) (by omega) | rfl), fun d' => ?_⟩
  refine j_V.mono (gm_ring (n := n) (S := S) R.wf (MC.fr (fun y h1 h2 => F1 y (by omega))) l1 l2 ) ?_
  rintro rv2 h2 ⟨e, M, F2⟩
  exact ⟨e, _, R.q X1 (fun y g1 g2 => F1 y (by omega)) M F2⟩
theorem hk_why_B {h : J_H} {n S a e D d : Nat} {w0 w kp : List Int32} {sst : Int32} (R : hR 343 327 n S a e D w0 w kp sst h) (hD : 2000 ≤ D) (hb : D < 2 ^ 29) (x1 : Int32) : hKj 121 243 [.int x1] d h (fun h2 => ∃ st, hR 343 327 n S a e D w0 w kp st h2) := by
  obtain ⟨u, th, tm, sd, ot, tk, od, be, MC, l1, l2⟩ := R.2.2.1
  obtain ⟨-, WC, WW, m, hm, X⟩ := R.2.2.2.2.1
  refine j_V.mono (ga_why_B (th := th) (sst' := sst) (m := m) (D := D) (acs := nI a) (tk := tk) (acne := nI e) R.1 x1) ?_
  rintro rv h1 ⟨v, st, e1, ⟨rfl, rfl⟩, X1, F1⟩
  refine ⟨_, e1, fun x hx => (by first | exact F1 x (by omega) | exact F1 x (by omega) (by omega) (by omega) | exact Y.2.2.2 x (by omega) (by omega) | rfl), fun d' => ?_⟩
  refine j_V.mono (gm_why (n := n) (S := S) R.wf (MC.fr (fun y h1 h2 => F1 y (by omega))) l1 l2 x1) ?_
  rintro rv2 h2 ⟨e, M, F2⟩
  exact ⟨e, _, R.q X1 (fun y g1 g2 => F1 y (by omega)) M F2⟩
theorem hk_risks_B {h : J_H} {n S a e D d : Nat} {w0 w kp : List Int32} {sst : Int32} (R : hR 343 327 n S a e D w0 w kp sst h) (hD : 2000 ≤ D) (hb : D < 2 ^ 29) : hKj 123 249 [] d h (fun h2 => ∃ st, hR 343 327 n S a e D w0 w kp st h2) := by
  obtain ⟨u, th, tm, sd, ot, tk, od, be, MC, l1, l2⟩ := R.2.2.1
  obtain ⟨-, WC, WW, m, hm, X⟩ := R.2.2.2.2.1
  refine j_V.mono (ga_risks_B (th := th) (sst' := sst) (m := m) (D := D) (acs := nI a) (tk := tk) (acne := nI e) R.1 ) ?_
  rintro rv h1 ⟨v, st, e1, ⟨rfl, rfl⟩, X1, F1⟩
  refine ⟨_, e1, fun x hx => (by first | exact F1 x (by omega) | exact F1 x (by omega) (by omega) (by omega) | exact Y.2.2.2 x (by omega) (by omega) | rfl), fun d' => ?_⟩
  refine j_V.mono (gm_risks (n := n) (S := S) R.wf (MC.fr (fun y h1 h2 => F1 y (by omega))) l1 l2 ) ?_
  rintro rv2 h2 ⟨e, M, F2⟩
  exact ⟨e, _, R.q X1 (fun y g1 g2 => F1 y (by omega)) M F2⟩
theorem hk_weak_B {h : J_H} {n S a e D d : Nat} {w0 w kp : List Int32} {sst : Int32} (R : hR 343 327 n S a e D w0 w kp sst h) (hD : 2000 ≤ D) (hb : D < 2 ^ 29) (x1 : Int32) : hKj 124 250 [.int x1] d h (fun h2 => ∃ st, hR 343 327 n S a e D w0 w kp st h2) := by
  obtain ⟨u, th, tm, sd, ot, tk, od, be, MC, l1, l2⟩ := R.2.2.1
  obtain ⟨-, WC, WW, m, hm, X⟩ := R.2.2.2.2.1
  refine j_V.mono (ga_weak_B (th := th) (sst' := sst) (m := m) (D := D) (acs := nI a) (tk := tk) (acne := nI e) R.1 x1) ?_
  rintro rv h1 ⟨v, st, e1, ⟨rfl, rfl⟩, X1, F1⟩
  refine ⟨_, e1, fun x hx => (by first | exact F1 x (by omega) | exact F1 x (by omega) (by omega) (by omega) | exact Y.2.2.2 x (by omega) (by omega) | rfl), fun d' => ?_⟩
  refine j_V.mono (gm_weak (n := n) (S := S) R.wf (MC.fr (fun y h1 h2 => F1 y (by omega))) l1 l2 x1) ?_
  rintro rv2 h2 ⟨e, M, F2⟩
  exact ⟨e, _, R.q X1 (fun y g1 g2 => F1 y (by omega)) M F2⟩
theorem hk_many_B {h : J_H} {n S a e D d : Nat} {w0 w kp : List Int32} {sst : Int32} (R : hR 343 327 n S a e D w0 w kp sst h) (hD : 2000 ≤ D) (hb : D < 2 ^ 29) (x1 : Int32) : hKj 116 234 [.int x1] d h (fun h2 => ∃ st, hR 343 327 n S a e D w0 w kp st h2) := by
  obtain ⟨u, th, tm, sd, ot, tk, od, be, MC, l1, l2⟩ := R.2.2.1
  obtain ⟨-, WC, WW, m, hm, X⟩ := R.2.2.2.2.1
  refine j_V.mono (ga_many_B (th := th) (sst' := sst) (m := m) (D := D) (acs := nI a) (tk := tk) (acne := nI e) R.1 X ⟨by omega, by omega⟩ R.2.1.1 x1) ?_
  rintro rv h1 ⟨v, st, e1, ⟨rfl, rfl⟩, X1, F1⟩
  refine ⟨_, e1, fun x hx => (by first | exact F1 x (by omega) | exact F1 x (by omega) (by omega) (by omega) | exact Y.2.2.2 x (by omega) (by omega) | rfl), fun d' => ?_⟩
  refine j_V.mono (gm_many (n := n) (S := S) R.wf (MC.fr (fun y h1 h2 => F1 y (by omega))) l1 l2 x1) ?_
  rintro rv2 h2 ⟨e, M, F2⟩
  exact ⟨e, _, R.q X1 (fun y g1 g2 => F1 y (by omega)) M F2⟩
theorem hk_hold_A {h : J_H} {n S a e D d : Nat} {w0 w kp : List Int32} {sst : Int32} (R : hR 327 343 n S a e D w0 w kp sst h) (hD : 2000 ≤ D) (hb : D < 2 ^ 29) (x1 : Int32) (x2 : Int32) : hKj 150 284 [.int x1, .int x2] d h (fun h2 => ∃ a' e' w' kp' st, hR 327 343 n S a' e' (D + 99) w0 w' kp' st h2) := by
  obtain ⟨u, th, tm, sd, ot, tk, od, be, MC, l1, l2⟩ := R.2.2.1
  obtain ⟨-, WC, WW, m, hm, X⟩ := R.2.2.2.2.1
  refine j_V.mono (hb_hold_A (th := th) (sst' := sst) R.1 R.2.1 R.2.2.2.1 R.2.2.2.2.1 R.2.2.2.2.2 x1 x2) ?_
  rintro rv h1 B
  have FB := B
  obtain ⟨eb, -, -, -, -, -, -, -, F1⟩ := FB
  refine ⟨_, eb, fun x hx => (by first | exact F1 x (by omega) | exact F1 x (by omega) (by omega) (by omega) | exact Y.2.2.2 x (by omega) (by omega) | rfl), fun d' => ?_⟩
  refine j_V.mono (gm_hold (n := n) (S := S) (MC.fr (fun y h1 h2 => F1 y (by omega) (by omega) (by omega))) l1 l2 x1 x2) ?_
  rintro rv2 h2 ⟨e9, M, F2⟩
  obtain ⟨a', e', -, R'⟩ := hR.b B M F2 (R.2.2.2.2.1.kw R.wf (kw_hold R.wf x1 x2)) (Nat.le_add_right _ _)
  exact ⟨e9, a', e', _, _, _, R'⟩
theorem hk_start_A {h : J_H} {n S a e D d : Nat} {w0 w kp : List Int32} {sst : Int32} (R : hR 327 343 n S a e D w0 w kp sst h) (hD : 2000 ≤ D) (hb : D < 2 ^ 29) (x1 : Int32) (x2 : Int32) : hKj 153 287 [.int x1, .int x2] d h (fun h2 => ∃ a' e' w' kp' st, hR 327 343 n S a' e' (D + 99) w0 w' kp' st h2) := by
  obtain ⟨u, th, tm, sd, ot, tk, od, be, MC, l1, l2⟩ := R.2.2.1
  obtain ⟨-, WC, WW, m, hm, X⟩ := R.2.2.2.2.1
  refine j_V.mono (hb_start_A (th := th) (sst' := sst) R.1 R.2.1 R.2.2.2.1 R.2.2.2.2.1 R.2.2.2.2.2 x1 x2) ?_
  rintro rv h1 B
  have FB := B
  obtain ⟨eb, -, -, -, -, -, -, -, F1⟩ := FB
  refine ⟨_, eb, fun x hx => (by first | exact F1 x (by omega) | exact F1 x (by omega) (by omega) (by omega) | exact Y.2.2.2 x (by omega) (by omega) | rfl), fun d' => ?_⟩
  refine j_V.mono (gm_start (n := n) (S := S) (MC.fr (fun y h1 h2 => F1 y (by omega) (by omega) (by omega))) l1 l2 x1 x2) ?_
  rintro rv2 h2 ⟨e9, M, F2⟩
  obtain ⟨a', e', -, R'⟩ := hR.b B M F2 (R.2.2.2.2.1.kw R.wf (kw_start R.wf x1 x2)) (Nat.le_add_right _ _)
  exact ⟨e9, a', e', _, _, _, R'⟩
theorem hk_stall_A {h : J_H} {n S a e D d : Nat} {w0 w kp : List Int32} {sst : Int32} (R : hR 327 343 n S a e D w0 w kp sst h) (hD : 2000 ≤ D) (hb : D < 2 ^ 29) (x1 : Int32) (x2 : Int32) : hKj 154 288 [.int x1, .int x2] d h (fun h2 => ∃ a' e' w' kp' st, hR 327 343 n S a' e' (D + 99) w0 w' kp' st h2) := by
  obtain ⟨u, th, tm, sd, ot, tk, od, be, MC, l1, l2⟩ := R.2.2.1
  obtain ⟨-, WC, WW, m, hm, X⟩ := R.2.2.2.2.1
  refine j_V.mono (hb_stall_A (th := th) (sst' := sst) R.1 R.2.1 R.2.2.2.1 R.2.2.2.2.1 R.2.2.2.2.2 x1 x2) ?_
  rintro rv h1 B
  have FB := B
  obtain ⟨eb, -, -, -, -, -, -, -, F1⟩ := FB
  refine ⟨_, eb, fun x hx => (by first | exact F1 x (by omega) | exact F1 x (by omega) (by omega) (by omega) | exact Y.2.2.2 x (by omega) (by omega) | rfl), fun d' => ?_⟩
  refine j_V.mono (gm_stall (n := n) (S := S) (MC.fr (fun y h1 h2 => F1 y (by omega) (by omega) (by omega))) l1 l2 x1 x2) ?_
  rintro rv2 h2 ⟨e9, M, F2⟩
  obtain ⟨a', e', -, R'⟩ := hR.b B M F2 (R.2.2.2.2.1.kw R.wf (kw_stall R.wf x1 x2)) (Nat.le_add_right _ _)
  exact ⟨e9, a', e', _, _, _, R'⟩
theorem hk_shut_A {h : J_H} {n S a e D d : Nat} {w0 w kp : List Int32} {sst : Int32} (R : hR 327 343 n S a e D w0 w kp sst h) (hD : 2000 ≤ D) (hb : D < 2 ^ 29) (x1 : Int32) (x2 : Int32) (x3 : Int32) (hx3 : x3 = 0 ∨ x3 = 1) : hKj 151 285 [.int x1, .int x2, .int x3] d h (fun h2 => ∃ a' e' w' kp' st, hR 327 343 n S a' e' (D + 99) w0 w' kp' st h2) := by
  obtain ⟨u, th, tm, sd, ot, tk, od, be, MC, l1, l2⟩ := R.2.2.1
  obtain ⟨-, WC, WW, m, hm, X⟩ := R.2.2.2.2.1
  refine j_V.mono (hb_shut_A (th := th) (sst' := sst) R.1 R.2.1 R.2.2.2.1 R.2.2.2.2.1 R.2.2.2.2.2 x1 x2 x3 hx3) ?_
  rintro rv h1 B
  have FB := B
  obtain ⟨eb, -, -, -, -, -, -, -, F1⟩ := FB
  refine ⟨_, eb, fun x hx => (by first | exact F1 x (by omega) | exact F1 x (by omega) (by omega) (by omega) | exact Y.2.2.2 x (by omega) (by omega) | rfl), fun d' => ?_⟩
  refine j_V.mono (gm_shut (n := n) (S := S) (MC.fr (fun y h1 h2 => F1 y (by omega) (by omega) (by omega))) l1 l2 x1 x2 x3) ?_
  rintro rv2 h2 ⟨e9, M, F2⟩
  obtain ⟨a', e', -, R'⟩ := hR.b B M F2 (R.2.2.2.2.1.kw R.wf (kw_shut R.wf x1 x2 x3)) (Nat.le_add_right _ _)
  exact ⟨e9, a', e', _, _, _, R'⟩
theorem hk_link_A {h : J_H} {n S a e D d : Nat} {w0 w kp : List Int32} {sst : Int32} (R : hR 327 343 n S a e D w0 w kp sst h) (hD : 2000 ≤ D) (hb : D < 2 ^ 29) (x1 : Int32) (x2 : Int32) (x3 : Int32) : hKj 155 289 [.int x1, .int x2, .int x3] d h (fun h2 => ∃ a' e' w' kp' st, hR 327 343 n S a' e' (D + 99) w0 w' kp' st h2) := by
  obtain ⟨u, th, tm, sd, ot, tk, od, be, MC, l1, l2⟩ := R.2.2.1
  obtain ⟨-, WC, WW, m, hm, X⟩ := R.2.2.2.2.1
  refine j_V.mono (hb_link_A (th := th) (sst' := sst) R.1 R.2.1 R.2.2.2.1 R.2.2.2.2.1 R.2.2.2.2.2 x1 x2 x3) ?_
  rintro rv h1 B
  have FB := B
  obtain ⟨eb, -, -, -, -, -, -, -, F1⟩ := FB
  refine ⟨_, eb, fun x hx => (by first | exact F1 x (by omega) | exact F1 x (by omega) (by omega) (by omega) | exact Y.2.2.2 x (by omega) (by omega) | rfl), fun d' => ?_⟩
  refine j_V.mono (gm_link (n := n) (S := S) (MC.fr (fun y h1 h2 => F1 y (by omega) (by omega) (by omega))) l1 l2 x1 x2 x3) ?_
  rintro rv2 h2 ⟨e9, M, F2⟩
  obtain ⟨a', e', -, R'⟩ := hR.b B M F2 (R.2.2.2.2.1.kw R.wf (kw_link R.wf x1 x2 x3)) (Nat.le_add_right _ _)
  exact ⟨e9, a', e', _, _, _, R'⟩
theorem hk_cut_A {h : J_H} {n S a e D d : Nat} {w0 w kp : List Int32} {sst : Int32} (R : hR 327 343 n S a e D w0 w kp sst h) (hD : 2000 ≤ D) (hb : D < 2 ^ 29) (x1 : Int32) : hKj 156 290 [.int x1] d h (fun h2 => ∃ a' e' w' kp' st, hR 327 343 n S a' e' (D + 99) w0 w' kp' st h2) := by
  obtain ⟨u, th, tm, sd, ot, tk, od, be, MC, l1, l2⟩ := R.2.2.1
  obtain ⟨-, WC, WW, m, hm, X⟩ := R.2.2.2.2.1
  refine j_V.mono (hb_cut_A (th := th) (sst' := sst) R.1 R.2.1 R.2.2.2.1 R.2.2.2.2.1 R.2.2.2.2.2 x1) ?_
  rintro rv h1 B
  have FB := B
  obtain ⟨eb, -, -, -, -, -, -, -, F1⟩ := FB
  refine ⟨_, eb, fun x hx => (by first | exact F1 x (by omega) | exact F1 x (by omega) (by omega) (by omega) | exact Y.2.2.2 x (by omega) (by omega) | rfl), fun d' => ?_⟩
  refine j_V.mono (gm_cut (n := n) (S := S) (MC.fr (fun y h1 h2 => F1 y (by omega) (by omega) (by omega))) l1 l2 x1) ?_
  rintro rv2 h2 ⟨e9, M, F2⟩
  obtain ⟨a', e', -, R'⟩ := hR.b B M F2 (R.2.2.2.2.1.kw R.wf (kw_cut R.wf x1)) (Nat.le_add_right _ _)
  exact ⟨e9, a', e', _, _, _, R'⟩
theorem hk_hold_B {h : J_H} {n S a e D d : Nat} {w0 w kp : List Int32} {sst : Int32} (R : hR 343 327 n S a e D w0 w kp sst h) (hD : 2000 ≤ D) (hb : D < 2 ^ 29) (x1 : Int32) (x2 : Int32) : hKj 150 284 [.int x1, .int x2] d h (fun h2 => ∃ a' e' w' kp' st, hR 343 327 n S a' e' (D + 99) w0 w' kp' st h2) := by
  obtain ⟨u, th, tm, sd, ot, tk, od, be, MC, l1, l2⟩ := R.2.2.1
  obtain ⟨-, WC, WW, m, hm, X⟩ := R.2.2.2.2.1
  refine j_V.mono (hb_hold_B (th := th) (sst' := sst) R.1 R.2.1 R.2.2.2.1 R.2.2.2.2.1 R.2.2.2.2.2 x1 x2) ?_
  rintro rv h1 B
  have FB := B
  obtain ⟨eb, -, -, -, -, -, -, -, F1⟩ := FB
  refine ⟨_, eb, fun x hx => (by first | exact F1 x (by omega) | exact F1 x (by omega) (by omega) (by omega) | exact Y.2.2.2 x (by omega) (by omega) | rfl), fun d' => ?_⟩
  refine j_V.mono (gm_hold (n := n) (S := S) (MC.fr (fun y h1 h2 => F1 y (by omega) (by omega) (by omega))) l1 l2 x1 x2) ?_
  rintro rv2 h2 ⟨e9, M, F2⟩
  obtain ⟨a', e', -, R'⟩ := hR.b B M F2 (R.2.2.2.2.1.kw R.wf (kw_hold R.wf x1 x2)) (Nat.le_add_right _ _)
  exact ⟨e9, a', e', _, _, _, R'⟩
theorem hk_start_B {h : J_H} {n S a e D d : Nat} {w0 w kp : List Int32} {sst : Int32} (R : hR 343 327 n S a e D w0 w kp sst h) (hD : 2000 ≤ D) (hb : D < 2 ^ 29) (x1 : Int32) (x2 : Int32) : hKj 153 287 [.int x1, .int x2] d h (fun h2 => ∃ a' e' w' kp' st, hR 343 327 n S a' e' (D + 99) w0 w' kp' st h2) := by
  obtain ⟨u, th, tm, sd, ot, tk, od, be, MC, l1, l2⟩ := R.2.2.1
  obtain ⟨-, WC, WW, m, hm, X⟩ := R.2.2.2.2.1
  refine j_V.mono (hb_start_B (th := th) (sst' := sst) R.1 R.2.1 R.2.2.2.1 R.2.2.2.2.1 R.2.2.2.2.2 x1 x2) ?_
  rintro rv h1 B
  have FB := B
  obtain ⟨eb, -, -, -, -, -, -, -, F1⟩ := FB
  refine ⟨_, eb, fun x hx => (by first | exact F1 x (by omega) | exact F1 x (by omega) (by omega) (by omega) | exact Y.2.2.2 x (by omega) (by omega) | rfl), fun d' => ?_⟩
  refine j_V.mono (gm_start (n := n) (S := S) (MC.fr (fun y h1 h2 => F1 y (by omega) (by omega) (by omega))) l1 l2 x1 x2) ?_
  rintro rv2 h2 ⟨e9, M, F2⟩
  obtain ⟨a', e', -, R'⟩ := hR.b B M F2 (R.2.2.2.2.1.kw R.wf (kw_start R.wf x1 x2)) (Nat.le_add_right _ _)
  exact ⟨e9, a', e', _, _, _, R'⟩
theorem hk_stall_B {h : J_H} {n S a e D d : Nat} {w0 w kp : List Int32} {sst : Int32} (R : hR 343 327 n S a e D w0 w kp sst h) (hD : 2000 ≤ D) (hb : D < 2 ^ 29) (x1 : Int32) (x2 : Int32) : hKj 154 288 [.int x1, .int x2] d h (fun h2 => ∃ a' e' w' kp' st, hR 343 327 n S a' e' (D + 99) w0 w' kp' st h2) := by
  obtain ⟨u, th, tm, sd, ot, tk, od, be, MC, l1, l2⟩ := R.2.2.1
  obtain ⟨-, WC, WW, m, hm, X⟩ := R.2.2.2.2.1
  refine j_V.mono (hb_stall_B (th := th) (sst' := sst) R.1 R.2.1 R.2.2.2.1 R.2.2.2.2.1 R.2.2.2.2.2 x1 x2) ?_
  rintro rv h1 B
  have FB := B
  obtain ⟨eb, -, -, -, -, -, -, -, F1⟩ := FB
  refine ⟨_, eb, fun x hx => (by first | exact F1 x (by omega) | exact F1 x (by omega) (by omega) (by omega) | exact Y.2.2.2 x (by omega) (by omega) | rfl), fun d' => ?_⟩
  refine j_V.mono (gm_stall (n := n) (S := S) (MC.fr (fun y h1 h2 => F1 y (by omega) (by omega) (by omega))) l1 l2 x1 x2) ?_
  rintro rv2 h2 ⟨e9, M, F2⟩
  obtain ⟨a', e', -, R'⟩ := hR.b B M F2 (R.2.2.2.2.1.kw R.wf (kw_stall R.wf x1 x2)) (Nat.le_add_right _ _)
  exact ⟨e9, a', e', _, _, _, R'⟩
theorem hk_shut_B {h : J_H} {n S a e D d : Nat} {w0 w kp : List Int32} {sst : Int32} (R : hR 343 327 n S a e D w0 w kp sst h) (hD : 2000 ≤ D) (hb : D < 2 ^ 29) (x1 : Int32) (x2 : Int32) (x3 : Int32) (hx3 : x3 = 0 ∨ x3 = 1) : hKj 151 285 [.int x1, .int x2, .int x3] d h (fun h2 => ∃ a' e' w' kp' st, hR 343 327 n S a' e' (D + 99) w0 w' kp' st h2) := by
  obtain ⟨u, th, tm, sd, ot, tk, od, be, MC, l1, l2⟩ := R.2.2.1
  obtain ⟨-, WC, WW, m, hm, X⟩ := R.2.2.2.2.1
  refine j_V.mono (hb_shut_B (th := th) (sst' := sst) R.1 R.2.1 R.2.2.2.1 R.2.2.2.2.1 R.2.2.2.2.2 x1 x2 x3 hx3) ?_
  rintro rv h1 B
  have FB := B
  obtain ⟨eb, -, -, -, -, -, -, -, F1⟩ := FB
  refine ⟨_, eb, fun x hx => (by first | exact F1 x (by omega) | exact F1 x (by omega) (by omega) (by omega) | exact Y.2.2.2 x (by omega) (by omega) | rfl), fun d' => ?_⟩
  refine j_V.mono (gm_shut (n := n) (S := S) (MC.fr (fun y h1 h2 => F1 y (by omega) (by omega) (by omega))) l1 l2 x1 x2 x3) ?_
  rintro rv2 h2 ⟨e9, M, F2⟩
  obtain ⟨a', e', -, R'⟩ := hR.b B M F2 (R.2.2.2.2.1.kw R.wf (kw_shut R.wf x1 x2 x3)) (Nat.le_add_right _ _)
  exact ⟨e9, a', e', _, _, _, R'⟩
theorem hk_link_B {h : J_H} {n S a e D d : Nat} {w0 w kp : List Int32} {sst : Int32} (R : hR 343 327 n S a e D w0 w kp sst h) (hD : 2000 ≤ D) (hb : D < 2 ^ 29) (x1 : Int32) (x2 : Int32) (x3 : Int32) : hKj 155 289 [.int x1, .int x2, .int x3] d h (fun h2 => ∃ a' e' w' kp' st, hR 343 327 n S a' e' (D + 99) w0 w' kp' st h2) := by
  obtain ⟨u, th, tm, sd, ot, tk, od, be, MC, l1, l2⟩ := R.2.2.1
  obtain ⟨-, WC, WW, m, hm, X⟩ := R.2.2.2.2.1
  refine j_V.mono (hb_link_B (th := th) (sst' := sst) R.1 R.2.1 R.2.2.2.1 R.2.2.2.2.1 R.2.2.2.2.2 x1 x2 x3) ?_
  rintro rv h1 B
  have FB := B
  obtain ⟨eb, -, -, -, -, -, -, -, F1⟩ := FB
  refine ⟨_, eb, fun x hx => (by first | exact F1 x (by omega) | exact F1 x (by omega) (by omega) (by omega) | exact Y.2.2.2 x (by omega) (by omega) | rfl), fun d' => ?_⟩
  refine j_V.mono (gm_link (n := n) (S := S) (MC.fr (fun y h1 h2 => F1 y (by omega) (by omega) (by omega))) l1 l2 x1 x2 x3) ?_
  rintro rv2 h2 ⟨e9, M, F2⟩
  obtain ⟨a', e', -, R'⟩ := hR.b B M F2 (R.2.2.2.2.1.kw R.wf (kw_link R.wf x1 x2 x3)) (Nat.le_add_right _ _)
  exact ⟨e9, a', e', _, _, _, R'⟩
theorem hk_cut_B {h : J_H} {n S a e D d : Nat} {w0 w kp : List Int32} {sst : Int32} (R : hR 343 327 n S a e D w0 w kp sst h) (hD : 2000 ≤ D) (hb : D < 2 ^ 29) (x1 : Int32) : hKj 156 290 [.int x1] d h (fun h2 => ∃ a' e' w' kp' st, hR 343 327 n S a' e' (D + 99) w0 w' kp' st h2) := by
  obtain ⟨u, th, tm, sd, ot, tk, od, be, MC, l1, l2⟩ := R.2.2.1
  obtain ⟨-, WC, WW, m, hm, X⟩ := R.2.2.2.2.1
  refine j_V.mono (hb_cut_B (th := th) (sst' := sst) R.1 R.2.1 R.2.2.2.1 R.2.2.2.2.1 R.2.2.2.2.2 x1) ?_
  rintro rv h1 B
  have FB := B
  obtain ⟨eb, -, -, -, -, -, -, -, F1⟩ := FB
  refine ⟨_, eb, fun x hx => (by first | exact F1 x (by omega) | exact F1 x (by omega) (by omega) (by omega) | exact Y.2.2.2 x (by omega) (by omega) | rfl), fun d' => ?_⟩
  refine j_V.mono (gm_cut (n := n) (S := S) (MC.fr (fun y h1 h2 => F1 y (by omega) (by omega) (by omega))) l1 l2 x1) ?_
  rintro rv2 h2 ⟨e9, M, F2⟩
  obtain ⟨a', e', -, R'⟩ := hR.b B M F2 (R.2.2.2.2.1.kw R.wf (kw_cut R.wf x1)) (Nat.le_add_right _ _)
  exact ⟨e9, a', e', _, _, _, R'⟩
theorem hk_status_A {h : J_H} {n S a e D d : Nat} {w0 w kp : List Int32} {sst : Int32} (R : hR 327 343 n S a e D w0 w kp sst h) (hD : 2000 ≤ D) (hb : D < 2 ^ 29) : hKj 112 168 [] d h (fun h2 => ∃ st, hR 327 343 n S a e D w0 w kp st h2) := by
  obtain ⟨u, th, tm, sd, ot, tk, od, be, MC, l1, l2⟩ := R.2.2.1
  obtain ⟨-, WC, WW, m, hm, X⟩ := R.2.2.2.2.1
  have K0 : kA h [(0, .inl (9, [.ref 1, .ref 3, .ref 4, .ref 29, .ref 281, .ref 325, .ref 327, .ref 343, .int sst]))] := ⟨R.1.1, trivial⟩
  refine j_V.mono (xa52_ok K0.K) ?_
  rintro rv h1 ⟨rfl, rfl⟩
  refine ⟨_, rfl, fun x hx => (by first | exact F1 x (by omega) | exact F1 x (by omega) (by omega) (by omega) | exact Y.2.2.2 x (by omega) (by omega) | rfl), fun d' => ?_⟩
  refine j_V.mono (gm_status (n := n) (S := S) MC l1 l2) ?_
  rintro rv2 h2 ⟨e9, M, F2⟩
  exact ⟨e9, _, R.q R.1 (fun y _ _ => rfl) M F2⟩
theorem hk_through_A {h : J_H} {n S a e D d : Nat} {w0 w kp : List Int32} {sst : Int32} (R : hR 327 343 n S a e D w0 w kp sst h) (hD : 2000 ≤ D) (hb : D < 2 ^ 29) (T368 : ∃ l : List Int32, h[368]? = some (.inr (.inl (0, l))) ∧ l.length = 5) (x1 : Int32) : hKj 122 248 [.int x1] d h (fun h2 => ∃ st, hR 327 343 n S a e D w0 w kp st h2) := by
  obtain ⟨u, th, tm, sd, ot, tk, od, be, MC, l1, l2⟩ := R.2.2.1
  obtain ⟨-, WC, WW, m, hm, X⟩ := R.2.2.2.2.1
  have ltk : tk.length = 5 := by
    obtain ⟨z, z1, z2⟩ := T368
    rw [MC.2.2.2.2.2.1] at z1
    cases z1
    exact z2
  refine j_V.mono (ga_through_A (th := th) (sst' := sst) (tk := tk) (m := m) (D := D) (acs := nI a) (acne := nI e) R.1 ltk x1) ?_
  rintro rv h1 ⟨v, st, e1, ⟨rfl, rfl⟩, X1, F1⟩
  refine ⟨_, e1, fun x hx => (by first | exact F1 x (by omega) | exact F1 x (by omega) (by omega) (by omega) | exact Y.2.2.2 x (by omega) (by omega) | rfl), fun d' => ?_⟩
  refine j_V.mono (gm_through (n := n) (S := S) R.wf (MC.fr (fun y h1 h2 => F1 y (by omega))) l1 l2 x1) ?_
  rintro rv2 h2 ⟨e9, M, F2⟩
  exact ⟨e9, _, R.q X1 (fun y g1 g2 => F1 y (by omega)) M F2⟩
theorem hk_plan_A {h : J_H} {n S a e D d : Nat} {w0 w kp : List Int32} {sst : Int32} (R : hR 327 343 n S a e D w0 w kp sst h) (hD : 2000 ≤ D) (hb : D < 2 ^ 29) (Q : hT9 282 0 h) (C281 : h[281]? = some (.inl (1, [.ref 282, .ref 307, .ref 323, .ref 324]))) (T369 : ∃ l : List Int32, h[369]? = some (.inr (.inl (0, l))) ∧ l.length = 5) (T370 : ∃ l : List Int32, h[370]? = some (.inr (.inl (0, l))) ∧ l.length = 5) (T323 : ∃ l : List Int32, h[323]? = some (.inr (.inl (0, l))) ∧ l.length = 5) (T324 : ∃ l : List Int32, h[324]? = some (.inr (.inl (0, l))) ∧ l.length = 5) (x1 : Int32) : hKj 141 268 [.int x1] d h (fun h2 => ∃ st, hR 327 343 n S a e D w0 w kp st h2) := by
  obtain ⟨u, th, tm, sd, ot, tk, od, be, MC, l1, l2⟩ := R.2.2.1
  obtain ⟨-, WC, WW, m, hm, X⟩ := R.2.2.2.2.1
  have lod : od.length = 5 := by
    obtain ⟨z, z1, z2⟩ := T369
    rw [MC.2.2.2.2.2.2.1] at z1
    cases z1
    exact z2
  have lbe : be.length = 5 := by
    obtain ⟨z, z1, z2⟩ := T370
    rw [MC.2.2.2.2.2.2.2] at z1
    cases z1
    exact z2
  obtain ⟨o9, C3, lo9⟩ := T323
  obtain ⟨b9, C4, lb9⟩ := T324
  have hp := price_plan X R.wf WW (by omega) (by omega) (by omega)
  obtain ⟨r, hx, hA, hr, hpk, hq⟩ := qplan_A R.wf lod lbe (fun o po => (hp o po).1)
  refine j_V.mono (hq_plan_A x1 R.1 Q C281 X.1.1 (by omega) C3 C4 lo9 lb9 hx hA hr (fun o po => (hp o po).2)) ?_
  rintro rv h1 Y
  refine ⟨_, Y.1, fun x hx => (by first | exact F1 x (by omega) | exact F1 x (by omega) (by omega) (by omega) | exact Y.2.2.2 x (by omega) (by omega) | rfl), fun d' => ?_⟩
  refine j_V.mono (gm_plan R.wf hpk (MC.fr (fun y h1 h2 => Y.2.2.2 y (by omega) (by omega))) l1 l2 x1) ?_
  rintro rv2 h2 ⟨e9, M, F2⟩
  rw [hq] at e9 M
  exact ⟨e9, _, R.f Y M F2⟩
theorem hk_burden_A {h : J_H} {n S a e D d : Nat} {w0 w kp : List Int32} {sst : Int32} (R : hR 327 343 n S a e D w0 w kp sst h) (hD : 2000 ≤ D) (hb : D < 2 ^ 29) (Q : hT9 282 0 h) (C281 : h[281]? = some (.inl (1, [.ref 282, .ref 307, .ref 323, .ref 324]))) (x1 : Int32) : hKf 146 276 [.int x1] d h (fun h2 => ∃ st, hR 327 343 n S a e D w0 w kp st h2) := by
  obtain ⟨u, th, tm, sd, ot, tk, od, be, MC, l1, l2⟩ := R.2.2.1
  obtain ⟨-, WC, WW, m, hm, X⟩ := R.2.2.2.2.1
  refine j_V.mono (hq_burden_A x1 R.1 Q C281) ?_
  rintro rv h1 ⟨v9, Y⟩
  refine ⟨_, Y.1, fun x hx => (by first | exact F1 x (by omega) | exact F1 x (by omega) (by omega) (by omega) | exact Y.2.2.2 x (by omega) (by omega) | rfl), fun d' => ?_⟩
  refine j_V.mono (gm_burd R.wf (MC.fr (fun y h1 h2 => Y.2.2.2 y (by omega) (by omega))) l1 l2 x1) ?_
  rintro rv2 h2 ⟨e9, M, F2⟩
  exact ⟨e9, _, R.f Y M F2⟩
theorem hk_go_A {h : J_H} {n S a e D d : Nat} {w0 w kp : List Int32} {sst : Int32} (R : hR 327 343 n S a e D w0 w kp sst h) (hD : 2000 ≤ D) (hb : D < 2 ^ 29) (x1 x2 : Int32) : hKj 149 283 [.int x1, .int x2] d h (fun h2 => ∃ a' e' w' kp' st, hR 327 343 n S a' e' (D + 99) w0 w' kp' st h2) := by
  obtain ⟨u, th, tm, sd, ot, tk, od, be, MC, l1, l2⟩ := R.2.2.1
  obtain ⟨-, WC, WW, m, hm, X⟩ := R.2.2.2.2.1
  refine j_V.mono (hb_go_A (th := th) (sst' := sst) R.1 R.2.1 R.2.2.2.1 R.2.2.2.2.1 R.2.2.2.2.2 X.1.1 (by omega) x1 x2) ?_
  rintro rv h1 B
  have FB := B
  obtain ⟨eb, -, -, -, -, -, -, -, F1⟩ := FB
  refine ⟨_, eb, fun x hx => (by first | exact F1 x (by omega) | exact F1 x (by omega) (by omega) (by omega) | exact Y.2.2.2 x (by omega) (by omega) | rfl), fun d' => ?_⟩
  refine j_V.mono (gm_go (n := n) (S := S) R.wf (MC.fr (fun y h1 h2 => F1 y (by omega) (by omega) (by omega))) l1 l2 x1 x2) ?_
  rintro rv2 h2 ⟨e9, M, F2⟩
  obtain ⟨a', e', -, R'⟩ := hR.b B M F2 ((R.2.2.2.2.1.go R.wf hD (by omega) th sst (nI a) x1 x2).mono (Nat.le_add_right D 99)) (Nat.le_add_right _ _)
  exact ⟨e9, a', e', _, _, _, R'⟩
theorem hk_rank_A {h : J_H} {n S a e D d : Nat} {w0 w kp : List Int32} {sst : Int32} (R : hR 327 343 n S a e D w0 w kp sst h) (hD : 2000 ≤ D) (hb : D < 2 ^ 29) (C281 : h[281]? = some (.inl (1, [.ref 282, .ref 307, .ref 323, .ref 324]))) (T324 : ∃ l : List Int32, h[324]? = some (.inr (.inl (0, l))) ∧ l.length = 5) (T369 : ∃ l : List Int32, h[369]? = some (.inr (.inl (0, l))) ∧ l.length = 5) (x1 : Int32) : hKj 152 286 [.int x1] d h (fun h2 => ∃ a' e' w' kp' st, hR 327 343 n S a' e' (D + 99) w0 w' kp' st h2) := by
  obtain ⟨u, th, tm, sd, ot, tk, od, be, MC, l1, l2⟩ := R.2.2.1
  obtain ⟨-, WC, WW, m, hm, X⟩ := R.2.2.2.2.1
  have lod : od.length = 5 := by
    obtain ⟨z, z1, z2⟩ := T369
    rw [MC.2.2.2.2.2.2.1] at z1
    cases z1
    exact z2
  obtain ⟨b9, C4, lb9⟩ := T324
  refine j_V.mono (hb_rank_A (th := th) (sst' := sst) R.1 R.2.1 R.2.2.2.1 R.2.2.2.2.1 R.2.2.2.2.2 C281 C4 lb9 lod x1) ?_
  rintro rv h1 B
  have FB := B
  obtain ⟨eb, -, -, -, -, -, -, -, F1⟩ := FB
  refine ⟨_, eb, fun x hx => (by first | exact F1 x (by omega) | exact F1 x (by omega) (by omega) (by omega) | exact Y.2.2.2 x (by omega) (by omega) | rfl), fun d' => ?_⟩
  refine j_V.mono (gm_rank (n := n) (S := S) R.wf (MC.fr (fun y h1 h2 => F1 y (by omega) (by omega) (by omega))) l1 l2 x1) ?_
  rintro rv2 h2 ⟨e9, M, F2⟩
  obtain ⟨a', e', -, R'⟩ := hR.b B M F2 (R.2.2.2.2.1.rank R.wf th sst (nI a) x1) (Nat.le_add_right _ _)
  exact ⟨e9, a', e', _, _, _, R'⟩
theorem hk_undo_A {h : J_H} {n S a e D d : Nat} {w0 w kp : List Int32} {sst : Int32} (R : hR 327 343 n S a e D w0 w kp sst h) (hD : 2000 ≤ D) (hb : D < 2 ^ 29) : hKj 157 282 [] d h (fun h2 => ∃ a' e' w' kp' st, hR 327 343 n S a' e' (D + 99) w0 w' kp' st h2) := by
  obtain ⟨u, th, tm, sd, ot, tk, od, be, MC, l1, l2⟩ := R.2.2.1
  obtain ⟨-, WC, WW, m, hm, X⟩ := R.2.2.2.2.1
  refine j_V.mono (hb_undo_A (th := th) (sst' := sst) R.1 R.2.1 R.2.2.2.1 R.2.2.2.2.2 R.un) ?_
  rintro rv h1 B
  have FB := B
  obtain ⟨eb, -, -, -, -, -, -, -, F1⟩ := FB
  refine ⟨_, eb, fun x hx => (by first | exact F1 x (by omega) | exact F1 x (by omega) (by omega) (by omega) | exact Y.2.2.2 x (by omega) (by omega) | rfl), fun d' => ?_⟩
  refine j_V.mono (gm_undo (n := n) (S := S) (MC.fr (fun y h1 h2 => F1 y (by omega) (by omega) (by omega))) l1 l2) ?_
  rintro rv2 h2 ⟨e9, M, F2⟩
  obtain ⟨a', e', -, R'⟩ := hR.b B M F2 ((R.2.2.2.2.1.undo R.2.2.2.2.2 R.2.1.2.2.2.1 R.wf.len th sst).mono (Nat.le_add_right D 99)) (Nat.le_add_right _ _)
  exact ⟨e9, a', e', _, _, _, R'⟩
theorem hk_status_B {h : J_H} {n S a e D d : Nat} {w0 w kp : List Int32} {sst : Int32} (R : hR 343 327 n S a e D w0 w kp sst h) (hD : 2000 ≤ D) (hb : D < 2 ^ 29) : hKj 112 168 [] d h (fun h2 => ∃ st, hR 343 327 n S a e D w0 w kp st h2) := by
  obtain ⟨u, th, tm, sd, ot, tk, od, be, MC, l1, l2⟩ := R.2.2.1
  obtain ⟨-, WC, WW, m, hm, X⟩ := R.2.2.2.2.1
  have K0 : kA h [(0, .inl (9, [.ref 1, .ref 3, .ref 4, .ref 29, .ref 281, .ref 325, .ref 343, .ref 327, .int sst]))] := ⟨R.1.1, trivial⟩
  refine j_V.mono (xb52_ok K0.K) ?_
  rintro rv h1 ⟨rfl, rfl⟩
  refine ⟨_, rfl, fun x hx => (by first | exact F1 x (by omega) | exact F1 x (by omega) (by omega) (by omega) | exact Y.2.2.2 x (by omega) (by omega) | rfl), fun d' => ?_⟩
  refine j_V.mono (gm_status (n := n) (S := S) MC l1 l2) ?_
  rintro rv2 h2 ⟨e9, M, F2⟩
  exact ⟨e9, _, R.q R.1 (fun y _ _ => rfl) M F2⟩
theorem hk_through_B {h : J_H} {n S a e D d : Nat} {w0 w kp : List Int32} {sst : Int32} (R : hR 343 327 n S a e D w0 w kp sst h) (hD : 2000 ≤ D) (hb : D < 2 ^ 29) (T368 : ∃ l : List Int32, h[368]? = some (.inr (.inl (0, l))) ∧ l.length = 5) (x1 : Int32) : hKj 122 248 [.int x1] d h (fun h2 => ∃ st, hR 343 327 n S a e D w0 w kp st h2) := by
  obtain ⟨u, th, tm, sd, ot, tk, od, be, MC, l1, l2⟩ := R.2.2.1
  obtain ⟨-, WC, WW, m, hm, X⟩ := R.2.2.2.2.1
  have ltk : tk.length = 5 := by
    obtain ⟨z, z1, z2⟩ := T368
    rw [MC.2.2.2.2.2.1] at z1
    cases z1
    exact z2
  refine j_V.mono (ga_through_B (th := th) (sst' := sst) (tk := tk) (m := m) (D := D) (acs := nI a) (acne := nI e) R.1 ltk x1) ?_
  rintro rv h1 ⟨v, st, e1, ⟨rfl, rfl⟩, X1, F1⟩
  refine ⟨_, e1, fun x hx => (by first | exact F1 x (by omega) | exact F1 x (by omega) (by omega) (by omega) | exact Y.2.2.2 x (by omega) (by omega) | rfl), fun d' => ?_⟩
  refine j_V.mono (gm_through (n := n) (S := S) R.wf (MC.fr (fun y h1 h2 => F1 y (by omega))) l1 l2 x1) ?_
  rintro rv2 h2 ⟨e9, M, F2⟩
  exact ⟨e9, _, R.q X1 (fun y g1 g2 => F1 y (by omega)) M F2⟩
theorem hk_plan_B {h : J_H} {n S a e D d : Nat} {w0 w kp : List Int32} {sst : Int32} (R : hR 343 327 n S a e D w0 w kp sst h) (hD : 2000 ≤ D) (hb : D < 2 ^ 29) (Q : hT9 282 0 h) (C281 : h[281]? = some (.inl (1, [.ref 282, .ref 307, .ref 323, .ref 324]))) (T369 : ∃ l : List Int32, h[369]? = some (.inr (.inl (0, l))) ∧ l.length = 5) (T370 : ∃ l : List Int32, h[370]? = some (.inr (.inl (0, l))) ∧ l.length = 5) (T323 : ∃ l : List Int32, h[323]? = some (.inr (.inl (0, l))) ∧ l.length = 5) (T324 : ∃ l : List Int32, h[324]? = some (.inr (.inl (0, l))) ∧ l.length = 5) (x1 : Int32) : hKj 141 268 [.int x1] d h (fun h2 => ∃ st, hR 343 327 n S a e D w0 w kp st h2) := by
  obtain ⟨u, th, tm, sd, ot, tk, od, be, MC, l1, l2⟩ := R.2.2.1
  obtain ⟨-, WC, WW, m, hm, X⟩ := R.2.2.2.2.1
  have lod : od.length = 5 := by
    obtain ⟨z, z1, z2⟩ := T369
    rw [MC.2.2.2.2.2.2.1] at z1
    cases z1
    exact z2
  have lbe : be.length = 5 := by
    obtain ⟨z, z1, z2⟩ := T370
    rw [MC.2.2.2.2.2.2.2] at z1
    cases z1
    exact z2
  obtain ⟨o9, C3, lo9⟩ := T323
  obtain ⟨b9, C4, lb9⟩ := T324
  have hp := price_plan X R.wf WW (by omega) (by omega) (by omega)
  obtain ⟨r, hx, hA, hr, hpk, hq⟩ := qplan_A R.wf lod lbe (fun o po => (hp o po).1)
  refine j_V.mono (hq_plan_B x1 R.1 Q C281 X.1.1 (by omega) C3 C4 lo9 lb9 hx hA hr (fun o po => (hp o po).2)) ?_
  rintro rv h1 Y
  refine ⟨_, Y.1, fun x hx => (by first | exact F1 x (by omega) | exact F1 x (by omega) (by omega) (by omega) | exact Y.2.2.2 x (by omega) (by omega) | rfl), fun d' => ?_⟩
  refine j_V.mono (gm_plan R.wf hpk (MC.fr (fun y h1 h2 => Y.2.2.2 y (by omega) (by omega))) l1 l2 x1) ?_
  rintro rv2 h2 ⟨e9, M, F2⟩
  rw [hq] at e9 M
  exact ⟨e9, _, R.f Y M F2⟩
theorem hk_burden_B {h : J_H} {n S a e D d : Nat} {w0 w kp : List Int32} {sst : Int32} (R : hR 343 327 n S a e D w0 w kp sst h) (hD : 2000 ≤ D) (hb : D < 2 ^ 29) (Q : hT9 282 0 h) (C281 : h[281]? = some (.inl (1, [.ref 282, .ref 307, .ref 323, .ref 324]))) (x1 : Int32) : hKf 146 276 [.int x1] d h (fun h2 => ∃ st, hR 343 327 n S a e D w0 w kp st h2) := by
  obtain ⟨u, th, tm, sd, ot, tk, od, be, MC, l1, l2⟩ := R.2.2.1
  obtain ⟨-, WC, WW, m, hm, X⟩ := R.2.2.2.2.1
  refine j_V.mono (hq_burden_B x1 R.1 Q C281) ?_
  rintro rv h1 ⟨v9, Y⟩
  refine ⟨_, Y.1, fun x hx => (by first | exact F1 x (by omega) | exact F1 x (by omega) (by omega) (by omega) | exact Y.2.2.2 x (by omega) (by omega) | rfl), fun d' => ?_⟩
  refine j_V.mono (gm_burd R.wf (MC.fr (fun y h1 h2 => Y.2.2.2 y (by omega) (by omega))) l1 l2 x1) ?_
  rintro rv2 h2 ⟨e9, M, F2⟩
  exact ⟨e9, _, R.f Y M F2⟩
theorem hk_go_B {h : J_H} {n S a e D d : Nat} {w0 w kp : List Int32} {sst : Int32} (R : hR 343 327 n S a e D w0 w kp sst h) (hD : 2000 ≤ D) (hb : D < 2 ^ 29) (x1 x2 : Int32) : hKj 149 283 [.int x1, .int x2] d h (fun h2 => ∃ a' e' w' kp' st, hR 343 327 n S a' e' (D + 99) w0 w' kp' st h2) := by
  obtain ⟨u, th, tm, sd, ot, tk, od, be, MC, l1, l2⟩ := R.2.2.1
  obtain ⟨-, WC, WW, m, hm, X⟩ := R.2.2.2.2.1
  refine j_V.mono (hb_go_B (th := th) (sst' := sst) R.1 R.2.1 R.2.2.2.1 R.2.2.2.2.1 R.2.2.2.2.2 X.1.1 (by omega) x1 x2) ?_
  rintro rv h1 B
  have FB := B
  obtain ⟨eb, -, -, -, -, -, -, -, F1⟩ := FB
  refine ⟨_, eb, fun x hx => (by first | exact F1 x (by omega) | exact F1 x (by omega) (by omega) (by omega) | exact Y.2.2.2 x (by omega) (by omega) | rfl), fun d' => ?_⟩
  refine j_V.mono (gm_go (n := n) (S := S) R.wf (MC.fr (fun y h1 h2 => F1 y (by omega) (by omega) (by omega))) l1 l2 x1 x2) ?_
  rintro rv2 h2 ⟨e9, M, F2⟩
  obtain ⟨a', e', -, R'⟩ := hR.b B M F2 ((R.2.2.2.2.1.go R.wf hD (by omega) th sst (nI a) x1 x2).mono (Nat.le_add_right D 99)) (Nat.le_add_right _ _)
  exact ⟨e9, a', e', _, _, _, R'⟩
theorem hk_rank_B {h : J_H} {n S a e D d : Nat} {w0 w kp : List Int32} {sst : Int32} (R : hR 343 327 n S a e D w0 w kp sst h) (hD : 2000 ≤ D) (hb : D < 2 ^ 29) (C281 : h[281]? = some (.inl (1, [.ref 282, .ref 307, .ref 323, .ref 324]))) (T324 : ∃ l : List Int32, h[324]? = some (.inr (.inl (0, l))) ∧ l.length = 5) (T369 : ∃ l : List Int32, h[369]? = some (.inr (.inl (0, l))) ∧ l.length = 5) (x1 : Int32) : hKj 152 286 [.int x1] d h (fun h2 => ∃ a' e' w' kp' st, hR 343 327 n S a' e' (D + 99) w0 w' kp' st h2) := by
  obtain ⟨u, th, tm, sd, ot, tk, od, be, MC, l1, l2⟩ := R.2.2.1
  obtain ⟨-, WC, WW, m, hm, X⟩ := R.2.2.2.2.1
  have lod : od.length = 5 := by
    obtain ⟨z, z1, z2⟩ := T369
    rw [MC.2.2.2.2.2.2.1] at z1
    cases z1
    exact z2
  obtain ⟨b9, C4, lb9⟩ := T324
  refine j_V.mono (hb_rank_B (th := th) (sst' := sst) R.1 R.2.1 R.2.2.2.1 R.2.2.2.2.1 R.2.2.2.2.2 C281 C4 lb9 lod x1) ?_
  rintro rv h1 B
  have FB := B
  obtain ⟨eb, -, -, -, -, -, -, -, F1⟩ := FB
  refine ⟨_, eb, fun x hx => (by first | exact F1 x (by omega) | exact F1 x (by omega) (by omega) (by omega) | exact Y.2.2.2 x (by omega) (by omega) | rfl), fun d' => ?_⟩
  refine j_V.mono (gm_rank (n := n) (S := S) R.wf (MC.fr (fun y h1 h2 => F1 y (by omega) (by omega) (by omega))) l1 l2 x1) ?_
  rintro rv2 h2 ⟨e9, M, F2⟩
  obtain ⟨a', e', -, R'⟩ := hR.b B M F2 (R.2.2.2.2.1.rank R.wf th sst (nI a) x1) (Nat.le_add_right _ _)
  exact ⟨e9, a', e', _, _, _, R'⟩
theorem hk_undo_B {h : J_H} {n S a e D d : Nat} {w0 w kp : List Int32} {sst : Int32} (R : hR 343 327 n S a e D w0 w kp sst h) (hD : 2000 ≤ D) (hb : D < 2 ^ 29) : hKj 157 282 [] d h (fun h2 => ∃ a' e' w' kp' st, hR 343 327 n S a' e' (D + 99) w0 w' kp' st h2) := by
  obtain ⟨u, th, tm, sd, ot, tk, od, be, MC, l1, l2⟩ := R.2.2.1
  obtain ⟨-, WC, WW, m, hm, X⟩ := R.2.2.2.2.1
  refine j_V.mono (hb_undo_B (th := th) (sst' := sst) R.1 R.2.1 R.2.2.2.1 R.2.2.2.2.2 R.un) ?_
  rintro rv h1 B
  have FB := B
  obtain ⟨eb, -, -, -, -, -, -, -, F1⟩ := FB
  refine ⟨_, eb, fun x hx => (by first | exact F1 x (by omega) | exact F1 x (by omega) (by omega) (by omega) | exact Y.2.2.2 x (by omega) (by omega) | rfl), fun d' => ?_⟩
  refine j_V.mono (gm_undo (n := n) (S := S) (MC.fr (fun y h1 h2 => F1 y (by omega) (by omega) (by omega))) l1 l2) ?_
  rintro rv2 h2 ⟨e9, M, F2⟩
  obtain ⟨a', e', -, R'⟩ := hR.b B M F2 ((R.2.2.2.2.1.undo R.2.2.2.2.2 R.2.1.2.2.2.1 R.wf.len th sst).mono (Nat.le_add_right D 99)) (Nat.le_add_right _ _)
  exact ⟨e9, a', e', _, _, _, R'⟩

/-! six acts of both, one behind the other: written by wip/px/gen_hG.py -/
theorem hj_hold_A {h : J_H} {n S a e D d : Nat} {w0 w kp : List Int32} {sst : Int32} (R : hR 327 343 n S a e D w0 w kp sst h) (hD : 2000 ≤ D) (hb : D < 2 ^ 29) (x1 : Int32) (x2 : Int32) : hJ 150 284 [.int x1, .int x2] d h (fun h2 => ∃ a' e' w' kp' st, hR 327 343 n S a' e' (D + 99) w0 w' kp' st h2) := by
  obtain ⟨u, th, tm, sd, ot, tk, od, be, MC, l1, l2⟩ := R.2.2.1
  obtain ⟨-, WC, WW, m, hm, X⟩ := R.2.2.2.2.1
  refine j_V.mono (hb_hold_A (th := th) (sst' := sst) R.1 R.2.1 R.2.2.2.1 R.2.2.2.2.1 R.2.2.2.2.2 x1 x2) ?_
  rintro rv h1 B
  have FB := B
  obtain ⟨eb, -, -, -, -, -, -, -, F1⟩ := FB
  refine ⟨_, eb, fun d' => ?_⟩
  refine j_V.mono (gm_hold (n := n) (S := S) (MC.fr (fun y h1 h2 => F1 y (by omega) (by omega) (by omega))) l1 l2 x1 x2) ?_
  rintro rv2 h2 ⟨e9, M, F2⟩
  obtain ⟨a', e', -, R'⟩ := hR.b B M F2 (R.2.2.2.2.1.kw R.wf (kw_hold R.wf x1 x2)) (Nat.le_add_right _ _)
  exact ⟨e9, a', e', _, _, _, R'⟩
theorem hj_start_A {h : J_H} {n S a e D d : Nat} {w0 w kp : List Int32} {sst : Int32} (R : hR 327 343 n S a e D w0 w kp sst h) (hD : 2000 ≤ D) (hb : D < 2 ^ 29) (x1 : Int32) (x2 : Int32) : hJ 153 287 [.int x1, .int x2] d h (fun h2 => ∃ a' e' w' kp' st, hR 327 343 n S a' e' (D + 99) w0 w' kp' st h2) := by
  obtain ⟨u, th, tm, sd, ot, tk, od, be, MC, l1, l2⟩ := R.2.2.1
  obtain ⟨-, WC, WW, m, hm, X⟩ := R.2.2.2.2.1
  refine j_V.mono (hb_start_A (th := th) (sst' := sst) R.1 R.2.1 R.2.2.2.1 R.2.2.2.2.1 R.2.2.2.2.2 x1 x2) ?_
  rintro rv h1 B
  have FB := B
  obtain ⟨eb, -, -, -, -, -, -, -, F1⟩ := FB
  refine ⟨_, eb, fun d' => ?_⟩
  refine j_V.mono (gm_start (n := n) (S := S) (MC.fr (fun y h1 h2 => F1 y (by omega) (by omega) (by omega))) l1 l2 x1 x2) ?_
  rintro rv2 h2 ⟨e9, M, F2⟩
  obtain ⟨a', e', -, R'⟩ := hR.b B M F2 (R.2.2.2.2.1.kw R.wf (kw_start R.wf x1 x2)) (Nat.le_add_right _ _)
  exact ⟨e9, a', e', _, _, _, R'⟩
theorem hj_stall_A {h : J_H} {n S a e D d : Nat} {w0 w kp : List Int32} {sst : Int32} (R : hR 327 343 n S a e D w0 w kp sst h) (hD : 2000 ≤ D) (hb : D < 2 ^ 29) (x1 : Int32) (x2 : Int32) : hJ 154 288 [.int x1, .int x2] d h (fun h2 => ∃ a' e' w' kp' st, hR 327 343 n S a' e' (D + 99) w0 w' kp' st h2) := by
  obtain ⟨u, th, tm, sd, ot, tk, od, be, MC, l1, l2⟩ := R.2.2.1
  obtain ⟨-, WC, WW, m, hm, X⟩ := R.2.2.2.2.1
  refine j_V.mono (hb_stall_A (th := th) (sst' := sst) R.1 R.2.1 R.2.2.2.1 R.2.2.2.2.1 R.2.2.2.2.2 x1 x2) ?_
  rintro rv h1 B
  have FB := B
  obtain ⟨eb, -, -, -, -, -, -, -, F1⟩ := FB
  refine ⟨_, eb, fun d' => ?_⟩
  refine j_V.mono (gm_stall (n := n) (S := S) (MC.fr (fun y h1 h2 => F1 y (by omega) (by omega) (by omega))) l1 l2 x1 x2) ?_
  rintro rv2 h2 ⟨e9, M, F2⟩
  obtain ⟨a', e', -, R'⟩ := hR.b B M F2 (R.2.2.2.2.1.kw R.wf (kw_stall R.wf x1 x2)) (Nat.le_add_right _ _)
  exact ⟨e9, a', e', _, _, _, R'⟩
theorem hj_shut_A {h : J_H} {n S a e D d : Nat} {w0 w kp : List Int32} {sst : Int32} (R : hR 327 343 n S a e D w0 w kp sst h) (hD : 2000 ≤ D) (hb : D < 2 ^ 29) (x1 : Int32) (x2 : Int32) (x3 : Int32) (hx3 : x3 = 0 ∨ x3 = 1) : hJ 151 285 [.int x1, .int x2, .int x3] d h (fun h2 => ∃ a' e' w' kp' st, hR 327 343 n S a' e' (D + 99) w0 w' kp' st h2) := by
  obtain ⟨u, th, tm, sd, ot, tk, od, be, MC, l1, l2⟩ := R.2.2.1
  obtain ⟨-, WC, WW, m, hm, X⟩ := R.2.2.2.2.1
  refine j_V.mono (hb_shut_A (th := th) (sst' := sst) R.1 R.2.1 R.2.2.2.1 R.2.2.2.2.1 R.2.2.2.2.2 x1 x2 x3 hx3) ?_
  rintro rv h1 B
  have FB := B
  obtain ⟨eb, -, -, -, -, -, -, -, F1⟩ := FB
  refine ⟨_, eb, fun d' => ?_⟩
  refine j_V.mono (gm_shut (n := n) (S := S) (MC.fr (fun y h1 h2 => F1 y (by omega) (by omega) (by omega))) l1 l2 x1 x2 x3) ?_
  rintro rv2 h2 ⟨e9, M, F2⟩
  obtain ⟨a', e', -, R'⟩ := hR.b B M F2 (R.2.2.2.2.1.kw R.wf (kw_shut R.wf x1 x2 x3)) (Nat.le_add_right _ _)
  exact ⟨e9, a', e', _, _, _, R'⟩
theorem hj_link_A {h : J_H} {n S a e D d : Nat} {w0 w kp : List Int32} {sst : Int32} (R : hR 327 343 n S a e D w0 w kp sst h) (hD : 2000 ≤ D) (hb : D < 2 ^ 29) (x1 : Int32) (x2 : Int32) (x3 : Int32) : hJ 155 289 [.int x1, .int x2, .int x3] d h (fun h2 => ∃ a' e' w' kp' st, hR 327 343 n S a' e' (D + 99) w0 w' kp' st h2) := by
  obtain ⟨u, th, tm, sd, ot, tk, od, be, MC, l1, l2⟩ := R.2.2.1
  obtain ⟨-, WC, WW, m, hm, X⟩ := R.2.2.2.2.1
  refine j_V.mono (hb_link_A (th := th) (sst' := sst) R.1 R.2.1 R.2.2.2.1 R.2.2.2.2.1 R.2.2.2.2.2 x1 x2 x3) ?_
  rintro rv h1 B
  have FB := B
  obtain ⟨eb, -, -, -, -, -, -, -, F1⟩ := FB
  refine ⟨_, eb, fun d' => ?_⟩
  refine j_V.mono (gm_link (n := n) (S := S) (MC.fr (fun y h1 h2 => F1 y (by omega) (by omega) (by omega))) l1 l2 x1 x2 x3) ?_
  rintro rv2 h2 ⟨e9, M, F2⟩
  obtain ⟨a', e', -, R'⟩ := hR.b B M F2 (R.2.2.2.2.1.kw R.wf (kw_link R.wf x1 x2 x3)) (Nat.le_add_right _ _)
  exact ⟨e9, a', e', _, _, _, R'⟩
theorem hj_cut_A {h : J_H} {n S a e D d : Nat} {w0 w kp : List Int32} {sst : Int32} (R : hR 327 343 n S a e D w0 w kp sst h) (hD : 2000 ≤ D) (hb : D < 2 ^ 29) (x1 : Int32) : hJ 156 290 [.int x1] d h (fun h2 => ∃ a' e' w' kp' st, hR 327 343 n S a' e' (D + 99) w0 w' kp' st h2) := by
  obtain ⟨u, th, tm, sd, ot, tk, od, be, MC, l1, l2⟩ := R.2.2.1
  obtain ⟨-, WC, WW, m, hm, X⟩ := R.2.2.2.2.1
  refine j_V.mono (hb_cut_A (th := th) (sst' := sst) R.1 R.2.1 R.2.2.2.1 R.2.2.2.2.1 R.2.2.2.2.2 x1) ?_
  rintro rv h1 B
  have FB := B
  obtain ⟨eb, -, -, -, -, -, -, -, F1⟩ := FB
  refine ⟨_, eb, fun d' => ?_⟩
  refine j_V.mono (gm_cut (n := n) (S := S) (MC.fr (fun y h1 h2 => F1 y (by omega) (by omega) (by omega))) l1 l2 x1) ?_
  rintro rv2 h2 ⟨e9, M, F2⟩
  obtain ⟨a', e', -, R'⟩ := hR.b B M F2 (R.2.2.2.2.1.kw R.wf (kw_cut R.wf x1)) (Nat.le_add_right _ _)
  exact ⟨e9, a', e', _, _, _, R'⟩
theorem hj_hold_B {h : J_H} {n S a e D d : Nat} {w0 w kp : List Int32} {sst : Int32} (R : hR 343 327 n S a e D w0 w kp sst h) (hD : 2000 ≤ D) (hb : D < 2 ^ 29) (x1 : Int32) (x2 : Int32) : hJ 150 284 [.int x1, .int x2] d h (fun h2 => ∃ a' e' w' kp' st, hR 343 327 n S a' e' (D + 99) w0 w' kp' st h2) := by
  obtain ⟨u, th, tm, sd, ot, tk, od, be, MC, l1, l2⟩ := R.2.2.1
  obtain ⟨-, WC, WW, m, hm, X⟩ := R.2.2.2.2.1
  refine j_V.mono (hb_hold_B (th := th) (sst' := sst) R.1 R.2.1 R.2.2.2.1 R.2.2.2.2.1 R.2.2.2.2.2 x1 x2) ?_
  rintro rv h1 B
  have FB := B
  obtain ⟨eb, -, -, -, -, -, -, -, F1⟩ := FB
  refine ⟨_, eb, fun d' => ?_⟩
  refine j_V.mono (gm_hold (n := n) (S := S) (MC.fr (fun y h1 h2 => F1 y (by omega) (by omega) (by omega))) l1 l2 x1 x2) ?_
  rintro rv2 h2 ⟨e9, M, F2⟩
  obtain ⟨a', e', -, R'⟩ := hR.b B M F2 (R.2.2.2.2.1.kw R.wf (kw_hold R.wf x1 x2)) (Nat.le_add_right _ _)
  exact ⟨e9, a', e', _, _, _, R'⟩
theorem hj_start_B {h : J_H} {n S a e D d : Nat} {w0 w kp : List Int32} {sst : Int32} (R : hR 343 327 n S a e D w0 w kp sst h) (hD : 2000 ≤ D) (hb : D < 2 ^ 29) (x1 : Int32) (x2 : Int32) : hJ 153 287 [.int x1, .int x2] d h (fun h2 => ∃ a' e' w' kp' st, hR 343 327 n S a' e' (D + 99) w0 w' kp' st h2) := by
  obtain ⟨u, th, tm, sd, ot, tk, od, be, MC, l1, l2⟩ := R.2.2.1
  obtain ⟨-, WC, WW, m, hm, X⟩ := R.2.2.2.2.1
  refine j_V.mono (hb_start_B (th := th) (sst' := sst) R.1 R.2.1 R.2.2.2.1 R.2.2.2.2.1 R.2.2.2.2.2 x1 x2) ?_
  rintro rv h1 B
  have FB := B
  obtain ⟨eb, -, -, -, -, -, -, -, F1⟩ := FB
  refine ⟨_, eb, fun d' => ?_⟩
  refine j_V.mono (gm_start (n := n) (S := S) (MC.fr (fun y h1 h2 => F1 y (by omega) (by omega) (by omega))) l1 l2 x1 x2) ?_
  rintro rv2 h2 ⟨e9, M, F2⟩
  obtain ⟨a', e', -, R'⟩ := hR.b B M F2 (R.2.2.2.2.1.kw R.wf (kw_start R.wf x1 x2)) (Nat.le_add_right _ _)
  exact ⟨e9, a', e', _, _, _, R'⟩
theorem hj_stall_B {h : J_H} {n S a e D d : Nat} {w0 w kp : List Int32} {sst : Int32} (R : hR 343 327 n S a e D w0 w kp sst h) (hD : 2000 ≤ D) (hb : D < 2 ^ 29) (x1 : Int32) (x2 : Int32) : hJ 154 288 [.int x1, .int x2] d h (fun h2 => ∃ a' e' w' kp' st, hR 343 327 n S a' e' (D + 99) w0 w' kp' st h2) := by
  obtain ⟨u, th, tm, sd, ot, tk, od, be, MC, l1, l2⟩ := R.2.2.1
  obtain ⟨-, WC, WW, m, hm, X⟩ := R.2.2.2.2.1
  refine j_V.mono (hb_stall_B (th := th) (sst' := sst) R.1 R.2.1 R.2.2.2.1 R.2.2.2.2.1 R.2.2.2.2.2 x1 x2) ?_
  rintro rv h1 B
  have FB := B
  obtain ⟨eb, -, -, -, -, -, -, -, F1⟩ := FB
  refine ⟨_, eb, fun d' => ?_⟩
  refine j_V.mono (gm_stall (n := n) (S := S) (MC.fr (fun y h1 h2 => F1 y (by omega) (by omega) (by omega))) l1 l2 x1 x2) ?_
  rintro rv2 h2 ⟨e9, M, F2⟩
  obtain ⟨a', e', -, R'⟩ := hR.b B M F2 (R.2.2.2.2.1.kw R.wf (kw_stall R.wf x1 x2)) (Nat.le_add_right _ _)
  exact ⟨e9, a', e', _, _, _, R'⟩
theorem hj_shut_B {h : J_H} {n S a e D d : Nat} {w0 w kp : List Int32} {sst : Int32} (R : hR 343 327 n S a e D w0 w kp sst h) (hD : 2000 ≤ D) (hb : D < 2 ^ 29) (x1 : Int32) (x2 : Int32) (x3 : Int32) (hx3 : x3 = 0 ∨ x3 = 1) : hJ 151 285 [.int x1, .int x2, .int x3] d h (fun h2 => ∃ a' e' w' kp' st, hR 343 327 n S a' e' (D + 99) w0 w' kp' st h2) := by
  obtain ⟨u, th, tm, sd, ot, tk, od, be, MC, l1, l2⟩ := R.2.2.1
  obtain ⟨-, WC, WW, m, hm, X⟩ := R.2.2.2.2.1
  refine j_V.mono (hb_shut_B (th := th) (sst' := sst) R.1 R.2.1 R.2.2.2.1 R.2.2.2.2.1 R.2.2.2.2.2 x1 x2 x3 hx3) ?_
  rintro rv h1 B
  have FB := B
  obtain ⟨eb, -, -, -, -, -, -, -, F1⟩ := FB
  refine ⟨_, eb, fun d' => ?_⟩
  refine j_V.mono (gm_shut (n := n) (S := S) (MC.fr (fun y h1 h2 => F1 y (by omega) (by omega) (by omega))) l1 l2 x1 x2 x3) ?_
  rintro rv2 h2 ⟨e9, M, F2⟩
  obtain ⟨a', e', -, R'⟩ := hR.b B M F2 (R.2.2.2.2.1.kw R.wf (kw_shut R.wf x1 x2 x3)) (Nat.le_add_right _ _)
  exact ⟨e9, a', e', _, _, _, R'⟩
theorem hj_link_B {h : J_H} {n S a e D d : Nat} {w0 w kp : List Int32} {sst : Int32} (R : hR 343 327 n S a e D w0 w kp sst h) (hD : 2000 ≤ D) (hb : D < 2 ^ 29) (x1 : Int32) (x2 : Int32) (x3 : Int32) : hJ 155 289 [.int x1, .int x2, .int x3] d h (fun h2 => ∃ a' e' w' kp' st, hR 343 327 n S a' e' (D + 99) w0 w' kp' st h2) := by
  obtain ⟨u, th, tm, sd, ot, tk, od, be, MC, l1, l2⟩ := R.2.2.1
  obtain ⟨-, WC, WW, m, hm, X⟩ := R.2.2.2.2.1
  refine j_V.mono (hb_link_B (th := th) (sst' := sst) R.1 R.2.1 R.2.2.2.1 R.2.2.2.2.1 R.2.2.2.2.2 x1 x2 x3) ?_
  rintro rv h1 B
  have FB := B
  obtain ⟨eb, -, -, -, -, -, -, -, F1⟩ := FB
  refine ⟨_, eb, fun d' => ?_⟩
  refine j_V.mono (gm_link (n := n) (S := S) (MC.fr (fun y h1 h2 => F1 y (by omega) (by omega) (by omega))) l1 l2 x1 x2 x3) ?_
  rintro rv2 h2 ⟨e9, M, F2⟩
  obtain ⟨a', e', -, R'⟩ := hR.b B M F2 (R.2.2.2.2.1.kw R.wf (kw_link R.wf x1 x2 x3)) (Nat.le_add_right _ _)
  exact ⟨e9, a', e', _, _, _, R'⟩
theorem hj_cut_B {h : J_H} {n S a e D d : Nat} {w0 w kp : List Int32} {sst : Int32} (R : hR 343 327 n S a e D w0 w kp sst h) (hD : 2000 ≤ D) (hb : D < 2 ^ 29) (x1 : Int32) : hJ 156 290 [.int x1] d h (fun h2 => ∃ a' e' w' kp' st, hR 343 327 n S a' e' (D + 99) w0 w' kp' st h2) := by
  obtain ⟨u, th, tm, sd, ot, tk, od, be, MC, l1, l2⟩ := R.2.2.1
  obtain ⟨-, WC, WW, m, hm, X⟩ := R.2.2.2.2.1
  refine j_V.mono (hb_cut_B (th := th) (sst' := sst) R.1 R.2.1 R.2.2.2.1 R.2.2.2.2.1 R.2.2.2.2.2 x1) ?_
  rintro rv h1 B
  have FB := B
  obtain ⟨eb, -, -, -, -, -, -, -, F1⟩ := FB
  refine ⟨_, eb, fun d' => ?_⟩
  refine j_V.mono (gm_cut (n := n) (S := S) (MC.fr (fun y h1 h2 => F1 y (by omega) (by omega) (by omega))) l1 l2 x1) ?_
  rintro rv2 h2 ⟨e9, M, F2⟩
  obtain ⟨a', e', -, R'⟩ := hR.b B M F2 (R.2.2.2.2.1.kw R.wf (kw_cut R.wf x1)) (Nat.le_add_right _ _)
  exact ⟨e9, a', e', _, _, _, R'⟩

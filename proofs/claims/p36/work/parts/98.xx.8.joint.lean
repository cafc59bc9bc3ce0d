/-! burden of both sides: one answer: written by wip/p36/gen_j.py -/
theorem hjx_burden_A {h : J_H} {n S a e D d : Nat} {w0 w kp : List Int32} {sst : Int32} (R : hR 327 343 n S a e D w0 w kp sst h) (hD : 2000 ≤ D) (hb : D < 2 ^ 29) (Q : hT9 282 0 h) (C281 : h[281]? = some (.inl (1, [.ref 282, .ref 307, .ref 323, .ref 324]))) (x1 : Int32) : hJ 146 276 [.int x1] d h (fun h2 => ∃ st, hR 327 343 n S a e D w0 w kp st h2) := by
  obtain ⟨u, th, tm, sd, ot, tk, od, be, MC, l1, l2⟩ := R.2.2.1
  obtain ⟨-, WC, WW, m, hm, X⟩ := R.2.2.2.2.1
  have h5 := R.wf.n5
  have hp := price_burden X R.wf WW (by omega) (by omega) (by omega)
  refine j_V.mono (hx_burden_A (th := th) (sst' := sst) x1 R.1 Q C281 X.1.1 (by omega) hp) ?_
  rintro rv h1 Y
  refine ⟨_, Y.1, fun d' => ?_⟩
  refine j_V.mono (gm_burden R.wf (wf.Inv (n := n - 1) (S := S) (by omega)) burden_D (MC.fr (fun y h1 h2 => Y.2.2.2 y (by omega) (by omega))) l1 l2 x1) ?_
  rintro rv2 h2 ⟨e9, M, F2⟩
  exact ⟨e9, _, R.f Y M F2⟩
theorem hjx_burden_B {h : J_H} {n S a e D d : Nat} {w0 w kp : List Int32} {sst : Int32} (R : hR 343 327 n S a e D w0 w kp sst h) (hD : 2000 ≤ D) (hb : D < 2 ^ 29) (Q : hT9 282 0 h) (C281 : h[281]? = some (.inl (1, [.ref 282, .ref 307, .ref 323, .ref 324]))) (x1 : Int32) : hJ 146 276 [.int x1] d h (fun h2 => ∃ st, hR 343 327 n S a e D w0 w kp st h2) := by
  obtain ⟨u, th, tm, sd, ot, tk, od, be, MC, l1, l2⟩ := R.2.2.1
  obtain ⟨-, WC, WW, m, hm, X⟩ := R.2.2.2.2.1
  have h5 := R.wf.n5
  have hp := price_burden X R.wf WW (by omega) (by omega) (by omega)
  refine j_V.mono (hx_burden_B (th := th) (sst' := sst) x1 R.1 Q C281 X.1.1 (by omega) hp) ?_
  rintro rv h1 Y
  refine ⟨_, Y.1, fun d' => ?_⟩
  refine j_V.mono (gm_burden R.wf (wf.Inv (n := n - 1) (S := S) (by omega)) burden_D (MC.fr (fun y h1 h2 => Y.2.2.2 y (by omega) (by omega))) l1 l2 x1) ?_
  rintro rv2 h2 ⟨e9, M, F2⟩
  exact ⟨e9, _, R.f Y M F2⟩

/-! a call of both, one behind the other -/
theorem wG.rank {n S D : Nat} {w0 w kp od : List Int32} (g : wG n S D w0 w) (H : wf n S w) (th sst acs x1 : Int32) : wG n S (D + 99) w0 (m_rank n th sst acs w kp od x1).2.2.2.2.1 := by
  have g9 : wG n S (D + 99) w0 w := g.mono (Nat.le_add_right _ _)
  unfold m_rank
  split
  · exact g9
  · split
    · split
      · exact g9
      · exact g.kw H (kw_pw H)
    · exact g9
theorem hMc.fr {h h' : J_H} {u : Nat → Value} {th sst acs tm : Int32} {w sd ot kp tk od be : List Int32} (R : hMc h u th sst acs tm w sd ot kp tk od be) (F : ∀ a, 359 ≤ a → a < 371 → h'[a]? = h[a]?) : hMc h' u th sst acs tm w sd ot kp tk od be := by
  obtain ⟨c0, c1, c2, c3, c4, c5, c6, c7⟩ := R
  exact ⟨(F _ (by decide) (by decide)).trans c0, (F _ (by decide) (by decide)).trans c1, (F _ (by decide) (by decide)).trans c2, (F _ (by decide) (by decide)).trans c3, (F _ (by decide) (by decide)).trans c4, (F _ (by decide) (by decide)).trans c5, (F _ (by decide) (by decide)).trans c6, (F _ (by decide) (by decide)).trans c7⟩
/-- the class answers v, then the reference answers v, and both stand alike -/
def hJ (mi mi' : Nat) (As : List Value) (d : Nat) (h : J_H) (R' : J_H → Prop) : Prop := j_V jP d mi 0 (lv_args 0 (.ref 0 :: As)) [] h (fun rv h1 => ∃ v, rv = some (.int v) ∧ ∀ d', j_V jP d' mi' 0 (lv_args 0 (.ref 359 :: As)) [] h1 (fun rv2 h2 => rv2 = some (.int v) ∧ R' h2))
theorem hj_cost_A {h : J_H} {n S a e D d : Nat} {w0 w kp : List Int32} {sst : Int32} (R : hR 327 343 n S a e D w0 w kp sst h) (Q : hT9 282 0 h) (C281 : h[281]? = some (.inl (1, [.ref 282, .ref 307, .ref 323, .ref 324]))) (x1 x2 : Int32) : hJ 142 271 [.int x1, .int x2] d h (fun h2 => ∃ st, hR 327 343 n S a e D w0 w kp st h2) := by
  obtain ⟨u, th, tm, sd, ot, tk, od, be, MC, l1, l2⟩ := R.2.2.1
  obtain ⟨-, -, -, m, hm, X⟩ := R.2.2.2.2.1
  refine j_V.mono (hq_cost_A (th := th) (sst' := sst) R.1 Q C281 X.1.1 (by omega) x1 x2) ?_
  rintro rv h1 X
  refine ⟨_, X.1, fun d' => ?_⟩
  refine j_V.mono (gm_cost R.wf (MC.fr (fun y h1 h2 => X.2.2.2 y (by omega) (by omega))) l1 l2 x1 x2) ?_
  rintro rv2 h2 ⟨e, M, F2⟩
  exact ⟨e, _, R.f X M F2⟩

/-! a call of both, one behind the other -/
theorem wG.rank {n S D : Nat} {w0 w kp od : List Int32} (g : wG n S D w0 w) (H : wf n S w) (th sst acs x1 : Int32) : wG n S (D + 99) w0 (m_rank n th sst acs w kp od x1).2.2.2.2.1 := by
  have g9 : wG n S (D + 99) w0 w := g.mono (Nat.le_add_right _ _)
  unfold m_rank
  split
  · exact g9
  · split
    · split
      · exact g9
      · exact g.kw H (kw_pw H)
    · exact g9
theorem hMc.fr {h h' : J_H} {u : Nat → Value} {th sst acs tm : Int32} {w sd ot kp tk od be : List Int32} (R : hMc h u th sst acs tm w sd ot kp tk od be) (F : ∀ a, 359 ≤ a → a < 371 → h'[a]? = h[a]?) : hMc h' u th sst acs tm w sd ot kp tk od be := by
  obtain ⟨c0, c1, c2, c3, c4, c5, c6, c7⟩ := R
  exact ⟨(F _ (by decide) (by decide)).trans c0, (F _ (by decide) (by decide)).trans c1, (F _ (by decide) (by decide)).trans c2, (F _ (by decide) (by decide)).trans c3, (F _ (by decide) (by decide)).trans c4, (F _ (by decide) (by decide)).trans c5, (F _ (by decide) (by decide)).trans c6, (F _ (by decide) (by decide)).trans c7⟩
/-- the class answers v, then the reference answers v, and both stand alike -/
def hJ (mi mi' : Nat) (As : List Value) (d : Nat) (h : J_H) (R' : J_H → Prop) : Prop := j_V jP d mi 0 (lv_args 0 (.ref 0 :: As)) [] h (fun rv h1 => ∃ v, rv = some (.int v) ∧ ∀ d', j_V jP d' mi' 0 (lv_args 0 (.ref 359 :: As)) [] h1 (fun rv2 h2 => rv2 = some (.int v) ∧ R' h2))

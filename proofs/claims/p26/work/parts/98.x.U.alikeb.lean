/-! acts on both sides: alike again -/
section ACTS
variable {L L' n S a e D D' : Nat} {w0 w w' kp : List Int32} {sst : Int32}
theorem wG.mono (g : wG n S D w0 w) (h : D ≤ D') : wG n S D' w0 w := by
  obtain ⟨g1, g2, g3, m, g4, g5⟩ := g
  exact ⟨g1, g2, g3, m, g4, g5.mono h⟩
theorem wG.kw (g : wG n S D w0 w) (H : wf n S w) (K : kw n S w' w) : wG n S (D + 99) w0 w' := by
  obtain ⟨g1, g2, g3, m, g4, g5⟩ := g
  have s : stA n w' w := K.st H.n5
  exact ⟨s.tr g1, g2.aF K.1 H.n5 (fun t ht => by have := (H.T ht).2.1.2; have := H.S7; omega), s.wW g3, m, g4, K.2 m D g5⟩
theorem wG.go (g : wG n S D w0 w) (H : wf n S w) (hD : 2000 ≤ D) (hb : D < 2 ^ 30) (th sst acs x1 x2 : Int32) : wG n S D w0 (m_go n th sst acs w kp x1 x2).2.2.2.2.1 := by
  obtain ⟨g1, g2, g3, m, g4, g5⟩ := g
  unfold m_go
  by_cases c1 : m_isFrom x1 1 99 = 0
  · rw [if_pos c1]; exact ⟨g1, g2, g3, m, g4, g5⟩
  rw [if_neg c1]
  obtain ⟨k, k1, k2, rfl⟩ := from99 c1
  by_cases c2 : 999 < (gA w 201) + nI k
  · rw [if_pos c2]; exact ⟨g1, g2, g3, m, g4, g5⟩
  rw [if_neg c2]
  show wG n S D w0 (m_mins n x2 (lpN (nI k) (nI 0)) w)
  rw [gA_201, g5.1.1, nI_add9, Int32.lt_iff_toInt_lt, nI_toInt (by omega), show (999 : Int32).toInt = 999 from rfl] at c2
  rw [show lpN (nI k) (nI 0) = k from lpN_n0 (by omega)]
  obtain ⟨X', -⟩ := wX.mins (care := x2) hb k m w g5 H (by omega)
  have s : stA n (m_mins n x2 k w) w := by rw [← m_adv_f]; exact adv_st H k
  have C' : wC n (m_mins n x2 k w) := by rw [← m_adv_f]; exact wC.adv k w H g2
  exact ⟨s.tr g1, C', s.wW g3, m + k, by omega, X'⟩
theorem wG.undo (g : wG n S D w0 w) (ga : ∀ i, i < a → wG n S D w0 (bk kp i)) (ha : a ≤ 10) (hw : w.length = 602) (th sst : Int32) : wG n S D w0 (m_undo th sst (nI a) w kp).2.2.2.2 := by
  rw [undo_n ha hw]
  by_cases c : a = 0
  · rw [if_pos c]; exact g
  · have q : a - 1 < a := by omega
    have g9 := ga (a - 1) q
    rw [if_neg c]
    generalize bk kp (a - 1) = z at g9 ⊢
    exact g9
/-- an act has been done by the class, then by the reference -/
theorem hR.b {y : Int32 × Int32 × Int32 × Int32 × List Int32 × List Int32} {rv : Option Value} {h h1 h2 : J_H} (B : hbP L L' n S (wG n S D w0) y rv h h1) (M : hM9 y.2.2.2.2.2 y.2.2.2.2.1 y.2.2.1 y.2.2.2.1 h2) (F2 : ∀ x, ¬ (359 ≤ x ∧ x < 371) → h2[x]? = h1[x]?) (hg : wG n S D' w0 y.2.2.2.2.2) (hD : D ≤ D') (hL : L + 16 ≤ 359 := by decide) : ∃ a' e', y.2.2.2.1 = nI a' ∧ hR L L' n S a' e' D' w0 y.2.2.2.2.2 y.2.2.2.2.1 y.2.2.1 h2 := by
  obtain ⟨-, a', e', e1, e2, X, A, G, F⟩ := B
  rw [e1] at M
  exact ⟨a', e', e1, ⟨(F2 0 (by decide)).trans X.1, X.2.1.fr (fun x _ _ => F2 x (by omega)), X.2.2.fr (fun x _ _ => F2 x (by omega))⟩, A.fr (fun x g1 g2 => F2 x (by omega)), M, e2, hg, fun i hi => (G i hi).mono hD⟩
end ACTS

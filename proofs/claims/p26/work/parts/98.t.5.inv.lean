/-! where a train is, read alike; what holds is kept where nothing of it is written -/
def sP (w' w : List Int32) (u : Nat) : Prop := ∀ k, (k = 1 ∨ k = 2 ∨ k = 6 ∨ k = 7 ∨ k = 8) → ft w' u k = ft w u k
theorem sT.p {w' w : List Int32} {u : Nat} (h : sT w' w u) : sP w' w u := fun k hk => h k (by omega)
section SAMEP
variable {w' w : List Int32} {u : Nat}
theorem sP.qfR (h : sP w' w u) : fR w' u = fR w u := congrArg nV (h 1 (by decide))
theorem sP.qtO (h : sP w' w u) : tO w' u = tO w u := congrArg nV (h 2 (by decide))
theorem sP.qaT (h : sP w' w u) : atT w' u = atT w u := congrArg nV (h 7 (by decide))
theorem sP.qkT (h : sP w' w u) : kT w' u = kT w u := congrArg nV (h 8 (by decide))
theorem sP.qnX (h : sP w' w u) : nxT w' u = nxT w u := by unfold nxT; rw [h.qfR, h.qtO, h.qaT]
theorem sP.qsC (h : sP w' w u) : sC w' u = sC w u := by unfold sC; rw [h.qfR, h.qtO, h.qaT]
theorem sP.qcL (h : sP w' w u) : cL w' u = cL w u := by unfold cL; rw [h.qnX, h.qtO, h.qaT, h.qkT, h 6 (by decide)]
theorem sP.qeV (h : sP w' w u) : eV w' u = eV w u := by unfold eV; rw [h.qfR, h.qaT, h 6 (by decide)]
theorem sP.qgV (h : sP w' w u) (k : Nat) : gV w' k u = gV w k u := by unfold gV; rw [h.qfR, h.qtO, h.qaT, h 6 (by decide)]
theorem sP.qonW (h : sP w' w u) : onW w' u ↔ onW w u := by unfold onW; rw [h.qfR, h.qtO, h.qaT]
theorem sP.qwT {S : Nat} (h : sP w' w u) (hs : sS w' w) (hS : S ≤ 7) (H : wTr S w u) : wTr S w' u := by
  have hn : ft w u 6 = 2 → nxT w u < 7 := fun e => by
    obtain ⟨⟨h1, h2⟩, ⟨h3, h4⟩, h5, h6, h7, h8, h9, h10, h11⟩ := H
    have h7 := h7 (by rw [e]; decide)
    have h8 := h8 (Or.inr e)
    unfold onW at h8
    unfold nxT
    split <;> omega
  obtain ⟨⟨h1, h2⟩, ⟨h3, h4⟩, h5, h6, h7, h8, h9, h10, h11⟩ := H
  unfold wTr
  rw [h.qfR, h.qtO, h.qaT, h.qkT, h.qnX, h.qonW, h 1 (by decide), h 2 (by decide), h 6 (by decide), h 7 (by decide), h 8 (by decide)]
  refine ⟨⟨h1, h2⟩, ⟨h3, h4⟩, h5, h6, h7, h8, h9, fun e => ?_, fun e => ?_⟩
  · rw [hs.qmN (by have := (h7 (by rw [e]; decide)).2; omega)]; exact h10 e
  · rcases h11 e with g | ⟨g1, g2, g3⟩
    · exact Or.inl g
    · exact Or.inr ⟨g1, g2, by rw [hs.qmN (hn e)]; exact g3⟩
end SAMEP
def wU (j : Nat) : Prop := j < 56 ∨ (∃ t k, t < 5 ∧ (k = 1 ∨ k = 2 ∨ k = 6 ∨ k = 7 ∨ k = 8) ∧ j = 56 + 28 * t + k) ∨ 196 ≤ j ∧ j < 201 ∨ j = 202 ∨ j = 203 ∨ 210 ≤ j ∧ j < 216 ∨ 246 ≤ j ∧ j < 271 ∨ 296 ≤ j ∧ j < 310 ∨ 570 ≤ j ∧ j < 595
section FRAME
variable {n S : Nat} {w w' : List Int32}
theorem wg.frame (H : wg n S w) (hl : w'.length = 602) (h : ∀ j, (j < 56 ∨ (∃ t k, t < 5 ∧ (k = 1 ∨ k = 2 ∨ k = 6 ∨ k = 7 ∨ k = 8) ∧ j = 56 + 28 * t + k) ∨ j = 202 ∨ j = 203) → gN w' j = gN w j) : wg n S w' := by
  have h5 := H.n5
  have hs : sS w' w := sS_of fun j hj => h j (Or.inl hj)
  have hu : ∀ u, u < n → sP w' w u := fun u hu k hk => h _ (Or.inr (Or.inl ⟨u, k, by omega, hk, rfl⟩))
  exact ⟨⟨hl, (h 203 (by omega)).trans H.A.2.1, h5, (h 202 (by omega)).trans H.A.2.2.2.1, H.S7⟩, fun s hs7 => hs.qwS hs7 (H.St hs7), fun u hun => (hu u hun).qwT hs H.S7 (H.T hun)⟩
theorem wf.frame (H : wf n S w) (hl : w'.length = 602) (h : ∀ j, wU j → gN w' j = gN w j) : wf n S w' := by
  have h5 := H.n5
  have hu : ∀ u, u < n → sP w' w u := fun u hu k hk => h _ (Or.inr (Or.inl ⟨u, k, by omega, hk, rfl⟩))
  have G : wg n S w' := H.g.frame hl (fun j hj => h j (by unfold wU; rcases hj with a | a | a | a <;> simp only [a, true_or, or_true]))
  have hr : ∀ j, 196 ≤ j → j < 201 ∨ j = 202 ∨ j = 203 ∨ 210 ≤ j ∧ j < 216 ∨ 246 ≤ j ∧ j < 271 ∨ 296 ≤ j ∧ j < 310 ∨ 570 ≤ j ∧ j < 595 → gN w' j = gN w j := fun j h1 h2 => h j (by unfold wU; omega)
  refine ⟨G.A, fun s hs => G.St hs, fun u hu => G.T hu, ⟨fun a b ha hb hab hc => ?_, fun a b ha hb hab h1 h2 => ?_⟩, ⟨fun k hk => ?_, fun u hun => ?_, fun j k hj hk => ?_⟩, ⟨?_, fun k hk => ?_⟩, ?_, fun k hk => ?_⟩
  · rw [(hu a ha).qcL] at hc ⊢
    rw [(hu b hb).qcL]
    exact H.D.1 a b ha hb hab hc
  · rw [hu a ha 6 (by decide)] at h1
    rw [hu b hb 6 (by decide)] at h2
    rw [(hu a ha).qsC, (hu b hb).qsC]
    exact H.D.2 a b ha hb hab h1 h2
  · rw [hr _ (by omega) (by omega)]; exact H.R.1 k hk
  · obtain ⟨k, g1, g2⟩ := H.R.2.1 u hun
    exact ⟨k, g1, by rw [hr _ (by omega) (by omega)]; exact g2⟩
  · rw [hr _ (by omega) (by omega), hr _ (by omega) (by omega)]
    exact H.R.2.2 j k hj hk
  · rw [hr _ (by omega) (by omega), H.E.1, sumN_congr (f' := eV w') (fun u hun => (hu u hun).qeV)]
  · rw [hr _ (by omega) (by omega), H.E.2 k hk, sumN_congr (f' := gV w' k) (fun u hun => (hu u hun).qgV k)]
  · obtain ⟨m, g1, g2, g3⟩ := H.L
    refine ⟨m, g1, by rw [hr 296 (by omega) (by omega)]; exact g2, fun k hm => ?_⟩
    obtain ⟨a, s, q, g4, g5, g6, g7, g8, g9, g10⟩ := g3 k hm
    exact ⟨a, s, q, g4, g5, g6, g7, by rw [hr _ (by omega) (by omega)]; exact g8, by rw [hr _ (by omega) (by omega)]; exact g9, by rw [hr _ (by omega) (by omega)]; exact g10⟩
  · rw [hr _ (by omega) (by omega), hr _ (by omega) (by omega)]
    exact H.P k hk
theorem wf.set (H : wf n S w) {i : Nat} {x : Int32} (hi : ¬ wU i) : wf n S (w.set i x) :=
  H.frame (by rw [List.length_set]; exact H.len) (fun j hj => gN_ne (fun e => hi (by rw [e]; exact hj)))
end FRAME
section INV
variable {n S : Nat} {w : List Int32} {t : Nat}
theorem wg.sfok (H : wg n S w) : m_sfok w n := by
  have h5 := H.n5
  have hS := H.S7
  refine ⟨H.gn, h5, fun t ht hp => ?_⟩
  have hT := H.T ht
  have h6 : ft w t 6 = 1 ∨ ft w t 6 = 2 := by
    unfold m_plc at hp
    have hp : ¬ m_placeOf w (nI t) = -1 := of_decide_eq_false (by simpa using hp)
    unfold m_placeOf at hp
    rw [m_of6 (by omega)] at hp
    by_cases e1 : ft w t 6 = 1
    · exact Or.inl e1
    · by_cases e2 : ft w t 6 = 2
      · exact Or.inr e2
      · rw [if_neg e1, if_neg e2] at hp
        exact absurd rfl hp
  obtain ⟨x1, x2, x3, x4, x5⟩ := hT.next hS (by omega) h6
  have h7 := hT.2.2.2.2.1 (by rcases h6 with e | e <;> rw [e] <;> decide)
  have h8 := hT.2.2.2.2.2.1 h6
  have hst := hT.step hS (by omega)
  have ho := hT.2.1
  obtain ⟨c, hc, hc1⟩ : ∃ c, m_cs w (nI t) = nI c ∧ (fR w t < tO w t ∧ c ≤ tO w t ∨ ¬ fR w t < tO w t ∧ tO w t ≤ c ∧ c < 7) := by
    unfold m_cs
    rw [m_of6 (by omega), x1, m_of7 (by omega), h7.1]
    unfold onW at h8
    by_cases e2 : ft w t 6 = 2
    · rw [if_pos e2]
      refine ⟨_, rfl, ?_⟩
      unfold nxT
      split <;> omega
    · rw [if_neg e2]
      exact ⟨_, rfl, by omega⟩
  unfold m_cg m_gg
  rw [hc, hst, m_of2 (by omega), ho.1, nI_toInt (by omega), nI_toInt (by omega)]
  by_cases d : fR w t < tO w t
  · rw [if_pos d, show (1 : Int32).toInt = 1 from rfl]
    omega
  · rw [if_neg d, show (-1 : Int32).toInt = -1 from rfl]
    omega
theorem wf.whyNot0 (H : wf n S w) (ht : t < n) (hw : m_whyNot w (nI t) = 0) : (ft w t 6 = 0 ∧ tF n w t (fR w t) ≠ 9 ∧ m_sets w (nI t) = cmW w (sumN (eV w) n) t (tF n w t (fR w t))) ∨ (ft w t 6 = 1 ∧ fnd (onS w (sC w t)) n 0 = -1 ∧ (nxT w t ≠ tO w t → tF n w t (nxT w t) ≠ 9) ∧ m_sets w (nI t) = lvW w (sumN (eV w) n) t (if nxT w t = tO w t then -1 else eb (tF n w t (nxT w t))) (sumN (gV w (sC w t)) n)) := by
  have h5 := H.n5
  have hT := H.T ht
  rw [H.g.whyNot ht] at hw
  by_cases c3 : ft w t 6 = 3
  · rw [if_pos c3] at hw; exact absurd hw (by decide)
  rw [if_neg c3] at hw
  by_cases c2 : ft w t 6 = 2
  · rw [if_pos c2] at hw; exact absurd hw (by decide)
  rw [if_neg c2] at hw
  by_cases c0 : ft w t 6 = 0
  · rw [if_pos c0] at hw
    by_cases c : tF n w t (fR w t) = 9
    · rw [if_pos c] at hw; exact absurd hw (by decide)
    · exact Or.inl ⟨c0, c, sets0 H.g ht c0 H.E.1 (H.ev65 ht c3)⟩
  rw [if_neg c0] at hw
  have h6 : ft w t 6 = 1 := by rcases hT.2.2.2.1 with e | e | e | e <;> first | exact e | contradiction
  obtain ⟨x1, x2, x3, x4, x5⟩ := hT.next H.S7 (by omega) (Or.inl h6)
  by_cases c1 : fnd (onS w (sC w t)) n 0 = -1
  · rw [if_pos c1] at hw
    refine Or.inr ⟨h6, c1, fun z => ?_, sets1 H.g ht h6 H.E.1 (H.ev65 ht c3) (H.E.2 _ x4) (H.go5 ht (gV_no hT h6))⟩
    rw [if_neg z] at hw
    intro c
    rw [if_pos c] at hw
    exact absurd hw (by decide)
  · rw [if_neg c1] at hw; exact absurd hw (by decide)
theorem wf.sets (H : wf n S w) (ht : t < n) (hw : m_whyNot w (nI t) = 0) : wf n S (m_sets w (nI t)) := by
  rcases H.whyNot0 ht hw with ⟨h1, h2, h3⟩ | ⟨h1, h2, h3, h4⟩
  · rw [h3]; exact H.cm ht h1 h2
  · rw [h4]; exact H.lv ht h1 h2 h3
theorem wf.arr (H : wf n S w) (ht : t < n) (h6 : ft w t 6 = 2) : m_arrives w (nI t) = arW w (sumN (eV w) n) t ∧ wf n S (m_arrives w (nI t)) := by
  have e := arrives_n H.g ht h6 H.E.1 (H.ev65 ht (by rw [h6]; decide))
  exact ⟨e, by rw [e]; exact H.ar ht h6⟩
theorem isTrain_n {x : Int32} (H : wg n S w) : ¬ m_isTrain w x = 0 ↔ ∃ t, t < n ∧ x = nI t := by
  have h5 := H.n5
  unfold m_isTrain m_isFrom
  rw [H.gn]
  have e1 : (nI n - 1).toInt = (n : Int) - 1 := by
    match n, h5 with
    | 0, _ => rfl
    | 1, _ => rfl
    | 2, _ => rfl
    | 3, _ => rfl
    | 4, _ => rfl
    | 5, _ => rfl
  constructor
  · intro h
    by_cases c1 : x < 0
    · rw [if_pos c1] at h; exact absurd rfl h
    rw [if_neg c1] at h
    by_cases c2 : nI n - 1 < x
    · rw [if_pos c2] at h; exact absurd rfl h
    rw [Int32.lt_iff_toInt_lt, show (0 : Int32).toInt = 0 from rfl] at c1
    rw [Int32.lt_iff_toInt_lt, e1] at c2
    refine ⟨x.toInt.toNat, by omega, Int32.toInt_inj.mp ?_⟩
    rw [nI_toInt (by omega)]
    omega
  · rintro ⟨t, ht, rfl⟩
    rw [if_neg (nI_pos (by omega)), if_neg]
    · decide
    · rw [Int32.lt_iff_toInt_lt, e1, nI_toInt (by omega)]
      omega
theorem wf.mA1 (H : wf n S w) (ht : t < n) : wf n S (m_mA1 w (nI t)) := by
  have h5 := H.n5
  unfold m_mA1
  rw [m_of6 (by omega)]
  by_cases c : ft w t 6 = 2
  · rw [if_pos c]
    split
    · exact H
    · exact (H.arr ht c).2
  · rw [if_neg c]; exact H
theorem wf.tries (H : wf n S w) (ht : t < n) (care : Int32) : wf n S (m_tries w n (nI t) care) := by
  unfold m_tries
  by_cases c : m_whyNot w (nI t) = 0
  · rw [if_pos c]
    have := H.sets ht c
    split
    · exact this
    · split
      · exact H
      · exact this
  · rw [if_neg c]; exact H
theorem wf.mM1 (H : wf n S w) {k : Nat} (hk : k < n) (care : Int32) : wf n S (m_mM1 w n care (nI k)) := by
  have h5 := H.n5
  obtain ⟨t, ht, e⟩ := H.R.1 k hk
  unfold m_mM1
  rw [gA_rank (by omega), e]
  split
  · split
    · exact H
    · exact H.tries ht care
  · exact H
theorem nU {j : Nat} (h : 204 ≤ j ∧ j < 210 ∨ j = 201 ∨ 271 ≤ j ∧ j < 296 ∨ 595 ≤ j ∨ (∃ t k, t < 5 ∧ k < 28 ∧ k ≠ 1 ∧ k ≠ 2 ∧ k ≠ 6 ∧ k ≠ 7 ∧ k ≠ 8 ∧ j = 56 + 28 * t + k)) : ¬ wU j := by
  unfold wU
  intro z
  rcases z with z | ⟨a, b, z1, z2, z3⟩ | z
  · rcases h with h | h | h | h | ⟨a, b, y⟩ <;> omega
  · rcases h with h | h | h | h | ⟨a, b, y⟩ <;> omega
  · rcases h with h | h | h | h | ⟨a, b, y⟩ <;> omega
theorem wf.mT (H : wf n S w) : wf n S (m_mT w) := by
  unfold m_mT
  rw [show sA w 201 (gA w 201 + 1) = w.set 201 (gA w 201 + 1) from sA_n (i := 201) (by decide)]
  exact H.set (nU (by omega))
theorem mE0_n (H : wg n S w) (ht : t < n) (h6 : ft w t 6 = 2) : m_mE0 w (nI t) = w.set (204 + sC w t) (gN w (204 + sC w t) + 1) := by
  have h5 := H.n5
  obtain ⟨x1, x2, x3, x4, x5⟩ := (H.T ht).next H.S7 (by omega) (Or.inr h6)
  unfold m_mE0
  rw [m_of6 (by omega), if_pos h6, x2, show (204 : Int32) + nI (sC w t) = nI (204 + sC w t) from nI_add 204 _, sA_n (by omega), gA_n (by omega)]
theorem wf.mE0 (H : wf n S w) (ht : t < n) : wf n S (m_mE0 w (nI t)) := by
  have h5 := H.n5
  by_cases c : ft w t 6 = 2
  · rw [mE0_n H.g ht c]
    obtain ⟨x1, x2, x3, x4, x5⟩ := (H.T ht).next H.S7 (by omega) (Or.inr c)
    exact H.set (nU (by omega))
  · unfold m_mE0
    rw [m_of6 (by omega), if_neg c]
    exact H
theorem mS_n (H : wg n S w) (ht : t < n) (h6 : ft w t 6 = 1) : m_mS w (nI t) = (w.set (56 + 28 * t + 12) (ft w t 12 + 1)).set (595 + atT w t) (gN w (595 + atT w t) + 1) := by
  have h5 := H.n5
  have hS := H.S7
  have h7 := (H.T ht).2.2.2.2.1 (by rw [h6]; decide)
  unfold m_mS
  rw [m_puts12 (by omega), m_of12 (by omega), m_of7 (by omega)]
  have e : ft (w.set (56 + 28 * t + 12) (ft w t 12 + 1)) t 7 = nI (atT w t) := by
    unfold ft
    rw [gN_ne (by omega)]
    exact h7.1
  rw [e, show (595 : Int32) + nI (atT w t) = nI (595 + atT w t) from nI_add 595 _, sA_n (by omega), gA_n (by omega), gN_ne (by omega)]
theorem wf.mS (H : wf n S w) (ht : t < n) (h6 : ft w t 6 = 1) : wf n S (m_mS w (nI t)) := by
  have h5 := H.n5
  have hS := H.S7
  have h7 := (H.T ht).2.2.2.2.1 (by rw [h6]; decide)
  rw [mS_n H.g ht h6]
  exact (H.set (nU (Or.inr (Or.inr (Or.inr (Or.inr ⟨t, 12, by omega, by decide, by decide, by decide, by decide, by decide, by decide, rfl⟩)))))).set (nU (by omega))
theorem meets_n {q : Nat} (H : wg n S w) (ht : t < n) (hq : q < n) : m_meets w (nI t) (nI q) = if q = t then w else if ft w q 6 = 1 then (if ft w q 7 = ft w t 7 then (if gN w (246 + (5 * t + q)) = -1 then ((w.set (570 + (5 * t + q)) (gN w (570 + (5 * t + q)) ||| (1 <<< (ft w t 7 &&& 31)))).set (246 + (5 * t + q)) (ft w t 7)).set (271 + (5 * t + q)) (gN w 201) else w.set (570 + (5 * t + q)) (gN w (570 + (5 * t + q)) ||| (1 <<< (ft w t 7 &&& 31)))) else w) else w := by
  have h5 := H.n5
  unfold m_meets
  have e0 : ∀ a : Nat, nI a + (5 * nI t + nI q) = nI (a + (5 * t + q)) := fun a => by
    show nI a + (nI 5 * nI t + nI q) = _
    rw [nI_mul, nI_add, nI_add]
  rw [show (570 : Int32) + (5 * nI t + nI q) = nI (570 + (5 * t + q)) from e0 570, show (246 : Int32) + (5 * nI t + nI q) = nI (246 + (5 * t + q)) from e0 246, show (271 : Int32) + (5 * nI t + nI q) = nI (271 + (5 * t + q)) from e0 271]
  rw [m_of6 (by omega), m_of7 (by omega), m_of7 (by omega)]
  by_cases c : q = t
  · rw [if_pos c, c, if_pos rfl]
  rw [if_neg c, if_neg (fun z => c ((nI_eq (by omega) (by omega)).mp z))]
  by_cases c6 : ft w q 6 = 1
  · rw [if_pos c6, if_pos c6]
    by_cases c7 : ft w q 7 = ft w t 7
    · rw [if_pos c7, if_pos c7]
      dsimp only
      rw [sA_n (by omega), gA_n (by omega), gA_n (by omega), gN_ne (by omega)]
      by_cases c8 : gN w (246 + (5 * t + q)) = -1
      · rw [if_pos c8, if_pos c8, sA_n (by omega), sA_n (by omega), m_of7 (by omega), gA_201, gN_ne (by omega), gN_ne (by omega)]
        unfold ft
        rw [gN_ne (by omega)]
      · rw [if_neg c8, if_neg c8]
    · rw [if_neg c7, if_neg c7]
  · rw [if_neg c6, if_neg c6]
theorem or_bit_ne {x : Int32} {a : Nat} (ha : a < 32) : ¬ x ||| (1 <<< (nI a &&& 31)) = 0 := by
  intro z
  have := congrArg (fun y => tb y a) z
  simp only [tb_or, tb_0, tb_one ha ha, decide_true, Bool.or_true] at this
  cases this
theorem wf.meets (H : wf n S w) {q : Nat} (ht : t < n) (hq : q < n) : wf n S (m_meets w (nI t) (nI q)) := by
  have h5 := H.n5
  have hS := H.S7
  have hl := H.len
  rw [meets_n H.g ht hq]
  split
  · exact H
  split
  · rename_i h6
    split
    · rename_i h7
      have ha := (H.T hq).2.2.2.2.1 (by rw [h6]; decide)
      rw [← h7, ha.1]
      have hne := @or_bit_ne (gN w (570 + (5 * t + q))) (atT w q) (by omega)
      generalize gN w (570 + (5 * t + q)) ||| (1 <<< (nI (atT w q) &&& 31)) = b at hne
      have key : ∀ w', w'.length = 602 → (∀ j, j < 246 ∨ 296 ≤ j ∧ j < 570 ∨ 595 ≤ j → gN w' j = gN w j) → (∀ k, k < 25 → 0 < n → (gN w' (570 + k) = 0 ↔ gN w' (246 + k) = -1)) → wf n S w' := by
        intro w' g1 g2 g3
        have hfr : ∀ j, wU j → ¬ (246 ≤ j ∧ j < 271) → ¬ (570 ≤ j ∧ j < 595) → gN w' j = gN w j := fun j hj z1 z2 => g2 j (by
          unfold wU at hj
          rcases hj with y | ⟨a, c, y1, y2, y3⟩ | y <;> omega)
        -- by way of a block that has the old past
        have hu : ∀ u, u < n → sP w' w u := fun u hu k hk => g2 _ (by omega)
        have G : wg n S w' := H.g.frame g1 (fun j hj => g2 j (by rcases hj with y | ⟨a, c, y1, y2, y3⟩ | y <;> omega))
        refine ⟨G.A, fun s hs => G.St hs, fun u hu => G.T hu, ⟨fun a b ha hb hab hc => ?_, fun a b ha hb hab h1 h2 => ?_⟩, ⟨fun k hk => ?_, fun u hun => ?_, fun j k hj hk => ?_⟩, ⟨?_, fun k hk => ?_⟩, ?_, g3⟩
        · rw [(hu a ha).qcL] at hc ⊢
          rw [(hu b hb).qcL]
          exact H.D.1 a b ha hb hab hc
        · rw [hu a ha 6 (by decide)] at h1
          rw [hu b hb 6 (by decide)] at h2
          rw [(hu a ha).qsC, (hu b hb).qsC]
          exact H.D.2 a b ha hb hab h1 h2
        · rw [g2 _ (by omega)]; exact H.R.1 k hk
        · obtain ⟨k, y1, y2⟩ := H.R.2.1 u hun
          exact ⟨k, y1, by rw [g2 _ (by omega)]; exact y2⟩
        · rw [g2 _ (by omega), g2 _ (by omega)]
          exact H.R.2.2 j k hj hk
        · rw [g2 _ (by omega), H.E.1, sumN_congr (f' := eV w') (fun u hun => (hu u hun).qeV)]
        · rw [g2 _ (by omega), H.E.2 k hk, sumN_congr (f' := gV w' k) (fun u hun => (hu u hun).qgV k)]
        · obtain ⟨m, y1, y2, y3⟩ := H.L
          refine ⟨m, y1, by rw [g2 296 (by omega)]; exact y2, fun k hm => ?_⟩
          obtain ⟨a, s, q, y4, y5, y6, y7, y8, y9, y10⟩ := y3 k hm
          exact ⟨a, s, q, y4, y5, y6, y7, by rw [g2 _ (by omega)]; exact y8, by rw [g2 _ (by omega)]; exact y9, by rw [g2 _ (by omega)]; exact y10⟩
      split
      · refine key _ (by simp only [List.length_set]; exact hl) (fun j hj => by rw [gN_ne (by omega), gN_ne (by omega), gN_ne (by omega)]) (fun k hk => ?_)
        by_cases e : k = 5 * t + q
        · rw [e, gN_ne (by omega), gN_ne (by omega), gN_eq (by omega), gN_ne (by omega), gN_eq (by simp only [List.length_set]; omega)]
          exact fun _ => ⟨fun z => absurd z hne, fun z => absurd z (nI_nn (by omega))⟩
        · rw [gN_ne (by omega), gN_ne (by omega), gN_ne (by omega), gN_ne (by omega), gN_ne (by omega), gN_ne (by omega)]
          exact H.P k hk
      · rename_i hw
        refine key _ (by simp only [List.length_set]; exact hl) (fun j hj => by rw [gN_ne (by omega)]) (fun k hk => ?_)
        by_cases e : k = 5 * t + q
        · rw [e, gN_eq (by omega), gN_ne (by omega)]
          exact fun _ => ⟨fun z => absurd z hne, fun z => absurd z hw⟩
        · rw [gN_ne (by omega), gN_ne (by omega)]
          exact H.P k hk
    · exact H
  · exact H
theorem wf.rk (H : wf n S w) (ht : t < n) : m_rk w (nI t) 4 0 := by
  have h5 := H.n5
  obtain ⟨k, hk, e⟩ := H.R.2.1 t ht
  have e := (gA_rank (w := w) (k := k) (by omega)).trans e
  have : ∀ (f i : Nat), i ≤ k → k ≤ i + f → m_rk w (nI t) f (nI i) := by
    intro f
    induction f with
    | zero =>
      intro i h1 h2
      have : i = k := by omega
      subst this
      exact e
    | succ f ih =>
      intro i h1 h2
      by_cases c : i = k
      · subst c
        exact Or.inl e
      · refine Or.inr ?_
        rw [nI_1]
        exact ih (i + 1) (by omega) (by omega)
  exact this 4 0 (by omega) (by omega)
theorem wf.Inv (hn : n ≤ 5) : m_Inv n (wf n S) (wf n S) := by
  refine ⟨hn, fun w h => ⟨h.len, h.gn⟩, fun w t ht h => h.mA1 ht, fun w k care hk h => h.mM1 hk care, fun w k hk h => ?_, fun w h => h.g.sfok, fun w t h h1 h2 => ?_, fun w h => ⟨h.len, h.gn⟩, fun w h => h, fun w t q ht hq h => h.meets ht hq, fun w t ht h => h.mE0 ht, fun w t ht h h6 => ?_, fun w h => h.mT, fun w t h h1 => ?_⟩
  · obtain ⟨t, ht, e⟩ := h.R.1 k hk
    rw [gA_rank (by omega)]
    exact (isTrain_n h.g).mpr ⟨t, ht, e⟩
  · obtain ⟨u, hu, rfl⟩ := (isTrain_n h.g).mp h1
    exact (h.sets hu h2).g.sfok
  · rw [m_of6 (by omega)] at h6
    exact h.mS ht h6
  · obtain ⟨u, hu, rfl⟩ := (isTrain_n h.g).mp h1
    exact h.rk hu
end INV

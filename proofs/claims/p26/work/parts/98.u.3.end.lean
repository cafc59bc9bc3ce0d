/-! the end of a minute: the reference -/
def inE (j : Nat) : Prop := j = 201 ∨ 204 ≤ j ∧ j < 210 ∨ 246 ≤ j ∧ j < 296 ∨ 570 ≤ j ∨ ∃ t, t < 5 ∧ j = 56 + 28 * t + 12
/-- all but what the end of a minute writes -/
def eF (w' w : List Int32) : Prop := w'.length = 602 ∧ ∀ j, ¬ inE j → gN w' j = gN w j
def bN (b : Bool) : Nat := if b = true then 1 else 0
def inS (w : List Int32) (s t : Nat) : Bool := decide (ft w t 6 = 1) && Nat.beq (atT w t) s
def met (n : Nat) (w : List Int32) (t q : Nat) : Bool := (decide (t < n) && decide (q < n)) && (!Nat.beq t q && (decide (ft w t 6 = 1) && (decide (ft w q 6 = 1) && Nat.beq (atT w t) (atT w q))))
theorem met_n {n : Nat} {w : List Int32} {t q : Nat} : met n w t q = true ↔ (t < n ∧ q < n) ∧ t ≠ q ∧ ft w t 6 = 1 ∧ ft w q 6 = 1 ∧ atT w t = atT w q := by
  unfold met
  rw [Bool.and_eq_true_iff, Bool.and_eq_true_iff, Bool.and_eq_true_iff, Bool.and_eq_true_iff, Bool.and_eq_true_iff, Bool.not_eq_true', decide_eq_true_iff, decide_eq_true_iff, decide_eq_true_iff, decide_eq_true_iff, Nat.beq_eq]
  constructor
  · rintro ⟨a, b, c, d, e⟩
    exact ⟨a, fun z => (by rw [Nat.beq_eq.mpr z] at b; cases b), c, d, e⟩
  · rintro ⟨a, b, c, d, e⟩
    exact ⟨a, Bool.eq_false_iff.mpr (fun z => b (Nat.beq_eq.mp z)), c, d, e⟩
/-- a pair that met, that did not -/
def pD (w' w : List Int32) (t q : Nat) : Prop := gN w' (570 + (5 * t + q)) = (gN w (570 + (5 * t + q)) ||| (1 <<< (nI (atT w t) &&& 31))) ∧ gN w' (246 + (5 * t + q)) = (if gN w (246 + (5 * t + q)) = -1 then nI (atT w t) else gN w (246 + (5 * t + q))) ∧ gN w' (271 + (5 * t + q)) = (if gN w (246 + (5 * t + q)) = -1 then gN w 201 else gN w (271 + (5 * t + q)))
def pU (w' w : List Int32) (t q : Nat) : Prop := gN w' (570 + (5 * t + q)) = gN w (570 + (5 * t + q)) ∧ gN w' (246 + (5 * t + q)) = gN w (246 + (5 * t + q)) ∧ gN w' (271 + (5 * t + q)) = gN w (271 + (5 * t + q))
theorem pU.rf {w : List Int32} {t q : Nat} : pU w w t q := ⟨rfl, rfl, rfl⟩
theorem pU.tr {w w' w'' : List Int32} {t q : Nat} (h1 : pU w' w t q) (h2 : pU w'' w' t q) : pU w'' w t q := ⟨h2.1.trans h1.1, h2.2.1.trans h1.2.1, h2.2.2.trans h1.2.2⟩
theorem pD.tr {w w' w'' : List Int32} {t q : Nat} (h1 : pD w' w t q) (h2 : pU w'' w' t q) : pD w'' w t q := ⟨h2.1.trans h1.1, h2.2.1.trans h1.2.1, h2.2.2.trans h1.2.2⟩
theorem pU_of {w w' : List Int32} {t q : Nat} (ht : t < 5) (hq : q < 5) (h : ∀ j, 246 ≤ j → j < 296 ∨ 570 ≤ j ∧ j < 595 → gN w' j = gN w j) : pU w' w t q := ⟨h _ (by omega) (by omega), h _ (by omega) (by omega), h _ (by omega) (by omega)⟩
section EF
variable {n S : Nat} {w w' w0 : List Int32} {t : Nat}
theorem eF.p (h : eF w' w) (u : Nat) (hu : u < 5) : ∀ k, k < 28 → k ≠ 12 → ft w' u k = ft w u k := fun k hk h12 => h.2 _ (by
  rintro (z | z | z | z | ⟨a, z1, z2⟩) <;> omega)
theorem eF.sP (h : eF w' w) {u : Nat} (hu : u < 5) : sP w' w u := fun k hk => h.p u hu k (by omega) (by omega)
theorem eF.rf (hl : w.length = 602) : eF w w := ⟨hl, fun _ _ => rfl⟩
theorem eF.tr {w'' : List Int32} (h1 : eF w' w) (h2 : eF w'' w') : eF w'' w := ⟨h2.1, fun j hj => (h2.2 j hj).trans (h1.2 j hj)⟩
theorem eF.lo (h : eF w' w) {j : Nat} (hj : j < 56) : gN w' j = gN w j := h.2 j (by rintro (z | z | z | z | ⟨a, z1, z2⟩) <;> omega)
theorem eF.set {i : Nat} {x : Int32} (hl : w.length = 602) (hi : inE i) : eF (w.set i x) w := ⟨by rw [List.length_set]; exact hl, fun j hj => gN_ne (fun z => hj (by rw [← z]; exact hi))⟩
theorem eF.qaT (h : eF w' w) {u : Nat} (hu : u < 5) : atT w' u = atT w u := (h.sP hu).qaT
theorem eF.qmet (h : eF w' w) (hn : n ≤ 5) {t q : Nat} : met n w' t q = met n w t q := by
  apply Bool.eq_iff_iff.mpr
  rw [met_n, met_n]
  have key : (t < n ∧ q < n) → (ft w' t 6 = ft w t 6 ∧ ft w' q 6 = ft w q 6 ∧ atT w' t = atT w t ∧ atT w' q = atT w q) := fun z => ⟨h.p t (by omega) 6 (by decide) (by decide), h.p q (by omega) 6 (by decide) (by decide), h.qaT (by omega), h.qaT (by omega)⟩
  constructor
  · rintro ⟨a, b, c, d, e⟩
    obtain ⟨k1, k2, k3, k4⟩ := key a
    exact ⟨a, b, by rw [← k1]; exact c, by rw [← k2]; exact d, by rw [← k3, ← k4]; exact e⟩
  · rintro ⟨a, b, c, d, e⟩
    obtain ⟨k1, k2, k3, k4⟩ := key a
    exact ⟨a, b, by rw [k1]; exact c, by rw [k2]; exact d, by rw [k3, k4]; exact e⟩
/-- one meeting -/
theorem meets_e (H : wf n S w) {q : Nat} (ht : t < n) (hq : q < n) (h6 : ft w t 6 = 1) : eF (m_meets w (nI t) (nI q)) w ∧ (∀ j, (j < 246 ∨ 296 ≤ j ∧ j < 570 ∨ 595 ≤ j) → gN (m_meets w (nI t) (nI q)) j = gN w j) ∧ (if met n w t q = true then pD (m_meets w (nI t) (nI q)) w t q else pU (m_meets w (nI t) (nI q)) w t q) ∧ ∀ t' q', t' < 5 → q' < 5 → (t' ≠ t ∨ q' ≠ q) → pU (m_meets w (nI t) (nI q)) w t' q' := by
  have h5 := H.n5
  have hl := H.len
  have h7 := (H.T ht).2.2.2.2.1 (by rw [h6]; decide)
  rw [meets_n H.g ht hq]
  by_cases c1 : q = t
  · rw [if_pos c1, if_neg (fun z => (met_n.mp z).2.1 c1.symm)]
    exact ⟨eF.rf hl, fun _ _ => rfl, pU.rf, fun _ _ _ _ _ => pU.rf⟩
  rw [if_neg c1]
  by_cases c2 : ft w q 6 = 1
  · rw [if_pos c2]
    have h7q := (H.T hq).2.2.2.2.1 (by rw [c2]; decide)
    by_cases c3 : ft w q 7 = ft w t 7
    · have ea : atT w t = atT w q := congrArg nV c3.symm
      rw [if_pos c3, if_pos (met_n.mpr ⟨⟨ht, hq⟩, fun z => c1 z.symm, h6, c2, ea⟩), h7.1]
      unfold pD
      by_cases c4 : gN w (246 + (5 * t + q)) = -1
      · rw [if_pos c4, if_pos c4, if_pos c4]
        refine ⟨⟨by simp only [List.length_set]; exact hl, fun j hj => ?_⟩, fun j hj => ?_, ⟨?_, ?_, ?_⟩, fun t' q' a b d => ⟨?_, ?_, ?_⟩⟩
        · unfold inE at hj
          rw [gN_ne (by omega), gN_ne (by omega), gN_ne (by omega)]
        · rw [gN_ne (by omega), gN_ne (by omega), gN_ne (by omega)]
        · rw [gN_ne (by omega), gN_ne (by omega), gN_eq (by omega)]
        · rw [gN_ne (by omega), gN_eq (by simp only [List.length_set]; omega)]
        · rw [gN_eq (by simp only [List.length_set]; omega)]
        · rw [gN_ne (by omega), gN_ne (by omega), gN_ne (by omega)]
        · rw [gN_ne (by omega), gN_ne (by omega), gN_ne (by omega)]
        · rw [gN_ne (by omega), gN_ne (by omega), gN_ne (by omega)]
      · rw [if_neg c4, if_neg c4, if_neg c4]
        refine ⟨⟨by simp only [List.length_set]; exact hl, fun j hj => ?_⟩, fun j hj => ?_, ⟨?_, ?_, ?_⟩, fun t' q' a b d => ⟨?_, ?_, ?_⟩⟩
        · unfold inE at hj
          rw [gN_ne (by omega)]
        · rw [gN_ne (by omega)]
        · rw [gN_eq (by omega)]
        · rw [gN_ne (by omega)]
        · rw [gN_ne (by omega)]
        · rw [gN_ne (by omega)]
        · rw [gN_ne (by omega)]
        · rw [gN_ne (by omega)]
    · rw [if_neg c3, if_neg (fun z => c3 (by rw [h7q.1, h7.1, (met_n.mp z).2.2.2.2]))]
      exact ⟨eF.rf hl, fun _ _ => rfl, pU.rf, fun _ _ _ _ _ => pU.rf⟩
  · rw [if_neg c2, if_neg (fun z => c2 (met_n.mp z).2.2.2.1)]
    exact ⟨eF.rf hl, fun _ _ => rfl, pU.rf, fun _ _ _ _ _ => pU.rf⟩
/-- a train's meetings -/
theorem mQ_e (ht : t < n) : ∀ (f i : Nat) (w : List Int32), i + f = n → wf n S w → ft w t 6 = 1 → wf n S (m_mQ (nI t) f i w) ∧ eF (m_mQ (nI t) f i w) w ∧ (∀ j, (j < 246 ∨ 296 ≤ j ∧ j < 570 ∨ 595 ≤ j) → gN (m_mQ (nI t) f i w) j = gN w j) ∧ (∀ q, i ≤ q → q < n → if met n w t q = true then pD (m_mQ (nI t) f i w) w t q else pU (m_mQ (nI t) f i w) w t q) ∧ ∀ t' q', t' < 5 → q' < 5 → (t' ≠ t ∨ q' < i ∨ n ≤ q') → pU (m_mQ (nI t) f i w) w t' q'
  | 0, i, w, e, H, h6 => ⟨H, eF.rf H.len, fun _ _ => rfl, fun q a b => absurd b (by omega), fun _ _ _ _ _ => pU.rf⟩
  | f + 1, i, w, e, H, h6 => by
    have h5 := H.n5
    have hi : i < n := by omega
    obtain ⟨a1, a2, a3, a4⟩ := meets_e H ht hi h6
    have W := H.meets ht hi
    have h6' : ft (m_meets w (nI t) (nI i)) t 6 = 1 := (a1.p t (by omega) 6 (by decide) (by decide)).trans h6
    obtain ⟨b1, b2, b3, b4, b5⟩ := mQ_e ht f (i + 1) (m_meets w (nI t) (nI i)) (by omega) W h6'
    refine ⟨b1, a1.tr b2, fun j hj => (b3 j hj).trans (a2 j hj), fun q c1 c2 => ?_, fun t' q' c1 c2 c3 => ?_⟩
    · by_cases d : q = i
      · subst d
        have := b5 t q (by omega) (by omega) (Or.inr (Or.inl (by omega)))
        by_cases m : met n w t q = true
        · rw [if_pos m] at a3 ⊢
          exact a3.tr this
        · rw [if_neg m] at a3 ⊢
          exact a3.tr this
      · have q1 := b4 q (by omega) c2
        rw [a1.qmet h5] at q1
        have q2 := a4 t q (by omega) (by omega) (Or.inr d)
        by_cases m : met n w t q = true
        · rw [if_pos m] at q1 ⊢
          unfold pD at q1 ⊢
          rw [q2.1, q2.2.1, q2.2.2, a1.qaT (by omega), a2 201 (by omega)] at q1
          exact q1
        · rw [if_neg m] at q1 ⊢
          exact q2.tr q1
    · exact (a4 t' q' c1 c2 (by omega)).tr (b5 t' q' c1 c2 (by omega))
/-- so far: the trains below i are through -/
def eI (n i : Nat) (w w0 : List Int32) : Prop := eF w w0 ∧ gN w 201 = gN w0 201 ∧ (∀ k, k < 6 → gN w (204 + k) = gN w0 (204 + k) + nI (sumN (fun t => bN (onS w0 k t)) i)) ∧ (∀ t, t < n → ft w t 12 = ft w0 t 12 + nI (bN (decide (t < i) && decide (ft w0 t 6 = 1)))) ∧ (∀ s, s < 7 → gN w (595 + s) = gN w0 (595 + s) + nI (sumN (fun t => bN (inS w0 s t)) i)) ∧ ∀ t q, t < 5 → q < 5 → if (decide (t < i) && met n w0 t q) = true then pD w w0 t q else pU w w0 t q
theorem nI_add1 (x : Int32) (a : Nat) : x + nI a + 1 = x + nI (a + 1) := by rw [Int32.add_assoc, nI_1]
theorem nI_add0 (x : Int32) (a : Nat) : x + nI a = x + nI (a + 0) := rfl
theorem mE1_e {i : Nat} (H0 : wf n S w0) (H : wf n S w) (E : eI n i w w0) (hi : i < n) : wf n S (m_mE1 n w (nI i)) ∧ eI n (i + 1) (m_mE1 n w (nI i)) w0 := by
  have h5 := H.n5
  have hS := H.S7
  obtain ⟨e1, e2, e3, e4, e5, e6⟩ := E
  have g6 : ft w i 6 = ft w0 i 6 := e1.p i (by omega) 6 (by decide) (by decide)
  have gS : sC w i = sC w0 i := (e1.sP (by omega)).qsC
  have gA : atT w i = atT w0 i := e1.qaT (by omega)
  have W0 := H.mE0 hi
  -- first the section
  have U : eF (m_mE0 w (nI i)) w ∧ (∀ j, (j < 204 ∨ 210 ≤ j) → gN (m_mE0 w (nI i)) j = gN w j) ∧ ∀ k, k < 6 → gN (m_mE0 w (nI i)) (204 + k) = gN w (204 + k) + nI (bN (onS w0 k i)) := by
    by_cases c : ft w i 6 = 2
    · have x4 := ((H.T hi).next hS (by omega) (Or.inr c)).2.2.2.1
      rw [mE0_n H.g hi c]
      refine ⟨eF.set H.len (by unfold inE; omega), fun j hj => gN_ne (by omega), fun k hk => ?_⟩
      by_cases d : k = sC w i
      · subst d
        rw [gN_eq (by have := H.len; omega)]
        have : onS w0 (sC w i) i = true := by
          unfold onS
          rw [← g6, decide_eq_true c, Bool.true_and, ← gS]
          exact Nat.beq_eq.mpr rfl
        rw [this]; rfl
      · rw [gN_ne (by omega)]
        have : onS w0 k i = false := by
          unfold onS
          rw [← gS]
          have : Nat.beq (sC w i) k = false := Bool.eq_false_iff.mpr (fun z => d (Nat.beq_eq.mp z).symm)
          rw [this, Bool.and_false]
        rw [this]
        exact (Int32.add_zero _).symm
    · have e : m_mE0 w (nI i) = w := by unfold m_mE0; rw [m_of6 (by omega), if_neg c]
      rw [e]
      refine ⟨eF.rf H.len, fun _ _ => rfl, fun k hk => ?_⟩
      have : onS w0 k i = false := by
        unfold onS
        rw [← g6, decide_eq_false c, Bool.false_and]
      rw [this]
      exact (Int32.add_zero _).symm
  obtain ⟨u1, u2, u3⟩ := U
  unfold m_mE1
  generalize m_mE0 w (nI i) = v at *
  have v6 : ft v i 6 = ft w0 i 6 := (u2 _ (by omega)).trans g6
  have vA : atT v i = atT w0 i := (u1.qaT (by omega)).trans gA
  rw [m_of6 (by omega)]
  by_cases c : ft v i 6 = 1
  · rw [if_pos c]
    have c0 : ft w0 i 6 = 1 := v6.symm.trans c
    have h7 := (W0.T hi).2.2.2.2.1 (by rw [c]; decide)
    have WS := W0.mS hi c
    have lv := W0.len
    have eS := mS_n W0.g hi c
    generalize m_mS v (nI i) = y at *
    have y1 : eF y v := by
      rw [eS]
      exact (eF.set lv (Or.inr (Or.inr (Or.inr (Or.inr ⟨i, by omega, rfl⟩))))).tr (eF.set (by rw [List.length_set]; exact lv) (by unfold inE; omega))
    have y2 : ∀ j, j ≠ 56 + 28 * i + 12 → j ≠ 595 + atT v i → gN y j = gN v j := fun j a b => by rw [eS, gN_ne (fun z => b z.symm), gN_ne (fun z => a z.symm)]
    have y3 : ft y i 12 = ft v i 12 + 1 := by
      unfold ft
      rw [eS, gN_ne (by omega), gN_eq (by omega)]
      rfl
    have y4 : gN y (595 + atT v i) = gN v (595 + atT v i) + 1 := by rw [eS, gN_eq (by rw [List.length_set]; omega)]
    have c' : ft y i 6 = 1 := (y2 _ (by omega) (by omega)).trans c
    obtain ⟨b1, b2, b3, b4, b5⟩ := mQ_e (S := S) hi n 0 y (Nat.zero_add n) WS c'
    have yw : eF y w := u1.tr y1
    have y0 : eF y w0 := e1.tr yw
    refine ⟨b1, y0.tr b2, ?_, fun k hk => ?_, fun t ht => ?_, fun s hs => ?_, fun t q ht hq => ?_⟩
    · rw [b3 201 (by omega), y2 201 (by omega) (by omega), u2 201 (by omega)]; exact e2
    · rw [b3 (204 + k) (by omega), y2 (204 + k) (by omega) (by omega), u3 k hk, e3 k hk, Int32.add_assoc, nI_add]
      rfl
    · have z1 : ft (m_mQ (nI i) n 0 y) t 12 = ft y t 12 := b3 _ (by omega)
      rw [z1]
      by_cases d : t = i
      · subst d
        rw [y3, show ft v t 12 = ft w t 12 from u2 _ (by omega), e4 t ht, decide_eq_false (show ¬ t < t by omega), decide_eq_true (show t < t + 1 by omega), decide_eq_true c0, nI_add1]
        rfl
      · rw [show ft y t 12 = ft v t 12 from y2 _ (by omega) (by omega), show ft v t 12 = ft w t 12 from u2 _ (by omega), e4 t ht, decide_eq_decide.mpr (show t < i + 1 ↔ t < i by omega)]
    · rw [b3 (595 + s) (by omega)]
      by_cases d : s = atT v i
      · subst d
        rw [y4, u2 (595 + atT v i) (by omega), e5 _ hs, nI_add1]
        have : inS w0 (atT v i) i = true := by
          unfold inS
          rw [decide_eq_true c0, Bool.true_and, vA]
          exact Nat.beq_eq.mpr rfl
        show _ = _ + nI (sumN _ i + bN (inS w0 (atT v i) i))
        rw [this]; rfl
      · rw [y2 (595 + s) (by omega) (by omega), u2 (595 + s) (by omega), e5 s hs]
        have : inS w0 s i = false := by
          unfold inS
          rw [← vA, show Nat.beq (atT v i) s = false from Bool.eq_false_iff.mpr (fun z => d (Nat.beq_eq.mp z).symm), Bool.and_false]
        show _ = _ + nI (sumN _ i + bN (inS w0 s i))
        rw [this]; rfl
    · have pw : pU y w t q := pU_of ht hq (fun j a b => by rw [y2 j (by omega) (by omega), u2 j (by omega)])
      have hme : met n y t q = met n w0 t q := y0.qmet h5
      by_cases d : t = i
      · subst d
        rw [decide_eq_true (show t < t + 1 by omega), Bool.true_and]
        have e6' := e6 t q ht hq
        rw [decide_eq_false (show ¬ t < t by omega), Bool.false_and, if_neg (by decide)] at e6'
        have py : pU y w0 t q := e6'.tr pw
        by_cases hqn : q < n
        · have b4' := b4 q (Nat.zero_le _) hqn
          rw [hme] at b4'
          by_cases m : met n w0 t q = true
          · rw [if_pos m] at b4' ⊢
            unfold pD at b4' ⊢
            rw [py.1, py.2.1, py.2.2, y0.qaT ht, y2 201 (by omega) (by omega), u2 201 (by omega), e2] at b4'
            exact b4'
          · rw [if_neg m] at b4' ⊢
            exact py.tr b4'
        · rw [if_neg (fun z => hqn (met_n.mp z).1.2)]
          exact py.tr (b5 t q ht hq (Or.inr (Or.inr (by omega))))
      · rw [decide_eq_decide.mpr (show t < i + 1 ↔ t < i by omega)]
        have := pw.tr (b5 t q ht hq (Or.inl d))
        have e6' := e6 t q ht hq
        by_cases m : (decide (t < i) && met n w0 t q) = true
        · rw [if_pos m] at e6' ⊢; exact e6'.tr this
        · rw [if_neg m] at e6' ⊢; exact e6'.tr this
  · rw [if_neg c]
    have c0 : ¬ ft w0 i 6 = 1 := fun z => c (v6.trans z)
    refine ⟨W0, e1.tr u1, ?_, fun k hk => ?_, fun t ht => ?_, fun s hs => ?_, fun t q ht hq => ?_⟩
    · rw [u2 201 (by omega)]; exact e2
    · rw [u3 k hk, e3 k hk, Int32.add_assoc, nI_add]; rfl
    · rw [show ft v t 12 = ft w t 12 from u2 _ (by omega), e4 t ht]
      by_cases d : t = i
      · rw [d, decide_eq_false c0, Bool.and_false, Bool.and_false]
      · rw [decide_eq_decide.mpr (show t < i + 1 ↔ t < i by omega)]
    · rw [u2 (595 + s) (by omega), e5 s hs]
      have : inS w0 s i = false := by
        unfold inS
        rw [decide_eq_false c0, Bool.false_and]
      show _ = _ + nI (sumN _ i + bN (inS w0 s i))
      rw [this]; rfl
    · have pw : pU v w t q := pU_of ht hq (fun j a b => u2 j (by omega))
      have e6' := e6 t q ht hq
      by_cases d : t = i
      · subst d
        rw [decide_eq_false (show ¬ t < t by omega), Bool.false_and, if_neg (by decide)] at e6'
        rw [if_neg (fun z => c0 (met_n.mp (Bool.and_eq_true_iff.mp z).2).2.2.1)]
        exact e6'.tr pw
      · rw [decide_eq_decide.mpr (show t < i + 1 ↔ t < i by omega)]
        by_cases m : (decide (t < i) && met n w0 t q) = true
        · rw [if_pos m] at e6' ⊢; exact e6'.tr pw
        · rw [if_neg m] at e6' ⊢; exact e6'.tr pw
theorem mE_e (H0 : wf n S w0) : ∀ (f i : Nat) (w : List Int32), i + f = n → wf n S w → eI n i w w0 → wf n S (m_mE n f i w) ∧ eI n n (m_mE n f i w) w0
  | 0, i, w, e, H, E => by
    have : i = n := by omega
    subst this
    exact ⟨H, E⟩
  | f + 1, i, w, e, H, E => by
    obtain ⟨a, b⟩ := mE1_e H0 H E (i := i) (by omega)
    exact mE_e H0 f (i + 1) _ (by omega) a b
/-- d minutes in which none moved -/
def eR (n d : Nat) (w w0 : List Int32) : Prop := eF w w0 ∧ gN w 201 = gN w0 201 + nI d ∧ (∀ k, k < 6 → gN w (204 + k) = gN w0 (204 + k) + nI (d * sumN (fun t => bN (onS w0 k t)) n)) ∧ (∀ t, t < n → ft w t 12 = ft w0 t 12 + nI (d * bN (decide (ft w0 t 6 = 1)))) ∧ (∀ s, s < 7 → gN w (595 + s) = gN w0 (595 + s) + nI (d * sumN (fun t => bN (inS w0 s t)) n)) ∧ ∀ t q, t < 5 → q < 5 → if (decide (0 < d) && met n w0 t q) = true then pD w w0 t q else pU w w0 t q
theorem eR.rf (hl : w.length = 602) : eR n 0 w w := by
  refine ⟨eF.rf hl, (Int32.add_zero _).symm, fun k hk => ?_, fun t ht => ?_, fun s hs => ?_, fun t q ht hq => ?_⟩
  · rw [Nat.zero_mul]; exact (Int32.add_zero _).symm
  · rw [Nat.zero_mul]; exact (Int32.add_zero _).symm
  · rw [Nat.zero_mul]; exact (Int32.add_zero _).symm
  · rw [decide_eq_false (Nat.lt_irrefl 0), Bool.false_and, if_neg (by decide)]; exact pU.rf
/-- the end of a minute -/
def m_end (n : Nat) (w : List Int32) : List Int32 := m_mT (m_mE n n 0 w)
theorem mT_n {j : Nat} (hl : w.length = 602) : gN (m_mT w) j = if j = 201 then gN w 201 + 1 else gN w j := by
  unfold m_mT
  rw [show sA w 201 (gA w 201 + 1) = w.set 201 (gA w 201 + 1) from sA_n (i := 201) (by decide), gN_s (by omega), gA_201]
  by_cases c : j = 201
  · rw [if_pos c, if_pos c.symm]
  · rw [if_neg c, if_neg (fun z => c z.symm)]
theorem sum_congr2 {f g : Nat → Bool} {n : Nat} (h : ∀ t, t < n → f t = g t) : sumN (fun t => bN (f t)) n = sumN (fun t => bN (g t)) n := sumN_congr fun u hu => by rw [h u hu]
theorem eR.step {d : Nat} (H : wf n S w) (E : eR n d w w0) (H0 : wf n S w0) : wf n S (m_end n w) ∧ eR n (d + 1) (m_end n w) w0 := by
  have h5 := H.n5
  have hS := H.S7
  have I0 : eI n 0 w w := by
    refine ⟨eF.rf H.len, rfl, fun k hk => (Int32.add_zero _).symm, fun t ht => ?_, fun s hs => (Int32.add_zero _).symm, fun t q ht hq => ?_⟩
    · rw [decide_eq_false (Nat.not_lt_zero t), Bool.false_and]; exact (Int32.add_zero _).symm
    · rw [decide_eq_false (Nat.not_lt_zero t), Bool.false_and, if_neg (by decide)]; exact pU.rf
  obtain ⟨W, i1, i2, i3, i4, i5, i6⟩ := mE_e H n 0 w (Nat.zero_add n) H I0
  obtain ⟨r1, r2, r3, r4, r5, r6⟩ := E
  have W' := W.mT
  have hl := W.len
  unfold m_end
  generalize m_mE n n 0 w = v at *
  have tv : ∀ j, j ≠ 201 → gN (m_mT v) j = gN v j := fun j hj => by rw [mT_n hl, if_neg hj]
  refine ⟨W', ⟨W'.len, fun j hj => ?_⟩, ?_, fun k hk => ?_, fun t ht => ?_, fun s hs => ?_, fun t q ht hq => ?_⟩
  · rw [tv j (fun z => hj (Or.inl z)), i1.2 j hj, r1.2 j hj]
  · rw [mT_n hl, if_pos rfl, i2, r2, nI_add1]
  · rw [tv _ (by omega), i3 k hk, r3 k hk, Int32.add_assoc, nI_add]
    have : sumN (fun t => bN (onS w k t)) n = sumN (fun t => bN (onS w0 k t)) n := sum_congr2 fun t ht => by
      unfold onS
      rw [r1.p t (by omega) 6 (by decide) (by decide), (r1.sP (show t < 5 by omega)).qsC]
    rw [this]
    congr 2
    rw [Nat.succ_mul]
  · have z : ft (m_mT v) t 12 = ft v t 12 := tv _ (by omega)
    rw [z, i4 t ht, r4 t ht, Int32.add_assoc, nI_add, r1.p t (by omega) 6 (by decide) (by decide), decide_eq_true ht, Bool.true_and, Nat.succ_mul]
  · rw [tv _ (by omega), i5 s hs, r5 s hs, Int32.add_assoc, nI_add]
    have : sumN (fun t => bN (inS w s t)) n = sumN (fun t => bN (inS w0 s t)) n := sum_congr2 fun t ht => by
      unfold inS
      rw [r1.p t (by omega) 6 (by decide) (by decide), r1.qaT (show t < 5 by omega)]
    rw [this, Nat.succ_mul]
  · have pv : pU (m_mT v) v t q := pU_of ht hq (fun j a b => tv j (by omega))
    have i6' := i6 t q ht hq
    have r6' := r6 t q ht hq
    rw [r1.qmet h5] at i6'
    rw [decide_eq_true (Nat.succ_pos d), Bool.true_and]
    by_cases m : met n w0 t q = true
    · have htn := (met_n.mp m).1.1
      have h61 := (met_n.mp m).2.2.1
      have h7 := (H0.T htn).2.2.2.2.1 (by rw [h61]; decide)
      rw [decide_eq_true htn, Bool.true_and, if_pos m] at i6'
      rw [if_pos m]
      refine pD.tr ?_ pv
      by_cases hd : 0 < d
      · rw [decide_eq_true hd, Bool.true_and, if_pos m] at r6'
        unfold pD at i6' r6' ⊢
        rw [r6'.1, r6'.2.1, r6'.2.2, r1.qaT ht] at i6'
        have hb : ∀ x : Int32, x ||| (1 <<< (nI (atT w0 t) &&& 31)) ||| (1 <<< (nI (atT w0 t) &&& 31)) = x ||| (1 <<< (nI (atT w0 t) &&& 31)) := fun x => by rw [Int32.or_assoc, Int32.or_self]
        rw [hb] at i6'
        by_cases c : gN w0 (246 + (5 * t + q)) = -1
        · simp only [if_pos c] at i6' ⊢
          rw [if_neg (nI_nn (by omega)), if_neg (nI_nn (by omega))] at i6'
          exact i6'
        · simp only [if_neg c] at i6' ⊢
          exact i6'
      · have d0 : d = 0 := by omega
        subst d0
        rw [decide_eq_false hd, Bool.false_and, if_neg (by decide)] at r6'
        unfold pD at i6' ⊢
        rw [r6'.1, r6'.2.1, r6'.2.2, r1.qaT ht, r2] at i6'
        rw [show gN w0 201 + nI 0 = gN w0 201 from Int32.add_zero _] at i6'
        exact i6'
    · rw [if_neg m]
      rw [if_neg (fun z => m (Bool.and_eq_true_iff.mp z).2)] at i6' r6'
      exact (r6'.tr i6').tr pv
end EF

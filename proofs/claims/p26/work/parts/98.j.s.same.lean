/-! class and reference read the same: tokens, names, lines -/
def tR (z y : rK) : Prop := y.1 = z.1 ∧ y.2.1 = kM z.2.1 ∧ y.2.2.1 = z.2.2.1 ∧ (z.2.1 = 1 → wR z.2.2.2.1 y.2.2.2.1) ∧ (z.2.1 = 2 → y.2.2.2.2 = z.2.2.2.2) ∧ (z.2.1 = 0 ∨ z.2.1 = 1 ∨ z.2.1 = 2 ∨ z.2.1 = 3 ∨ z.2.1 = 4)
theorem dX_eq {l m : List Int32} {q : Nat} : ∀ n, (∀ i, i < n → cX m (q + i) = cX l (q + i)) → dX m q n = dX l q n
  | 0, _ => rfl
  | n + 1, h => by
    unfold dX
    rw [dX_eq n (fun i hi => h i (by omega)), show m.getD (q + n) 0 = l.getD (q + n) 0 from Int32.toInt_inj.mp (h n (by omega))]
theorem tR.step {l m : List Int32} {e : Nat} {z y : rK} (hb : bR l m e) (hz : z.1 ≤ e) (hy : y.1 = z.1) : tR (aT l e z) (mT m e y) := by
  obtain ⟨p, k0, q0, wo, nu⟩ := z
  obtain ⟨p', k0', q0', wo', nu'⟩ := y
  obtain rfl : p' = p := hy
  have hz : p' ≤ e := hz
  have hQ := tkQ_ge (c := cX l) hz
  have hsame : ∀ k, k < e → (sL (cX l k) = true ∨ sD (cX l k) = true) → cX m k = cX l k := by
    intro k hk hs
    rcases hb k hk with ⟨-, h2⟩ | ⟨h1, -⟩
    · exact h2
    · exfalso
      unfold sL sD at hs
      rw [Bool.and_eq_true, Bool.and_eq_true, decide_eq_true_iff, decide_eq_true_iff, decide_eq_true_iff, decide_eq_true_iff] at hs
      omega
  refine ⟨hb.N hz, congrArg kM (hb.K hz), congrArg nI (hb.Q hz), fun h1 => ?_, fun h2 => ?_, ?_⟩
  · have h1 : tkK (cX l) e p' = 1 := h1
    show wR (tkW l e p' wo) (tkWM m e p' wo')
    unfold tkK at h1
    unfold tkW tkWM
    rw [hb.Q hz]
    generalize tkQ (cX l) e p' = q at hQ h1 ⊢
    split at h1
    · exact absurd h1 (by decide)
    · rename_i hq
      rw [if_neg hq, if_neg hq, hb.cL (by omega), hb.RL hQ.2]
      cases hL : sL (cX l q) with
      | false =>
        rw [hL, cond_false] at h1
        exfalso
        revert h1
        cases sD (cX l q) with
        | true => rw [cond_true]; split <;> decide
        | false => rw [cond_false]; split <;> decide
      | true =>
        rw [hL, cond_true] at h1
        rw [cond_true, cond_true]
        have hge := sR_ge sL (cX l) (e - q) q
        have h8 : sR sL (cX l) (e - q) q - q ≤ 8 := by
          refine Decidable.byContradiction fun z => ?_
          rw [if_neg z] at h1
          exact absurd h1 (by decide)
        have hall : ∀ i, i < sR sL (cX l) (e - q) q - q → sL (cX l (q + i)) = true := fun i hi => sR_all (e - q) q (q + i) (by omega) (by omega)
        obtain ⟨g1, g2⟩ := eX_n (l := l) (q := q) _ h8 hall
        have g3 := eM_n (l := l) (m := m) (q := q) _ h8 (fun i hi => hsame _ (by omega) (Or.inl (hall i hi))) hall
        rw [Nat.min_eq_left h8]
        exact ⟨gX l q, _, h8, g1, g2, g3⟩
  · have h2 : tkK (cX l) e p' = 2 := h2
    show tkDM m e p' nu' = tkD l e p' nu
    unfold tkK at h2
    unfold tkD tkDM
    rw [hb.Q hz]
    generalize tkQ (cX l) e p' = q at hQ h2 ⊢
    split at h2
    · exact absurd h2 (by decide)
    · rename_i hq
      rw [if_neg hq, if_neg hq, hb.cL (by omega), hb.cD (by omega), hb.RD hQ.2]
      cases hL : sL (cX l q) with
      | true =>
        rw [hL, cond_true] at h2
        exfalso
        revert h2
        split <;> decide
      | false =>
        rw [hL, cond_false] at h2
        rw [cond_false, cond_false]
        cases hD : sD (cX l q) with
        | false =>
          rw [hD, cond_false] at h2
          exfalso
          revert h2
          split <;> decide
        | true =>
          rw [hD, cond_true] at h2
          rw [cond_true, cond_true]
          have hge := sR_ge sD (cX l) (e - q) q
          have h3 : sR sD (cX l) (e - q) q - q ≤ 3 := by
            refine Decidable.byContradiction fun z => ?_
            rw [if_neg z] at h2
            exact absurd h2 (by decide)
          rw [Nat.min_eq_left h3]
          exact dX_eq _ fun i hi => hsame _ (by omega) (Or.inr (sR_all (e - q) q (q + i) (by omega) (by omega)))
  · show tkK (cX l) e p' = 0 ∨ tkK (cX l) e p' = 1 ∨ tkK (cX l) e p' = 2 ∨ tkK (cX l) e p' = 3 ∨ tkK (cX l) e p' = 4
    unfold tkK
    split
    · exact Or.inl rfl
    · cases sL (cX l (tkQ (cX l) e p')) with
      | true => rw [cond_true]; split <;> simp
      | false =>
        rw [cond_false]
        cases sD (cX l (tkQ (cX l) e p')) with
        | true => rw [cond_true]; split <;> simp
        | false => rw [cond_false]; split <;> simp
section TR
variable {z y : rK}
theorem tR.k0 (h : tR z y) : (y.2.1 = 0) = (z.2.1 = 0) := by
  obtain ⟨-, h2, -, -, -, h6⟩ := h
  rw [h2]
  rcases h6 with h | h | h | h | h <;> rw [h] <;> decide
theorem tR.k1 (h : tR z y) : (y.2.1 = 2) = (z.2.1 = 1) := by
  obtain ⟨-, h2, -, -, -, h6⟩ := h
  rw [h2]
  rcases h6 with h | h | h | h | h <;> rw [h] <;> decide
theorem tR.k2 (h : tR z y) : (y.2.1 = 3) = (z.2.1 = 2) := by
  obtain ⟨-, h2, -, -, -, h6⟩ := h
  rw [h2]
  rcases h6 with h | h | h | h | h <;> rw [h] <;> decide
theorem tR.k3 (h : tR z y) : (y.2.1 = 4) = (z.2.1 = 3) := by
  obtain ⟨-, h2, -, -, -, h6⟩ := h
  rw [h2]
  rcases h6 with h | h | h | h | h <;> rw [h] <;> decide
theorem tR.k4 (h : tR z y) : (y.2.1 = 1) = (z.2.1 = 4) := by
  obtain ⟨-, h2, -, -, -, h6⟩ := h
  rw [h2]
  rcases h6 with h | h | h | h | h <;> rw [h] <;> decide
theorem tR.f2 (h : tR z y) : bF y.2.1 2 = if z.2.1 = 4 then 1 else 2 := by
  unfold bF
  simp only [h.k4]
theorem tR.word (h : tR z y) {w w' : Int64} (hw : wR w w') : (y.2.1 = 2 ∧ y.2.2.2.1 = w') = (z.2.1 = 1 ∧ z.2.2.2.1 = w) := by
  apply propext
  rw [h.k1]
  constructor
  · rintro ⟨a, b⟩
    exact ⟨a, by rw [(h.2.2.2.1 a).eq hw]; exact b⟩
  · rintro ⟨a, b⟩
    exact ⟨a, by rw [← (h.2.2.2.1 a).eq hw]; exact b⟩
theorem tR.nm (h : tR z y) : nmM y.2.1 y.2.2.2.1 = nmOk z.2.1 z.2.2.2.1 := by
  unfold nmM nmOk
  by_cases c : z.2.1 = 1
  · have hw := h.2.2.2.1 c
    rw [decide_eq_true c, decide_eq_true (h.k1.mpr c)]
    unfold ownM ownW
    simp only [hw.eq wR_0, hw.eq wR_1, hw.eq wR_2, hw.eq wR_3]
  · rw [decide_eq_false c, decide_eq_false (fun q => c (h.k1.mp q))]
    rfl
end TR

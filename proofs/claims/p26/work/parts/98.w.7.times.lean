/-! START, NOW, DUE, ENDED: a train's times -/
def tw (w : List Int32) (t m D g : Nat) : Prop := ∃ s, s ≤ 199 ∧ ft w t 3 = nI s ∧ (ft w t 6 = 1 → s + loN w t (dis w t (atT w t)) ≤ m) ∧ (ft w t 6 = 2 → ∃ d, ft w t 9 = nI d ∧ s + loN w t (dis w t (nxT w t)) ≤ d ∧ m + g ≤ d ∧ d ≤ D) ∧ (ft w t 6 = 3 → ∃ e, ft w t 11 = nI e ∧ s + loN w t (dis w t (tO w t)) ≤ e ∧ e ≤ m)
def kF (w' w : List Int32) (t : Nat) : Prop := (∀ k, k < 7 → fs w' k 0 = fs w k 0) ∧ ∀ k, (k = 1 ∨ k = 2 ∨ k = 3 ∨ k = 4) → ft w' t k = ft w t k
section TW
variable {n S : Nat} {w w' : List Int32} {t m D g : Nat}
theorem kF.qfR (F : kF w' w t) : fR w' t = fR w t := congrArg nV (F.2 1 (by decide))
theorem kF.qtO (F : kF w' w t) : tO w' t = tO w t := congrArg nV (F.2 2 (by decide))
theorem kF.qdis (F : kF w' w t) (a : Nat) : dis w' t a = dis w t a := by unfold dis; rw [F.qfR, F.qtO]
theorem kF.qlo (F : kF w' w t) (hf : fR w t < 7) (ht : tO w t < 7) : ∀ d, d ≤ dis w t (tO w t) → loN w' t d = loN w t d
  | 0, _ => rfl
  | d + 1, hd => by
    unfold loN
    rw [F.qlo hf ht d (by omega), F.qfR, F.qtO]
    unfold dis at hd
    have hk : (if fR w t < tO w t then fR w t + d else fR w t - (d + 1)) < 6 := by
      by_cases c : fR w t < tO w t
      · rw [if_pos c] at hd ⊢; omega
      · rw [if_neg c] at hd ⊢; omega
    generalize (if fR w t < tO w t then fR w t + d else fR w t - (d + 1)) = k at hk
    have : rn w' t k = rn w t k := by
      unfold rn rN
      rw [F.1 (k + 1) (by omega), F.2 4 (by decide)]
    rw [this]
theorem dis_at (h : wTr S w t) (h6 : ft w t 6 = 1 ∨ ft w t 6 = 2) : dis w t (atT w t) ≤ dis w t (tO w t) ∧ dis w t (nxT w t) ≤ dis w t (tO w t) := by
  have hw := h.2.2.2.2.2.1 h6
  unfold onW at hw
  unfold dis nxT
  by_cases c : fR w t < tO w t
  · rw [if_pos c, if_pos c, if_pos c, if_pos c]; omega
  · rw [if_neg c, if_neg c, if_neg c, if_neg c]; omega
theorem tw.same (T : tw w t m D g) (h : wTr S w t) (hS : S ≤ 7) (F : kF w' w t) (h6 : ∀ k, (k = 6 ∨ k = 7 ∨ k = 9 ∨ k = 11) → ft w' t k = ft w t k) : tw w' t m D g := by
  obtain ⟨s, s1, s2, a, b, c⟩ := T
  have ea : atT w' t = atT w t := congrArg nV (h6 7 (by decide))
  have en : nxT w' t = nxT w t := by unfold nxT; rw [F.qfR, F.qtO, ea]
  have q := F.qlo (by have := h.1.2; omega) (by have := h.2.1.2; omega)
  refine ⟨s, s1, by rw [F.2 3 (by decide)]; exact s2, fun e => ?_, fun e => ?_, fun e => ?_⟩
  · rw [h6 6 (by decide)] at e
    rw [ea, F.qdis, q _ (dis_at h (Or.inl e)).1]
    exact a e
  · rw [h6 6 (by decide)] at e
    rw [h6 9 (by decide), en, F.qdis, q _ (dis_at h (Or.inr e)).2]
    exact b e
  · rw [h6 6 (by decide)] at e
    rw [h6 11 (by decide), F.qtO, F.qdis, q _ (Nat.le_refl _)]
    exact c e
/-- it comes in -/
theorem tw.cm (T : tw w t m D g) (h : wTr S w t) (hS : S ≤ 7) (F : kF w' w t) (e6 : ft w' t 6 = 1) (e7 : ft w' t 7 = nI (fR w t)) (hs : ∀ s, s ≤ 199 → ft w t 3 = nI s → s ≤ m) (g' : Nat) : tw w' t m D g' := by
  obtain ⟨s, s1, s2, -, -, -⟩ := T
  have ea : atT w' t = fR w t := by
    unfold atT
    rw [e7, nV_n (by have := h.1.2; omega)]
  refine ⟨s, s1, by rw [F.2 3 (by decide)]; exact s2, fun _ => ?_, fun e => ?_, fun e => ?_⟩
  · rw [ea, F.qdis]
    have : dis w t (fR w t) = 0 := by unfold dis; split <;> omega
    rw [this]
    exact hs s s1 s2
  · rw [e6] at e; exact absurd e (by decide)
  · rw [e6] at e; exact absurd e (by decide)
/-- it goes -/
theorem tw.lv (T : tw w t m D g) (N : wN n S w) (h : wTr S w t) (hS : S ≤ 7) (ht : t < n) (h100 : t < 100) (hm : gN w 201 = nI m) (c1 : ft w t 6 = 1) (F : kF w' w t) (e6 : ft w' t 6 = 2) (e7 : ft w' t 7 = ft w t 7) (e9 : ft w' t 9 = gN w 201 + rN w t (sC w t)) (hD : m + 76 ≤ D) : tw w' t m D 1 := by
  obtain ⟨s, s1, s2, a, -, -⟩ := T
  have ea : atT w' t = atT w t := congrArg nV e7
  have en : nxT w' t = nxT w t := by unfold nxT; rw [F.qfR, F.qtO, ea]
  have q := F.qlo (by have := h.1.2; omega) (by have := h.2.1.2; omega)
  have r := rn_n N ht (h.next hS h100 (Or.inl c1)).2.2.2.2
  have l := lo_next h (Or.inl c1)
  have a := a c1
  refine ⟨s, s1, by rw [F.2 3 (by decide)]; exact s2, fun e => ?_, fun _ => ⟨m + rn w t (sC w t), ?_, ?_, by omega, by omega⟩, fun e => ?_⟩
  · rw [e6] at e; exact absurd e (by decide)
  · rw [e9, hm, r.1, nI_add]
  · rw [en, F.qdis, q _ (dis_at h (Or.inl c1)).2, l]
    omega
  · rw [e6] at e; exact absurd e (by decide)
/-- it arrives -/
theorem tw.ar (T : tw w t m D g) (h : wTr S w t) (hS : S ≤ 7) (hm : gN w 201 = nI m) (hb : m < 2 ^ 30 ∧ D < 2 ^ 30) (c2 : ft w t 6 = 2) (hd : ¬ gN w 201 < ft w t 9) (F : kF w' w t) (e6 : ft w' t 6 = if nxT w t = tO w t then 3 else 1) (e7 : ft w' t 7 = nI (nxT w t)) (e11 : nxT w t = tO w t → ft w' t 11 = gN w 201) (h7 : nxT w t < 7) (g' : Nat) : tw w' t m D g' := by
  obtain ⟨s, s1, s2, -, b, -⟩ := T
  obtain ⟨d, d1, d2, d3, d4⟩ := b c2
  have dm : d ≤ m := by
    rw [hm, d1, nI_ltI (by omega) (by omega)] at hd
    omega
  have ea : atT w' t = nxT w t := by
    unfold atT
    rw [e7, nV_n (by omega)]
  have q := F.qlo (by have := h.1.2; omega) (by have := h.2.1.2; omega)
  refine ⟨s, s1, by rw [F.2 3 (by decide)]; exact s2, fun e => ?_, fun e => ?_, fun e => ?_⟩
  · rw [ea, F.qdis, q _ (dis_at h (Or.inr c2)).2]
    omega
  · exfalso
    rw [e6] at e
    by_cases c : nxT w t = tO w t
    · rw [if_pos c] at e; exact absurd e (by decide)
    · rw [if_neg c] at e; exact absurd e (by decide)
  · by_cases c : nxT w t = tO w t
    · refine ⟨m, by rw [e11 c, hm], ?_, Nat.le_refl _⟩
      rw [F.qtO, F.qdis, q _ (Nat.le_refl _), ← c]
      omega
    · rw [e6, if_neg c] at e; exact absurd e (by decide)
end TW

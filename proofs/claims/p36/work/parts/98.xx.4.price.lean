/-! prices of the line without one train are small -/
section XP
variable {m S t p k D : Nat} {w x : List Int32} {u : Nat}
theorem drP.lo (Q : drP m S t p w x) (hu : u < m) (hf : fR w (sg t u) < 7) (ht : tO w (sg t u) < 7) : ∀ d, d ≤ dis w (sg t u) (tO w (sg t u)) → loN x u d = loN w (sg t u) d
  | 0, _ => rfl
  | d + 1, hd => by
    have f := Q.2.2.2.1 u
    have e1 : fR x u = fR w (sg t u) := congrArg nV (f 1 hu (by decide))
    have e2 : tO x u = tO w (sg t u) := congrArg nV (f 2 hu (by decide))
    unfold loN
    rw [Q.lo hu hf ht d (by omega), e1, e2]
    unfold dis at hd
    have hk : (if fR w (sg t u) < tO w (sg t u) then fR w (sg t u) + d else fR w (sg t u) - (d + 1)) < 6 := by
      by_cases c : fR w (sg t u) < tO w (sg t u)
      · rw [if_pos c] at hd ⊢; omega
      · rw [if_neg c] at hd ⊢; omega
    generalize (if fR w (sg t u) < tO w (sg t u) then fR w (sg t u) + d else fR w (sg t u) - (d + 1)) = k at hk
    have : rn x u k = rn w (sg t u) k := by
      unfold rn rN
      rw [f 4 hu (by decide), show fs x (k + 1) 0 = fs w (k + 1) 0 from Q.2.1 _ (Or.inl (by omega))]
    rw [this]
theorem drP.qtw (Q : drP m S t p w x) (hu : u < m) (h : wTr S w (sg t u)) (hS : S ≤ 7) {g : Nat} (T : tw w (sg t u) k D g) : tw x u k D g := by
  have f := Q.2.2.2.1 u
  have e1 : fR x u = fR w (sg t u) := congrArg nV (f 1 hu (by decide))
  have e2 : tO x u = tO w (sg t u) := congrArg nV (f 2 hu (by decide))
  obtain ⟨s, s1, s2, a, b, c⟩ := T
  have ea : atT x u = atT w (sg t u) := congrArg nV (f 7 hu (by decide))
  have en : nxT x u = nxT w (sg t u) := by unfold nxT; rw [e1, e2, ea]
  have ed : ∀ y, dis x u y = dis w (sg t u) y := fun y => by unfold dis; rw [e1, e2]
  have q := Q.lo hu (by have := h.1.2; omega) (by have := h.2.1.2; omega)
  refine ⟨s, s1, by rw [f 3 hu (by decide)]; exact s2, fun e => ?_, fun e => ?_, fun e => ?_⟩
  · rw [f 6 hu (by decide)] at e
    rw [ea, ed, q _ (dis_at h (Or.inl e)).1]
    exact a e
  · rw [f 6 hu (by decide)] at e
    rw [f 9 hu (by decide), en, ed, q _ (dis_at h (Or.inr e)).2]
    exact b e
  · rw [f 6 hu (by decide)] at e
    rw [f 11 hu (by decide), e2, ed, q _ (Nat.le_refl _)]
    exact c e
theorem drP.qwX (Q : drP m S t p w x) (H : wf (m + 1) S w) (X : wX (m + 1) S w k D) : wX m S x k D :=
  ⟨⟨(Q.2.1 201 (Or.inr (Or.inl ⟨by decide, by decide, by decide⟩))).trans X.1.1, fun u hu => Q.qtw hu (H.T (sg_lt hu)) H.S7 (X.1.2 _ (sg_lt hu))⟩,
   ⟨fun s h1 h2 => by rw [show fs x s 0 = fs w s 0 from Q.2.1 _ (Or.inl (by have := H.S7; omega))]; exact X.2.1.1 s h1 h2, fun u hu => by rw [Q.2.2.2.1 u 4 hu (by decide)]; exact X.2.1.2 _ (sg_lt hu)⟩,
   fun a b ha hb => by
    rw [Q.2.1 (246 + (5 * a + b)) (Or.inr (Or.inl ⟨by omega, by omega, by omega⟩)), Q.2.1 (271 + (5 * a + b)) (Or.inr (Or.inl ⟨by omega, by omega, by omega⟩)), Q.2.1 (570 + (5 * a + b)) (Or.inr (Or.inr (by omega)))]
    exact X.2.2 a b ha hb⟩
end XP
/-- what burden asks of the prices -/
theorem price_burden {n S k D : Nat} {w : List Int32} (X : wX n S w k D) (H : wf n S w) (hw : wW n w) (hb : D < 2 ^ 30) (hm : k ≤ 4000) (hD : k + 376 ≤ D) : ∀ t, t < n → m_price (m_toTheEnd (n - 1) (m_drops w (nI t)) 1) < 2147483647 := fun t ht => by
  obtain ⟨m, rfl⟩ : ∃ m, n = m + 1 := ⟨n - 1, by omega⟩
  obtain ⟨-, p, hp, hp1, Q⟩ := drops_P H ht
  exact (pE_lt (Q.qwX H X) (Q.qwf H ht hp hp1) (fun u hu => by rw [Q.2.2.2.1 u 5 hu (by decide)]; exact hw _ (sg_lt hu)) hb hm hD).1
/-- what the reference's burden wants -/
theorem burden_D {n S : Nat} : ∀ (w : List Int32) (t : Nat), t < n → wf n S w → m_dok w (nI t) ∧ wf (n - 1) S (m_drops w (nI t)) := fun w t ht H => by
  obtain ⟨m, rfl⟩ : ∃ m, n = m + 1 := ⟨n - 1, by omega⟩
  obtain ⟨h, p, hp, hp1, Q⟩ := drops_P H ht
  exact ⟨h, Q.qwf H ht hp hp1⟩

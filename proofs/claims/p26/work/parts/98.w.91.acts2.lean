/-! the acts keep the times -/
section AX
variable {n S : Nat} {w w' : List Int32} {t m D D' g : Nat}
theorem tw.mono (T : tw w t m D g) (h : D ≤ D') : tw w t m D' g := by
  obtain ⟨s, s1, s2, a, b, c⟩ := T
  refine ⟨s, s1, s2, a, fun e => ?_, c⟩
  obtain ⟨d, d1, d2, d3, d4⟩ := b e
  exact ⟨d, d1, d2, d3, by omega⟩
theorem tw.out {s : Nat} (h0 : ft w t 6 = 0) (hs : s ≤ 199) (h3 : ft w t 3 = nI s) : tw w t m D g :=
  ⟨s, hs, h3, fun e => by rw [h0] at e; exact absurd e (by decide), fun e => by rw [h0] at e; exact absurd e (by decide), fun e => by rw [h0] at e; exact absurd e (by decide)⟩
/-- all but the times themselves -/
theorem wX.fr (X : wX n S w m D) (H : wf n S w) (F : aF w' w) (hT : ∀ t, t < n → tw w' t m D' 0) : wX n S w' m D' := by
  have h5 := H.n5
  have hS := H.S7
  refine ⟨⟨by rw [F.2 201 (aX_j (by omega))]; exact X.1.1, hT⟩, ⟨fun s h1 h2 => ?_, fun t ht => ?_⟩, X.2.2.same fun t q ht hq => ⟨F.2 _ (aX_j (by omega)), F.2 _ (aX_j (by omega)), F.2 _ (aX_j (by omega))⟩⟩
  · rw [show fs w' s 0 = fs w s 0 from F.2 _ (aX_s (by omega) (by decide))]; exact X.2.1.1 s h1 h2
  · rw [F.f (by omega) (by decide) (by omega)]; exact X.2.1.2 t ht
theorem tw.keep (T : tw w t m D g) (h : wTr S w t) (hS : S ≤ 7) (F : aF w' w) (ht : t < 5) (h3 : ft w' t 3 = ft w t 3) (h9 : ft w' t 9 = ft w t 9) : tw w' t m D g :=
  T.same h hS ⟨fun k hk => F.2 _ (aX_s hk (by decide)), fun k hk => by
    rcases hk with rfl | rfl | rfl | rfl
    · exact F.f ht (by decide) (by decide)
    · exact F.f ht (by decide) (by decide)
    · exact h3
    · exact F.f ht (by decide) (by decide)⟩ (fun k hk => by
    rcases hk with rfl | rfl | rfl | rfl
    · exact F.f ht (by decide) (by decide)
    · exact F.f ht (by decide) (by decide)
    · exact h9
    · exact F.f ht (by decide) (by decide))
/-- acts that write neither START nor DUE -/
theorem wX.keep (X : wX n S w m D) (H : wf n S w) (F : aF w' w) (h3 : ∀ t, t < n → ft w' t 3 = ft w t 3) (h9 : ∀ t, t < n → ft w' t 9 = ft w t 9) : wX n S w' m D :=
  X.fr H F (fun t ht => (X.1.2 t ht).keep (H.T ht) H.S7 F (by have := H.n5; omega) (h3 t ht) (h9 t ht))
theorem wX.start (X : wX n S w m D) (H : wf n S w) (ht : t < n) (c : ft w t 6 = 0) {x : Int32} {s : Nat} (hs : s ≤ 199) (hx : x = nI s) : wX n S (w.set (56 + 28 * t + 3) x) m D := by
  have h5 := H.n5
  have F : aF (w.set (56 + 28 * t + 3) x) w := aF.set H.len (Or.inl ⟨t, by omega, by omega⟩)
  refine X.fr H F (fun u hu => ?_)
  by_cases e : u = t
  · subst e
    refine tw.out (s := s) ?_ hs ?_
    · rw [F.f (by omega) (by decide) (by decide)]; exact c
    · exact (gN_eq (by have := H.len; omega)).trans hx
  · exact (X.1.2 u hu).keep (H.T hu) H.S7 F (by omega) (gN_ne (by omega)) (gN_ne (by omega))
theorem wX.stall (X : wX n S w m D) (H : wf n S w) (ht : t < n) (c : ft w t 6 = 2) {x : Int32} {k : Nat} (hk : k ≤ 99) (hx : x = nI k) : wX n S (w.set (56 + 28 * t + 9) (ft w t 9 + x)) m (D + 99) := by
  have h5 := H.n5
  have hS := H.S7
  have F : aF (w.set (56 + 28 * t + 9) (ft w t 9 + x)) w := aF.set H.len (Or.inl ⟨t, by omega, by omega⟩)
  refine X.fr H F (fun u hu => ?_)
  by_cases e : u = t
  · subst e
    have hT := H.T hu
    obtain ⟨s, s1, s2, -, b, -⟩ := X.1.2 u hu
    obtain ⟨d, d1, d2, d3, d4⟩ := b c
    have K : kF (w.set (56 + 28 * u + 9) (ft w u 9 + x)) w u := ⟨fun j hj => gN_ne (by omega), fun j hj => gN_ne (by omega)⟩
    have e6 : ft (w.set (56 + 28 * u + 9) (ft w u 9 + x)) u 6 = ft w u 6 := gN_ne (by omega)
    have ea : atT (w.set (56 + 28 * u + 9) (ft w u 9 + x)) u = atT w u := congrArg nV (gN_ne (by omega))
    have en : nxT (w.set (56 + 28 * u + 9) (ft w u 9 + x)) u = nxT w u := by unfold nxT; rw [K.qfR, K.qtO, ea]
    refine ⟨s, s1, (gN_ne (by omega)).trans s2, fun z => ?_, fun z => ⟨d + k, ?_, ?_, by omega, by omega⟩, fun z => ?_⟩
    · rw [e6, c] at z; exact absurd z (by decide)
    · rw [show ft (w.set (56 + 28 * u + 9) (ft w u 9 + x)) u 9 = ft w u 9 + x from gN_eq (by have := H.len; omega), d1, hx, nI_add]
    · rw [en, K.qdis, K.qlo (by have := hT.1.2; omega) (by have := hT.2.1.2; omega) _ (dis_at hT (Or.inr c)).2]
      omega
    · rw [e6, c] at z; exact absurd z (by decide)
  · exact ((X.1.2 u hu).keep (H.T hu) H.S7 F (by omega) (gN_ne (by omega)) (gN_ne (by omega))).mono (by omega)
end AX

/-! what holds of the block is kept by coming in, going, arriving -/
section KP
variable {n S : Nat} {w : List Int32} {t : Nat}
theorem tF_free (n : Nat) (w : List Int32) (t s : Nat) (hn : n < 2 ^ 31) (h : tF n w t s ≠ 9) : tF n w t s < mN w s ∧ fs w s (5 + tF n w t s) = 0 ∧ (∀ u, u < n → cL w u ≠ 3 * s + tF n w t s) ∧ ¬ fs w s (2 + tF n w t s) < ft w t 0 := by
  rcases tF_or n w t s with e | ⟨h1, h2⟩
  · exact absurd e h
  · unfold okT at h2
    obtain ⟨h3, h4⟩ := Bool.and_eq_true_iff.mp h2
    obtain ⟨h5, h6⟩ := Bool.and_eq_true_iff.mp h4
    refine ⟨h1, of_decide_eq_true h3, fun u hu e => ?_, of_decide_eq_true h6⟩
    have := (fnd_n hn).mp (of_decide_eq_true h5) u hu
    unfold atC at this
    rw [e, Nat.beq_eq.mpr rfl] at this
    cases this
theorem eb_nn {b : Nat} (h : b ≠ 9) : eb b = nI b := if_neg h
theorem wf.cm (H : wf n S w) (ht : t < n) (h6 : ft w t 6 = 0) (hb : tF n w t (fR w t) ≠ 9) : wf n S (cmW w (sumN (eV w) n) t (tF n w t (fR w t))) := by
  have h5 := H.n5
  have hS := H.S7
  have hl := H.len
  have hT := H.T ht
  have he := H.ev65 ht (by rw [h6]; decide)
  have hf : fR w t < 7 := by have := hT.1.2; omega
  obtain ⟨b1, b2, b3, b4⟩ := tF_free n w t (fR w t) (by omega) hb
  generalize tF n w t (fR w t) = b at *
  have hm := (H.St hf).2.1
  generalize ee : sumN (eV w) n = e at *
  generalize ew : cmW w e t b = w'
  have rd := fun (k : Nat) (hk : k < 28) => cmW_t (b := b) hl (by omega : t < 5) he hf hk
  rw [ew] at rd
  have r1 : ft w' t 1 = ft w t 1 := by rw [rd 1 (by decide), if_neg (by omega), if_neg (by decide), if_neg (by decide), if_neg (by decide)]
  have r2 : ft w' t 2 = ft w t 2 := by rw [rd 2 (by decide), if_neg (by omega), if_neg (by decide), if_neg (by decide), if_neg (by decide)]
  have r6 : ft w' t 6 = 1 := by rw [rd 6 (by decide), if_neg (by omega), if_pos rfl]
  have r7 : ft w' t 7 = nI (fR w t) := by rw [rd 7 (by decide), if_neg (by omega), if_neg (by decide), if_pos rfl]
  have r8 : ft w' t 8 = nI b := by rw [rd 8 (by decide), if_neg (by omega), if_neg (by decide), if_neg (by decide), if_pos rfl, eb_nn hb]
  have ro : ∀ j, (j < 56 + 28 * t ∨ 84 + 28 * t ≤ j) → (j < 309 ∨ 570 ≤ j) → gN w' j = gN w j := fun j h1 h2 => by rw [← ew, cmW_o hf h1, evW_ne h2 he]
  have f1 : fR w' t = fR w t := congrArg nV r1
  have f2 : tO w' t = tO w t := congrArg nV r2
  have f7 : atT w' t = fR w t := (congrArg nV r7).trans (nV_n (by omega))
  have f8 : kT w' t = b := (congrArg nV r8).trans (nV_n (by omega))
  have fm : ∀ s, s < 7 → mN w' s = mN w s := fun s hs => congrArg nV (ro (8 * s + 1) (by omega) (by omega))
  have fc : cL w' t = 3 * fR w t + b := by unfold cL; rw [if_pos r6, f7, f8]
  refine H.upd ht (by rw [← ew, cmW_len]; exact hl) (fun j h1 h2 => ro j h1 (by omega)) (fun j h1 h2 => ro j (by omega) (by omega)) (fun j h1 h2 => ro j (by omega) (by omega)) ?_ (fun _ u hu _ => by rw [fc]; exact b3 u hu) (fun z => by rw [r6] at z; exact absurd z (by decide)) ?_ (fun k hk => ?_)
  · unfold wTr onW
    rw [f1, f2, f7, f8, r1, r2, r6, r7, r8, fm _ hf]
    refine ⟨hT.1, hT.2.1, hT.2.2.1, Or.inr (Or.inl rfl), fun _ => ⟨rfl, hT.1.2⟩, fun _ => by have := hT.2.2.1; omega, fun z => absurd z (by decide), fun _ => ⟨rfl, b1⟩, fun z => absurd z (by decide)⟩
  · rw [← ew]
    have : gN (cmW w e t b) 309 = gN (evW w e (nI t) 0 (nI (fR w t))) 309 := cmW_o hf (by omega)
    rw [this, evW_9 hl, ew, ee]
    congr 1
    unfold eV
    rw [r6, h6, f7, f1, if_neg (by decide), if_neg (by decide), if_pos rfl]
    omega
  · rw [ro _ (by omega) (by omega), H.E.2 k hk]
    congr 1
    unfold gV
    rw [r6, h6, f7, f1, f2, if_neg (show ¬ (1 : Int32) = 0 by decide), if_neg (show ¬ (1 : Int32) = 2 by decide), if_pos rfl]
    by_cases c : fR w t < tO w t
    · rw [if_pos c, if_neg (by omega)]; omega
    · rw [if_neg c, if_neg (by omega)]; omega
theorem gV_no (hT : wTr S w t) (h6 : ft w t 6 = 1) : gV w (sC w t) t = 0 := by
  have h8 := hT.2.2.2.2.2.1 (Or.inl h6)
  unfold gV sC
  unfold onW at h8
  rw [h6, if_neg (show ¬ (1 : Int32) = 0 by decide), if_neg (show ¬ (1 : Int32) = 2 by decide)]
  by_cases c : fR w t < tO w t
  · rw [if_pos c, if_pos c, if_neg (by omega)]
  · rw [if_neg c, if_neg c, if_neg (by omega)]
theorem wf.lv (H : wf n S w) (ht : t < n) (h6 : ft w t 6 = 1) (hn : fnd (onS w (sC w t)) n 0 = -1) (hb : nxT w t ≠ tO w t → tF n w t (nxT w t) ≠ 9) : wf n S (lvW w (sumN (eV w) n) t (if nxT w t = tO w t then -1 else eb (tF n w t (nxT w t))) (sumN (gV w (sC w t)) n)) := by
  have h5 := H.n5
  have hS := H.S7
  have hl := H.len
  have hT := H.T ht
  have he := H.ev65 ht (by rw [h6]; decide)
  obtain ⟨-, -, x3, x4, x5⟩ := hT.next hS (by omega) (Or.inl h6)
  have h7 := hT.2.2.2.2.1 (by rw [h6]; decide)
  have h8 := hT.2.2.2.2.2.1 (Or.inl h6)
  have ha : atT w t < 7 := by omega
  have hg := H.go5 ht (gV_no hT h6)
  have hfree : nxT w t ≠ tO w t → _ := fun z => tF_free n w t (nxT w t) (by omega) (hb z)
  generalize tF n w t (nxT w t) = b at *
  have hm := (H.St (s := nxT w t) (by omega)).2.1
  generalize ee : sumN (eV w) n = e at *
  generalize eg : sumN (gV w (sC w t)) n = g at *
  generalize ev : (if nxT w t = tO w t then (-1 : Int32) else eb b) = v at *
  generalize ew : lvW w e t v g = w'
  have rd := fun (k : Nat) (hk : k < 28) => lvW_t (b := v) (g := g) hl (by omega : t < 5) he ha hk
  rw [ew] at rd
  have r1 : ft w' t 1 = ft w t 1 := by rw [rd 1 (by decide), if_neg (by omega), if_neg (by decide), if_neg (by decide), if_neg (by decide)]
  have r2 : ft w' t 2 = ft w t 2 := by rw [rd 2 (by decide), if_neg (by omega), if_neg (by decide), if_neg (by decide), if_neg (by decide)]
  have r6 : ft w' t 6 = 2 := by rw [rd 6 (by decide), if_neg (by omega), if_neg (by decide), if_pos rfl]
  have r7 : ft w' t 7 = ft w t 7 := by rw [rd 7 (by decide), if_neg (by omega), if_neg (by decide), if_neg (by decide), if_neg (by decide)]
  have r8 : ft w' t 8 = v := by rw [rd 8 (by decide), if_neg (by omega), if_neg (by decide), if_neg (by decide), if_pos rfl]
  have rx : ∀ j, (j < 56 + 28 * t ∨ 84 + 28 * t ≤ j) → (j < 309 ∨ 570 ≤ j) → gN w' j = if j = 210 + sC w t then nI (g + 1) else if j = 216 + 5 * sC w t + g then nI t else gN w j := fun j h1 h2 => by rw [← ew, lvW_o hl ha x4 hg h1, evW_ne h2 he]
  have ro : ∀ j, (j < 56 + 28 * t ∨ 84 + 28 * t ≤ j) → (j < 210 ∨ 246 ≤ j ∧ j < 309 ∨ 570 ≤ j) → gN w' j = gN w j := fun j h1 h2 => by rw [rx j h1 (by omega), if_neg (by omega), if_neg (by omega)]
  have f1 : fR w' t = fR w t := congrArg nV r1
  have f2 : tO w' t = tO w t := congrArg nV r2
  have f7 : atT w' t = atT w t := congrArg nV r7
  have fX : nxT w' t = nxT w t := by unfold nxT; rw [f1, f2, f7]
  have fS : sC w' t = sC w t := by unfold sC; rw [f1, f2, f7]
  have fm : ∀ s, s < 7 → mN w' s = mN w s := fun s hs => congrArg nV (ro (8 * s + 1) (by omega) (by omega))
  have f8 : nxT w t ≠ tO w t → v = nI b ∧ kT w' t = b := fun z => by
    have e1 : v = nI b := by rw [← ev, if_neg z, eb_nn (hb z)]
    exact ⟨e1, (congrArg nV (r8.trans e1)).trans (nV_n (by have := (hfree z).1; omega))⟩
  refine H.upd ht (by rw [← ew, lvW_len]; exact hl) (fun j h1 h2 => ro j h1 (by omega)) (fun j h1 h2 => ro j (by omega) (by omega)) (fun j h1 h2 => ro j (by omega) (by omega)) ?_ (fun hc u hu _ => ?_) (fun _ u hu hne h2 => ?_) ?_ (fun k hk => ?_)
  · unfold wTr onW
    rw [f1, f2, f7, fX, r1, r2, r6, r7, r8]
    refine ⟨hT.1, hT.2.1, hT.2.2.1, Or.inr (Or.inr (Or.inl rfl)), fun _ => h7, fun _ => h8, fun z => absurd z (by decide), fun z => absurd z (by decide), fun _ => ?_⟩
    by_cases c : nxT w t = tO w t
    · exact Or.inl ⟨c, by rw [← ev, if_pos c]⟩
    · have := f8 c
      exact Or.inr ⟨c, by rw [this.2]; exact this.1, by rw [this.2, fm _ (by omega)]; exact (hfree c).1⟩
  · have fc : cL w' t = if nxT w t = tO w t then 99 else 3 * nxT w t + kT w' t := by unfold cL; rw [if_neg (by rw [r6]; decide), if_pos r6, fX, f2]
    rw [fc] at hc ⊢
    by_cases c : nxT w t = tO w t
    · rw [if_pos c] at hc; omega
    · rw [if_neg c, (f8 c).2]
      exact (hfree c).2.2.1 u hu
  · rw [fS]
    intro z
    have := (fnd_n (by omega)).mp hn u hu
    unfold onS at this
    rw [decide_eq_true h2, Bool.true_and, z, Nat.beq_eq.mpr rfl] at this
    cases this
  · have : gN w' 309 = nI (e + 1) := by rw [← ew, lvW_o hl ha x4 hg (by omega), if_neg (by omega), if_neg (by omega), evW_9 hl]
    rw [this, ee]
    congr 1
    unfold eV
    rw [r6, h6, f7, f1, if_neg (show ¬ (2 : Int32) = 0 by decide), if_pos rfl, if_neg (show ¬ (1 : Int32) = 0 by decide), if_neg (show ¬ (1 : Int32) = 2 by decide)]
    omega
  · have e1 : gV w' k t = gV w k t + if k = sC w t then 1 else 0 := by
      unfold gV sC
      unfold onW at h8
      rw [r6, h6, f7, f1, f2, if_neg (show ¬ (1 : Int32) = 0 by decide), if_neg (show ¬ (1 : Int32) = 2 by decide), if_neg (show ¬ (2 : Int32) = 0 by decide), if_pos rfl]
      by_cases c : fR w t < tO w t
      · rw [if_pos c, if_pos c, if_pos c]
        by_cases c2 : k = atT w t
        · rw [if_pos c2, if_pos (by omega), if_neg (by omega)]
        · rw [if_neg c2]
          by_cases c3 : fR w t ≤ k ∧ k < atT w t + 1
          · rw [if_pos c3, if_pos (by omega)]
          · rw [if_neg c3, if_neg (by omega)]
      · rw [if_neg c, if_neg c, if_neg c]
        by_cases c2 : k = atT w t - 1
        · rw [if_pos c2, if_pos (by omega), if_neg (by omega)]
        · rw [if_neg c2]
          by_cases c3 : k < fR w t ∧ atT w t ≤ k + 1
          · rw [if_pos c3, if_pos (by omega)]
          · rw [if_neg c3, if_neg (by omega)]
    rw [e1, rx _ (by omega) (by omega)]
    by_cases c : k = sC w t
    · rw [if_pos (by omega), if_pos c, c, eg]
      congr 1
      omega
    · rw [if_neg (by omega), if_neg (by omega), if_neg c, H.E.2 k hk]
      congr 1
      omega
theorem wf.ar (H : wf n S w) (ht : t < n) (h6 : ft w t 6 = 2) : wf n S (arW w (sumN (eV w) n) t) := by
  have h5 := H.n5
  have hS := H.S7
  have hl := H.len
  have hT := H.T ht
  have he := H.ev65 ht (by rw [h6]; decide)
  obtain ⟨-, -, x3, x4, x5⟩ := hT.next hS (by omega) (Or.inr h6)
  have h7 := hT.2.2.2.2.1 (by rw [h6]; decide)
  have h8 := hT.2.2.2.2.2.1 (Or.inr h6)
  have h11 := hT.2.2.2.2.2.2.2.2 h6
  have hn : nxT w t < 7 := by omega
  have hcl : cL w t = if nxT w t = tO w t then 99 else 3 * nxT w t + kT w t := by unfold cL; rw [if_neg (by rw [h6]; decide), if_pos h6]
  generalize ee : sumN (eV w) n = e at *
  generalize ew : arW w e t = w'
  have rd := fun (k : Nat) (hk : k < 28) => arW_t hl (by omega : t < 5) he hn hk
  rw [ew] at rd
  have r1 : ft w' t 1 = ft w t 1 := by rw [rd 1 (by decide), if_neg (by omega), if_neg (by decide), if_neg (by omega), if_neg (by decide)]
  have r2 : ft w' t 2 = ft w t 2 := by rw [rd 2 (by decide), if_neg (by omega), if_neg (by decide), if_neg (by omega), if_neg (by decide)]
  have r6 : ft w' t 6 = if nxT w t = tO w t then 3 else 1 := by rw [rd 6 (by decide), if_neg (by omega), if_pos rfl]
  have r7 : ft w' t 7 = nI (nxT w t) := by rw [rd 7 (by decide), if_neg (by omega), if_neg (by decide), if_neg (by omega), if_pos rfl]
  have r8 : ft w' t 8 = ft w t 8 := by rw [rd 8 (by decide), if_neg (by omega), if_neg (by decide), if_neg (by omega), if_neg (by decide)]
  have ro : ∀ j, (j < 56 + 28 * t ∨ 84 + 28 * t ≤ j) → (j < 309 ∨ 570 ≤ j) → gN w' j = gN w j := fun j h1 h2 => by rw [← ew, arW_o hn h1, evW_ne h2 he]
  have f1 : fR w' t = fR w t := congrArg nV r1
  have f2 : tO w' t = tO w t := congrArg nV r2
  have f7 : atT w' t = nxT w t := (congrArg nV r7).trans (nV_n (by omega))
  have f8 : kT w' t = kT w t := congrArg nV r8
  have fm : ∀ s, s < 7 → mN w' s = mN w s := fun s hs => congrArg nV (ro (8 * s + 1) (by omega) (by omega))
  have r62 : ¬ ft w' t 6 = 2 := by rw [r6]; split <;> decide
  have r60 : ¬ ft w' t 6 = 0 := by rw [r6]; split <;> decide
  have fc : cL w' t = cL w t := by
    rw [hcl]
    unfold cL
    rw [if_neg r62, r6, f7, f8]
    by_cases c : nxT w t = tO w t
    · rw [if_pos c, if_pos c, if_neg (by decide)]
    · rw [if_neg c, if_neg c, if_pos rfl]
  have hnx : fR w t < tO w t → nxT w t = atT w t + 1 := fun c => if_pos c
  have hnd : ¬ fR w t < tO w t → nxT w t = atT w t - 1 := fun c => if_neg c
  refine H.upd ht (by rw [← ew, arW_len]; exact hl) (fun j h1 h2 => ro j h1 (by omega)) (fun j h1 h2 => ro j (by omega) (by omega)) (fun j h1 h2 => ro j (by omega) (by omega)) ?_ (fun hc u hu hne => ?_) (fun z => absurd z r62) ?_ (fun k hk => ?_)
  · unfold wTr
    unfold onW at h8 ⊢
    rw [f1, f2, f7, f8, r1, r2, r7, r8]
    refine ⟨hT.1, hT.2.1, hT.2.2.1, ?_, fun _ => ⟨rfl, x3⟩, fun z => ?_, fun z => ?_, fun z => ?_, fun z => absurd z r62⟩
    · rw [r6]
      split
      · exact Or.inr (Or.inr (Or.inr rfl))
      · exact Or.inr (Or.inl rfl)
    · have c : nxT w t ≠ tO w t := fun c => by
        rw [r6, if_pos c] at z
        rcases z with z | z <;> exact absurd z (by decide)
      by_cases d : fR w t < tO w t
      · have := hnx d; omega
      · have := hnd d; omega
    · apply Decidable.byContradiction
      intro c
      rw [r6, if_neg c] at z
      exact absurd z (by decide)
    · have c : nxT w t ≠ tO w t := fun c => by
        rw [r6, if_pos c] at z
        exact absurd z (by decide)
      rw [fm _ hn]
      rcases h11 with ⟨g1, -⟩ | ⟨-, g2, g3⟩
      · exact absurd g1 c
      · exact ⟨g2, g3⟩
  · rw [fc] at hc ⊢
    exact fun z => H.D.1 t u ht hu (fun q => hne q.symm) hc z.symm
  · have : gN w' 309 = nI (e + 1) := by rw [← ew, arW_o hn (by omega), evW_9 hl]
    rw [this, ee]
    congr 1
    unfold eV
    unfold onW at h8
    rw [if_neg r60, if_neg r62, f7, f1, h6, if_neg (show ¬ (2 : Int32) = 0 by decide), if_pos rfl]
    by_cases d : fR w t < tO w t
    · have := hnx d; omega
    · have := hnd d; omega
  · rw [ro _ (by omega) (by omega), H.E.2 k hk]
    congr 1
    unfold gV
    unfold onW at h8
    rw [if_neg r60, if_neg r62, f7, f1, f2, h6, if_neg (show ¬ (2 : Int32) = 0 by decide), if_pos rfl]
    by_cases d : fR w t < tO w t
    · have := hnx d
      rw [if_pos d, if_pos d]
      by_cases c : fR w t ≤ k ∧ k < atT w t + 1
      · rw [if_pos c, if_pos (by omega)]; omega
      · rw [if_neg c, if_neg (by omega)]; omega
    · have := hnd d
      rw [if_neg d, if_neg d]
      by_cases c : k < fR w t ∧ atT w t ≤ k + 1
      · rw [if_pos c, if_pos (by omega)]; omega
      · rw [if_neg c, if_neg (by omega)]; omega
end KP

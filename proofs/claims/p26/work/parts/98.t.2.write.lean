/-! the block written: events, coming in, going, arriving -/
theorem sumN_upd {f f' : Nat → Nat} {t : Nat} : ∀ {n : Nat}, t < n → (∀ u, u < n → u ≠ t → f' u = f u) → sumN f' n + f t = sumN f n + f' t
  | 0, h, _ => absurd h (Nat.not_lt_zero _)
  | n + 1, h, hu => by
    unfold sumN
    by_cases e : t = n
    · have : sumN f' n = sumN f n := by
        have : ∀ m, m ≤ n → sumN f' m = sumN f m := by
          intro m hm
          induction m with
          | zero => rfl
          | succ m ih => unfold sumN; rw [ih (by omega), hu m (by omega) (by omega)]
        exact this n (Nat.le_refl n)
      rw [this, e]
      omega
    · have := sumN_upd (f := f) (f' := f') (n := n) (by omega) (fun u h1 h2 => hu u (by omega) h2)
      rw [hu n (by omega) (by omega)]
      omega
theorem sumN_congr {f f' : Nat → Nat} : ∀ {n : Nat}, (∀ u, u < n → f' u = f u) → sumN f' n = sumN f n
  | 0, _ => rfl
  | n + 1, h => by
    unfold sumN
    rw [sumN_congr (fun u hu => h u (by omega)), h n (by omega)]
theorem sumN_le {f : Nat → Nat} {d : Nat} : ∀ {n : Nat}, (∀ u, u < n → f u ≤ d) → sumN f n ≤ d * n
  | 0, _ => Nat.zero_le _
  | n + 1, h => by
    unfold sumN
    have h1 := sumN_le (n := n) (fun u hu => h u (by omega))
    have h2 := h n (by omega)
    rw [Nat.mul_succ]
    omega
theorem sumN_lt {f : Nat → Nat} {c d t : Nat} : ∀ {n : Nat}, t < n → (∀ u, u < n → f u ≤ d) → f t + c ≤ d → sumN f n + c ≤ d * n
  | 0, h, _, _ => absurd h (Nat.not_lt_zero _)
  | n + 1, h, hu, hc => by
    unfold sumN
    rw [Nat.mul_succ]
    by_cases e : t = n
    · have := sumN_le (f := f) (n := n) (fun u h => hu u (by omega))
      rw [← e] at this ⊢
      omega
    · have := sumN_lt (f := f) (n := n) (by omega) (fun u h => hu u (by omega)) hc
      have := hu n (by omega)
      omega
def evW (w : List Int32) (e : Nat) (a b c : Int32) : List Int32 := ((((w.set (310 + 4 * e) a).set (311 + 4 * e) b).set (312 + 4 * e) (gN w 201)).set (313 + 4 * e) c).set 309 (nI (e + 1))
section EV
variable {w : List Int32} {e : Nat} {a b c : Int32}
theorem evW_len : (evW w e a b c).length = w.length := by unfold evW; simp only [List.length_set]
theorem evW_ne {j : Nat} (h : j < 309 ∨ 570 ≤ j) (he : e < 65) : gN (evW w e a b c) j = gN w j := by
  unfold evW
  rw [gN_ne (by omega), gN_ne (by omega), gN_ne (by omega), gN_ne (by omega), gN_ne (by omega)]
theorem evW_9 (hl : w.length = 602) : gN (evW w e a b c) 309 = nI (e + 1) := by
  unfold evW
  rw [gN_eq (by simp only [List.length_set]; omega)]
theorem evW_f (hl : w.length = 602) {j : Nat} (hj : 309 < j) (he : e < 65) : gN (evW w e a b c) j = if j = 310 + 4 * e then a else if j = 311 + 4 * e then b else if j = 312 + 4 * e then gN w 201 else if j = 313 + 4 * e then c else gN w j := by
  unfold evW
  rw [gN_ne (by omega), gN_s (by simp only [List.length_set]; omega), gN_s (by simp only [List.length_set]; omega), gN_s (by simp only [List.length_set]; omega), gN_s (by omega)]
  by_cases h1 : j = 310 + 4 * e
  · rw [if_neg (by omega), if_neg (by omega), if_neg (by omega), if_pos h1.symm, if_pos h1]
  rw [if_neg h1]
  by_cases h2 : j = 311 + 4 * e
  · rw [if_neg (by omega), if_neg (by omega), if_pos h2.symm, if_pos h2]
  rw [if_neg h2]
  by_cases h3 : j = 312 + 4 * e
  · rw [if_neg (by omega), if_pos h3.symm, if_pos h3]
  rw [if_neg h3]
  by_cases h4 : j = 313 + 4 * e
  · rw [if_pos h4.symm, if_pos h4]
  rw [if_neg h4, if_neg (fun z => h4 z.symm), if_neg (fun z => h3 z.symm), if_neg (fun z => h2 z.symm), if_neg (fun z => h1 z.symm)]
theorem ev_n (h9 : gN w 309 = nI e) (he : e < 65) : m_event w a b c = evW w e a b c := by
  unfold m_event evW
  rw [gA_309, h9]
  have e0 : (310 : Int32) + 4 * nI e = nI (310 + 4 * e) := by
    show nI 310 + nI 4 * nI e = _
    rw [nI_mul, nI_add]
  have e1 : nI (310 + 4 * e) + 1 = nI (311 + 4 * e) := by rw [nI_1]; congr 1; omega
  have e2 : nI (310 + 4 * e) + 2 = nI (312 + 4 * e) := by
    show nI (310 + 4 * e) + nI 2 = _
    rw [nI_add]; congr 1; omega
  have e3 : nI (310 + 4 * e) + 3 = nI (313 + 4 * e) := by
    show nI (310 + 4 * e) + nI 3 = _
    rw [nI_add]; congr 1; omega
  rw [e0, e1, e2, e3]
  dsimp only
  have s9 : ∀ l x, sA l 309 x = l.set 309 x := fun l x => sA_n (i := 309) (by decide)
  simp only [sA_n (show 310 + 4 * e < 2 ^ 31 by omega), sA_n (show 311 + 4 * e < 2 ^ 31 by omega), sA_n (show 312 + 4 * e < 2 ^ 31 by omega), sA_n (show 313 + 4 * e < 2 ^ 31 by omega), s9]
  rw [gA_201, gA_309]
  repeat rw [gN_ne (by omega)]
  rw [h9, nI_1]
end EV
/-! one train read alike -/
def sT (w' w : List Int32) (u : Nat) : Prop := ∀ k, k < 28 → ft w' u k = ft w u k
def sS (w' w : List Int32) : Prop := ∀ s k, s < 7 → k < 8 → fs w' s k = fs w s k
section SAME
variable {w' w : List Int32} {u : Nat}
theorem sT.qfR (h : sT w' w u) : fR w' u = fR w u := congrArg nV (h 1 (by decide))
theorem sT.qtO (h : sT w' w u) : tO w' u = tO w u := congrArg nV (h 2 (by decide))
theorem sT.qaT (h : sT w' w u) : atT w' u = atT w u := congrArg nV (h 7 (by decide))
theorem sT.qkT (h : sT w' w u) : kT w' u = kT w u := congrArg nV (h 8 (by decide))
theorem sT.qnX (h : sT w' w u) : nxT w' u = nxT w u := by unfold nxT; rw [h.qfR, h.qtO, h.qaT]
theorem sT.qsC (h : sT w' w u) : sC w' u = sC w u := by unfold sC; rw [h.qfR, h.qtO, h.qaT]
theorem sT.qcL (h : sT w' w u) : cL w' u = cL w u := by unfold cL; rw [h.qnX, h.qtO, h.qaT, h.qkT, h 6 (by decide)]
theorem sT.qeV (h : sT w' w u) : eV w' u = eV w u := by unfold eV; rw [h.qfR, h.qaT, h 6 (by decide)]
theorem sT.qgV (h : sT w' w u) (k : Nat) : gV w' k u = gV w k u := by unfold gV; rw [h.qfR, h.qtO, h.qaT, h 6 (by decide)]
theorem sT.qonW (h : sT w' w u) : onW w' u ↔ onW w u := by unfold onW; rw [h.qfR, h.qtO, h.qaT]
theorem sS.qmN (h : sS w' w) {s : Nat} (hs : s < 7) : mN w' s = mN w s := congrArg nV (h s 1 hs (by decide))
theorem sS.qwS (h : sS w' w) {s : Nat} (hs : s < 7) (H : wSt w s) : wSt w' s := by
  obtain ⟨h1, h2, h3⟩ := H
  refine ⟨?_, ?_, fun k hk => ?_⟩
  · rw [h.qmN hs, h s 1 hs (by decide)]; exact h1
  · rw [h.qmN hs]; exact h2
  · rw [h s (5 + k) hs (by omega)]; exact h3 k hk
theorem sT.qwT {S : Nat} (h : sT w' w u) (hs : sS w' w) (hS : S ≤ 7) (H : wTr S w u) : wTr S w' u := by
  have hn : ft w u 6 = 2 → nxT w u < 7 := fun e => by
    obtain ⟨⟨h1, h2⟩, ⟨h3, h4⟩, h5, h6, h7, h8, h9, h10, h11⟩ := H
    have h7 := h7 (by rw [e]; decide)
    have h8 := h8 (Or.inr e)
    unfold onW at h8
    unfold nxT
    split <;> omega
  obtain ⟨⟨h1, h2⟩, ⟨h3, h4⟩, h5, h6, h7, h8, h9, h10, h11⟩ := H
  unfold wTr
  rw [h.qfR, h.qtO, h.qaT, h.qkT, h.qnX, h.qonW, h 1 (by decide), h 2 (by decide), h 6 (by decide), h 7 (by decide), h 8 (by decide)]
  refine ⟨⟨h1, h2⟩, ⟨h3, h4⟩, h5, h6, h7, h8, h9, fun e => ?_, fun e => ?_⟩
  · rw [hs.qmN (by have := (h7 (by rw [e]; decide)).2; omega)]; exact h10 e
  · rcases h11 e with g | ⟨g1, g2, g3⟩
    · exact Or.inl g
    · exact Or.inr ⟨g1, g2, by rw [hs.qmN (hn e)]; exact g3⟩
end SAME
theorem sS_of {w' w : List Int32} (h : ∀ j, j < 56 → gN w' j = gN w j) : sS w' w := fun s k hs hk => h (8 * s + k) (by omega)
/-- of a train: never more than so many events -/
theorem wTr.qeV {S : Nat} {w : List Int32} {t : Nat} (h : wTr S w t) (hS : S ≤ 7) : eV w t ≤ 13 ∧ (ft w t 6 ≠ 3 → eV w t ≤ 12) := by
  obtain ⟨⟨h1, h2⟩, ⟨h3, h4⟩, h5, h6, h7, h8, h9, h10, h11⟩ := h
  unfold eV
  unfold onW at h8
  rcases h6 with e | e | e | e
  · rw [if_pos e]; exact ⟨by omega, fun _ => by omega⟩
  · have h7 := h7 (by rw [e]; decide)
    have h8 := h8 (Or.inl e)
    rw [e, if_neg (by decide), if_neg (by decide)]; exact ⟨by omega, fun _ => by omega⟩
  · have h7 := h7 (by rw [e]; decide)
    have h8 := h8 (Or.inr e)
    rw [e, if_neg (by decide), if_pos rfl]; exact ⟨by omega, fun _ => by omega⟩
  · have h7 := h7 (by rw [e]; decide)
    rw [e, if_neg (by decide), if_neg (by decide)]; exact ⟨by omega, fun z => absurd rfl z⟩
theorem gV_le (w : List Int32) (k t : Nat) : gV w k t ≤ 1 := by
  unfold gV
  repeat' split
  all_goals omega
section UPD
variable {n S : Nat} {w w' : List Int32} {t : Nat}
theorem wf.ev65 (H : wf n S w) (ht : t < n) (h : ft w t 6 ≠ 3) : sumN (eV w) n < 65 := by
  have h1 := ((H.T ht).qeV H.S7).2 h
  have := sumN_lt (f := eV w) (c := 1) (d := 13) ht (fun u hu => ((H.T hu).qeV H.S7).1) (by omega)
  have := H.n5
  omega
theorem wf.go5 (H : wf n S w) (ht : t < n) {k : Nat} (h : gV w k t = 0) : sumN (gV w k) n < 5 := by
  have := sumN_lt (f := gV w k) (c := 1) (d := 1) ht (fun u hu => gV_le w k u) (by omega)
  have := H.n5
  omega
/-- one train's things change, and the counts -/
theorem wf.upd (H : wf n S w) (ht : t < n) (hl : w'.length = 602) (ho : ∀ j, (j < 56 + 28 * t ∨ 84 + 28 * t ≤ j) → j < 204 → gN w' j = gN w j) (hk : ∀ j, 246 ≤ j → j < 309 → gN w' j = gN w j) (hp : ∀ j, 570 ≤ j → j < 595 → gN w' j = gN w j)
    (hT : wTr S w' t) (hc : cL w' t < 21 → ∀ u, u < n → u ≠ t → cL w u ≠ cL w' t) (hd : ft w' t 6 = 2 → ∀ u, u < n → u ≠ t → ft w u 6 = 2 → sC w u ≠ sC w' t)
    (hE : gN w' 309 = nI (sumN (eV w) n + eV w' t - eV w t)) (hG : ∀ k, k < 6 → gN w' (210 + k) = nI (sumN (gV w k) n + gV w' k t - gV w k t)) : wf n S w' := by
  have h5 := H.n5
  have hu : ∀ u, u < n → u ≠ t → sT w' w u := fun u h1 h2 k hk => ho (56 + 28 * u + k) (by omega) (by omega)
  have hs : sS w' w := sS_of fun j hj => ho j (by omega) (by omega)
  refine ⟨⟨hl, ?_, h5, ?_, H.S7⟩, fun s h => hs.qwS h (H.St h), fun u h => ?_, ⟨fun a b ha hb hab hc1 => ?_, fun a b ha hb hab h1 h2 => ?_⟩, ⟨fun k h => ?_, fun u h => ?_, fun j k hj hk => ?_⟩, ⟨?_, fun k h => ?_⟩, ?_, fun k h => ?_⟩
  · rw [ho 203 (by omega) (by omega)]; exact H.A.2.1
  · rw [ho 202 (by omega) (by omega)]; exact H.A.2.2.2.1
  · by_cases e : u = t
    · rw [e]; exact hT
    · exact (hu u h e).qwT hs H.S7 (H.T h)
  · by_cases e : a = t
    · subst e
      rw [(hu b hb (fun z => hab z.symm)).qcL]
      exact fun z => hc hc1 b hb (fun z => hab z.symm) z.symm
    · by_cases e2 : b = t
      · subst e2
        rw [(hu a ha e).qcL] at hc1 ⊢
        by_cases e3 : cL w' b < 21
        · exact hc e3 a ha e
        · omega
      · rw [(hu a ha e).qcL] at hc1 ⊢
        rw [(hu b hb e2).qcL]
        exact H.D.1 a b ha hb hab hc1
  · by_cases e : a = t
    · subst e
      have z := hu b hb (fun z => hab z.symm)
      rw [z 6 (by decide)] at h2
      rw [z.qsC]
      exact fun y => hd h1 b hb (fun z => hab z.symm) h2 y.symm
    · have z := hu a ha e
      rw [z 6 (by decide)] at h1
      rw [z.qsC]
      by_cases e2 : b = t
      · subst e2
        exact hd h2 a ha e h1
      · have y := hu b hb e2
        rw [y 6 (by decide)] at h2
        rw [y.qsC]
        exact H.D.2 a b ha hb hab h1 h2
  · rw [ho (196 + k) (by omega) (by omega)]; exact H.R.1 k h
  · obtain ⟨k, g1, g2⟩ := H.R.2.1 u h
    exact ⟨k, g1, by rw [ho (196 + k) (by omega) (by omega)]; exact g2⟩
  · rw [ho (196 + j) (by omega) (by omega), ho (196 + k) (by omega) (by omega)]
    exact H.R.2.2 j k hj hk
  · have := sumN_upd (f := eV w) (f' := eV w') ht (fun u h1 h2 => (hu u h1 h2).qeV)
    rw [hE]
    congr 1
    omega
  · have := sumN_upd (f := gV w k) (f' := gV w' k) ht (fun u h1 h2 => (hu u h1 h2).qgV k)
    rw [hG k h]
    congr 1
    omega
  · obtain ⟨m, g1, g2, g3⟩ := H.L
    refine ⟨m, g1, by rw [hk 296 (by omega) (by omega)]; exact g2, fun k hm => ?_⟩
    obtain ⟨a, s, q, g4, g5, g6, g7, g8, g9, g10⟩ := g3 k hm
    exact ⟨a, s, q, g4, g5, g6, g7, by rw [hk _ (by omega) (by omega)]; exact g8, by rw [hk _ (by omega) (by omega)]; exact g9, by rw [hk _ (by omega) (by omega)]; exact g10⟩
  · rw [hp _ (by omega) (by omega), hk _ (by omega) (by omega)]
    exact H.P k h
end UPD

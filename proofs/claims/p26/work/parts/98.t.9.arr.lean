/-! the state's rows told by the block; a train arrives -/
section YF
variable {n S : Nat} {w w' tra len frm tto wei fit way rid lon : List Int32} {cel : Int32} {t : Nat}
/-- what load alone writes, read alike -/
def sF (n : Nat) (w' w : List Int32) : Prop := (∀ s k, s < 7 → k < 5 → fs w' s k = fs w s k) ∧ ∀ t k, t < n → (k = 0 ∨ k = 1 ∨ k = 2 ∨ k = 4 ∨ k = 5) → ft w' t k = ft w t k
theorem sF.run (h : sF n w' w) (ht : t < n) (h5 : n ≤ 5) {k : Nat} (hk : k < 6) : m_runOf w' (nI t) (nI k) = m_runOf w (nI t) (nI k) := by
  rw [m_runOf_n (by omega) (by omega), m_runOf_n (by omega) (by omega)]
  unfold rN
  rw [h.1 (k + 1) 0 (by omega) (by decide), h.2 t 4 ht (by decide)]
theorem sF.lone_l (h : sF n w' w) (ht : t < n) (h5 : n ≤ 5) : ∀ (f k : Nat) (v : Int32), k + f < 7 → m_loneOf_l18 w' (nI t) f (nI k) v = m_loneOf_l18 w (nI t) f (nI k) v
  | 0, _, _, _ => rfl
  | f + 1, k, v, e => by
    unfold m_loneOf_l18
    rw [h.run ht h5 (by omega), nI_1, h.lone_l ht h5 f (k + 1) _ (by omega)]
theorem wTr.lone (hT : wTr S w t) (hS : S ≤ 7) (ht : t < 100) : m_loneOf w (nI t) = m_loneOf_l18 w (nI t) (max (fR w t) (tO w t) - min (fR w t) (tO w t)) (nI (min (fR w t) (tO w t))) 0 := by
  have h1 := hT.1
  have h2 := hT.2.1
  unfold m_loneOf
  rw [m_of1 ht, m_of2 ht, h1.1, h2.1, iMx_n (by omega) (by omega), iMn_n (by omega) (by omega), lpN_nn (by omega) (by omega)]
theorem sF.lone (h : sF n w' w) (H : wg n S w) (H' : wg n S w') (ht : t < n) : m_loneOf w' (nI t) = m_loneOf w (nI t) := by
  have h5 := H.n5
  have hS := H.S7
  have hT := H.T ht
  rw [(H'.T ht).lone hS (by omega), hT.lone hS (by omega)]
  have e1 : fR w' t = fR w t := congrArg nV (h.2 t 1 ht (by decide))
  have e2 : tO w' t = tO w t := congrArg nV (h.2 t 2 ht (by decide))
  rw [e1, e2]
  exact h.lone_l ht h5 _ _ _ (by have := hT.1.2; have := hT.2.1.2; omega)
theorem qY.frame (Y : qY n S w tra len frm tto wei fit way rid lon cel) (h : sF n w' w) (H : wg n S w) (H' : wg n S w') : qY n S w' tra len frm tto wei fit way rid lon cel := by
  have hS := H.S7
  have h5 := H.n5
  have em : ∀ s, s < 7 → mN w' s = mN w s := fun s hs => congrArg nV (h.1 s 1 hs (by decide))
  have e2 : ∀ t, t < n → tO w' t = tO w t := fun t ht => congrArg nV (h.2 t 2 ht (by decide))
  refine ⟨fun s hs => ⟨?_, fun k hk => ?_⟩, fun t ht => ⟨?_, ?_, ?_⟩, fun c hc => ?_, fun t ht c hc => ?_, fun t s ht hs c hc => ?_, fun t k ht hk => ?_, fun t ht => ?_⟩
  · rw [h.1 s 1 (by omega) (by decide)]; exact Y.ptra hs
  · rw [em s (by omega)] at hk
    have := (H.St (s := s) (by omega)).2.1
    rw [h.1 s (2 + k) (by omega) (by omega)]; exact Y.plen hs hk
  · rw [h.2 t 1 ht (by decide)]; exact Y.pfrm ht
  · rw [h.2 t 2 ht (by decide)]; exact Y.ptto ht
  · rw [h.2 t 5 ht (by decide)]; exact Y.pwei ht
  · rw [Y.pcel hc]
    constructor
    · rintro ⟨g1, g2, g3⟩; exact ⟨g1, g2, by rw [em _ (by omega)]; exact g3⟩
    · rintro ⟨g1, g2, g3⟩; exact ⟨g1, g2, by rw [em _ (by omega)] at g3; exact g3⟩
  · rw [Y.pfit ht hc, h.2 t 0 ht (by decide)]
    constructor
    · rintro ⟨g1, g2, g3, g4⟩; exact ⟨g1, g2, by rw [em _ (by omega)]; exact g3, by rw [h.1 _ _ (by omega) (by omega)]; exact g4⟩
    · rintro ⟨g1, g2, g3, g4⟩; exact ⟨g1, g2, by rw [em _ (by omega)] at g3; exact g3, by rw [h.1 _ _ (by omega) (by omega)] at g4; exact g4⟩
  · rw [Y.pway ht hs hc, e2 t ht]
  · rw [Y.prid ht hk]
    unfold rN
    rw [h.1 (k + 1) 0 (by omega) (by decide), h.2 t 4 ht (by decide)]
  · rw [Y.plon ht, h.lone H H' ht]
theorem rU.frame {shu : Int32} (U : rU w shu) (h : ∀ s k, s < 7 → k < 3 → fs w' s (5 + k) = fs w s (5 + k)) : rU w' shu := fun s k hs hk => by rw [h s k hs hk]; exact U s k hs hk
end YF
def rD (n : Nat) (w du : List Int32) : Prop := du.length = 5 ∧ ∀ t, t < n → ft w t 6 = 2 → gN du t = ft w t 9
def rC (n : Nat) (w cm lf : List Int32) : Prop := (cm.length = 35 ∧ lf.length = 35) ∧ ∀ t s, t < n → s < 7 → gN cm (7 * t + s) = ft w t (13 + s) ∧ gN lf (7 * t + s) = ft w t (20 + s)
/-- ENDED is when it came to TO -/
def wEn (n : Nat) (w : List Int32) : Prop := ∀ t, t < n → ft w t 6 = 3 → ft w t 11 = ft w t (13 + tO w t)
/-- events, riders: where they are kept -/
def rG (w : List Int32) (pk pev : Int32) (pfa prs prr : List Int32) : Prop := pk = 0 ∨ (pfa.length = 260 ∧ prs.length = 6 ∧ prr.length = 30) ∧ (∃ e, e ≤ 65 ∧ gN w 309 = nI e ∧ pev = nI e ∧ ∀ i, i < 4 * e → gN pfa i = gN w (310 + i)) ∧ ∀ k, k < 6 → ∃ g, g ≤ 5 ∧ gN w (210 + k) = nI g ∧ gN prs k = nI g ∧ ∀ j, j < g → gN prr (5 * k + j) = gN w (216 + 5 * k + j)
/-- what a minute leaves as it is, but for its number -/
def rO (n : Nat) (w : List Int32) (mi lks : Int32) (rk sta he lkd : List Int32) : Prop := mi = gN w 201 ∧ (∀ k, k < n → gN rk k = gN w (196 + k)) ∧ (∀ t, t < n → gN sta t = ft w t 3 ∧ gN he t = ft w t 10) ∧ lks = gN w 296 ∧ ∀ i, i < 3 * nV lks → gN lkd i = gN w (297 + i)
def qK (w us : List Int32) : Prop := us.length = 6 ∧ ∀ k, k < 6 → gN us k = gN w (204 + k)
def rQ (n : Nat) (w : List Int32) (pk : Int32) (pms pmm pmt pst pwa : List Int32) : Prop := pk = 0 ∨ (pms.length = 25 ∧ pmm.length = 25 ∧ pmt.length = 25 ∧ pst.length = 7 ∧ pwa.length = 5) ∧ (∀ k, k < 25 → 0 < n → gN pms k = gN w (246 + k) ∧ gN pmm k = gN w (271 + k) ∧ gN pmt k = gN w (570 + k)) ∧ (∀ s, s < 7 → gN pst s = gN w (595 + s)) ∧ ∀ t, t < n → gN pwa t = ft w t 12
section AR
variable {n S : Nat} {w w' ph sp ce ri du cm lf pfa prs prr tra len frm tto wei fit way rid lon : List Int32} {shu bus cel mi pk pev : Int32} {t : Nat}
theorem rG.note (G : rG w pk pev pfa prs prr) {e : Nat} (he : e < 65) (h9 : gN w 309 = nI e) (hl : w.length = 602) {a b c : Int32} (hm : mi = gN w 201) (hw : ∀ j, 309 ≤ j → j < 570 → gN w' j = gN (evW w e a b c) j) (h210 : ∀ j, 210 ≤ j → j < 246 → gN w' j = gN w j) : rG w' pk (x_note pev pk pfa a b mi c).2 (x_note pev pk pfa a b mi c).1 prs prr := by
  rcases G with G | ⟨⟨l1, l2, l3⟩, ⟨e', g1, g2, g3, g4⟩, g5⟩
  · exact Or.inl G
  · have ee : e' = e := (nI_eq (by omega) (by omega)).mp (g2.symm.trans h9)
    subst ee
    unfold x_note
    by_cases c0 : pk = 0
    · exact Or.inl c0
    rw [if_neg c0, g3, if_pos (show nI e' < 65 from (nI_ltI (b := 65) (by omega) (by decide)).mpr he)]
    dsimp only
    have i0 : (4 : Int32) * nI e' = nI (4 * e') := nI_mul 4 e'
    have i1 : nI (4 * e') + 1 = nI (4 * e' + 1) := nI_1 _
    have i2 : nI (4 * e') + 2 = nI (4 * e' + 2) := nI_add _ 2
    have i3 : nI (4 * e') + 3 = nI (4 * e' + 3) := nI_add _ 3
    rw [i0, i1, i2, i3, sA_n (by omega), sA_n (by omega), sA_n (by omega), sA_n (by omega), nI_1]
    refine Or.inr ⟨⟨by simp only [List.length_set]; exact l1, l2, l3⟩, ⟨e' + 1, by omega, ?_, rfl, fun i hi => ?_⟩, fun k hk => ?_⟩
    · rw [hw 309 (by omega) (by omega), evW_9 hl]
    · rw [hw (310 + i) (by omega) (by omega), evW_f hl (by omega) he, gN_s (by simp only [List.length_set]; omega), gN_s (by simp only [List.length_set]; omega), gN_s (by simp only [List.length_set]; omega), gN_s (by omega)]
      by_cases h1 : i = 4 * e'
      · rw [if_neg (by omega), if_neg (by omega), if_neg (by omega), if_pos h1.symm, if_pos (by omega)]
      rw [if_neg (show ¬ 310 + i = 310 + 4 * e' by omega)]
      by_cases h2 : i = 4 * e' + 1
      · rw [if_neg (by omega), if_neg (by omega), if_pos h2.symm, if_pos (by omega)]
      rw [if_neg (show ¬ 310 + i = 311 + 4 * e' by omega)]
      by_cases h3 : i = 4 * e' + 2
      · rw [if_neg (by omega), if_pos h3.symm, if_pos (by omega), hm]
      rw [if_neg (show ¬ 310 + i = 312 + 4 * e' by omega)]
      by_cases h4 : i = 4 * e' + 3
      · rw [if_pos h4.symm, if_pos (by omega)]
      rw [if_neg (show ¬ 310 + i = 313 + 4 * e' by omega), if_neg (by omega), if_neg (by omega), if_neg (by omega), if_neg (by omega)]
      exact g4 i (by omega)
    · obtain ⟨g, q1, q2, q3, q4⟩ := g5 k hk
      exact ⟨g, q1, by rw [h210 _ (by omega) (by omega)]; exact q2, q3, fun j hj => by rw [h210 _ (by omega) (by omega)]; exact q4 j hj⟩
theorem x_arr (H : wf n S w) (P : rP n w ph sp ce) (B : qB n w bus) (I : rI n w ri) (Dd : rD n w du) (C : rC n w cm lf) (N : wEn n w) (G : rG w pk pev pfa prs prr) (hm : mi = gN w 201) (Y : qY n S w tra len frm tto wei fit way rid lon cel) (ht : t < n) (h6 : ft w t 6 = 2) {z : List Int32 × List Int32 × List Int32 × List Int32 × List Int32 × Int32} (hz : x_arrive mi ph sp ri cm pev pk pfa tto (nI t) = z) :
    rP n (m_arrives w (nI t)) z.1 z.2.1 ce ∧ qB n (m_arrives w (nI t)) bus ∧ rI n (m_arrives w (nI t)) z.2.2.1 ∧ rD n (m_arrives w (nI t)) du ∧ rC n (m_arrives w (nI t)) z.2.2.2.1 lf ∧ wEn n (m_arrives w (nI t)) ∧ rG (m_arrives w (nI t)) pk z.2.2.2.2.2 z.2.2.2.2.1 prs prr := by
  have h5 := H.n5
  have hS := H.S7
  have hT := H.T ht
  have he := H.ev65 ht (by rw [h6]; decide)
  obtain ⟨-, -, x3, x4, x5⟩ := hT.next hS (by omega) (Or.inr h6)
  obtain ⟨y1, y2⟩ := x_next H.g P Y ht (Or.inr h6)
  obtain ⟨f1, f2, f3, f4, f5, f6, f7, f8, f9, f10⟩ := H.arF ht h6 (w' := m_arrives w (nI t)) (H.arr ht h6).1
  generalize m_arrives w (nI t) = w' at *
  unfold x_arrive at hz
  dsimp only at hz
  have hsp : gA (sA sp (nI t) (x_nextStation sp tto (nI t))) (nI t) = nI (nxT w t) := by
    rw [sA_n (by omega), gA_n (by omega), gN_eq (by have := P.1; omega), y1]
  rw [hsp, y1, y2, gA_n (l := tto) (by omega), Y.ptto ht, hT.2.1.1] at hz
  have ec : nI t * 7 + nI (nxT w t) = nI (7 * t + nxT w t) := by
    show nI t * nI 7 + _ = _
    rw [nI_mul, nI_add]
    congr 1
    omega
  rw [ec, sA_n (by omega), sA_n (by omega), sA_n (by omega), sA_n (by omega)] at hz
  have e3 : (if nI (nxT w t) = nI (tO w t) then (3 : Int32) else 1) = if nxT w t = tO w t then 3 else 1 := by
    by_cases c : nxT w t = tO w t
    · rw [if_pos c, c, if_pos rfl]
    · rw [if_neg c, if_neg (fun q => c ((nI_eq (by omega) (by have := hT.2.1.2; omega)).mp q))]
  rw [e3, ← f4] at hz
  have hu : ∀ u, u < n → u ≠ t → sT w' w u := fun u h1 h2 k hk => f2 _ (by omega) (by omega)
  have h62 : ¬ ft w' t 6 = 2 := by rw [f4]; split <;> decide
  have hcl : ∀ u, u < n → cL w' u = cL w u := fun u h1 => by
    by_cases c : u = t
    · rw [c]; exact f9
    · exact (hu u h1 c).qcL
  obtain ⟨⟨p1, p2, p3⟩, p4⟩ := P
  subst hz
  dsimp only
  refine ⟨⟨⟨by rw [List.length_set]; exact p1, by rw [List.length_set]; exact p2, p3⟩, fun u h1 => ?_⟩, fun c hc => ?_, ⟨by rw [List.length_set]; exact I.1, fun k hk => ?_⟩, ⟨Dd.1, fun u h1 h2 => ?_⟩, ⟨⟨by rw [List.length_set]; exact C.1.1, C.1.2⟩, fun u s h1 h2 => ?_⟩, fun u h1 h3 => ?_, ?_⟩
  · rw [hcl u h1]
    by_cases c : u = t
    · subst c
      rw [gN_eq (by omega), gN_eq (by omega), f5]
      exact ⟨rfl, fun _ => rfl, (p4 u h1).2.2⟩
    · rw [gN_ne (fun q => c q.symm), gN_ne (fun q => c q.symm), hu u h1 c 6 (by decide), hu u h1 c 7 (by decide)]
      exact p4 u h1
  · rw [B c hc]
    exact ⟨fun ⟨u, g1, g2⟩ => ⟨u, g1, by rw [hcl u g1]; exact g2⟩, fun ⟨u, g1, g2⟩ => ⟨u, g1, by rw [← hcl u g1]; exact g2⟩⟩
  · by_cases c : k = sC w t
    · rw [c, gN_eq (by have := I.1; omega)]
      refine ((fnd_n (by omega)).mpr fun u hun => ?_).symm
      unfold onS
      by_cases d : u = t
      · rw [d, decide_eq_false h62, Bool.false_and]
      · rw [hu u hun d 6 (by decide), (hu u hun d).qsC]
        by_cases e : ft w u 6 = 2
        · rw [decide_eq_true e, Bool.true_and]
          exact Bool.eq_false_iff.mpr (fun q => H.D.2 u t hun ht d e h6 (Nat.beq_eq.mp q))
        · rw [decide_eq_false e, Bool.false_and]
    · rw [gN_ne (fun q => c q.symm), I.2 k hk]
      refine fnd_congr fun u _ hun => ?_
      unfold onS
      by_cases d : u = t
      · rw [d, decide_eq_false h62, Bool.false_and, decide_eq_true h6, Bool.true_and]
        exact Bool.eq_false_iff.mpr (fun q => c (Nat.beq_eq.mp q).symm)
      · rw [hu u (by omega) d 6 (by decide), (hu u (by omega) d).qsC]
  · by_cases c : u = t
    · rw [c] at h2; exact absurd h2 h62
    · rw [hu u h1 c 6 (by decide)] at h2
      rw [hu u h1 c 9 (by decide)]
      exact Dd.2 u h1 h2
  · have c1 := C.2 u s h1 h2
    by_cases c : u = t
    · subst c
      rw [f8 (20 + s) (by omega) (by omega) (by omega) (by omega) (by omega)]
      refine ⟨?_, c1.2⟩
      by_cases d : s = nxT w u
      · rw [d, gN_eq (by have := C.1.1; omega), f6, hm]
      · rw [gN_ne (by omega), f8 (13 + s) (by omega) (by omega) (by omega) (by omega) (by omega)]
        exact c1.1
    · rw [gN_ne (by omega), hu u h1 c _ (by omega), hu u h1 c _ (by omega)]
      exact c1
  · by_cases c : u = t
    · subst c
      have e1 : tO w' u = tO w u := congrArg nV (f8 2 (by decide) (by decide) (by decide) (by decide) (by omega))
      have d : nxT w u = tO w u := by
        apply Decidable.byContradiction
        intro d
        rw [f4, if_neg d] at h3
        exact absurd h3 (by decide)
      rw [e1, ← d, f6, f7 d]
    · rw [hu u h1 c 6 (by decide)] at h3
      rw [(hu u h1 c).qtO, hu u h1 c 11 (by decide), hu u h1 c _ (by have := (H.T h1).2.1.2; omega)]
      exact N u h1 h3
  · exact G.note he H.E.1 H.len hm f3 (fun j h1 h2 => f2 j (by omega) (by omega))
end AR

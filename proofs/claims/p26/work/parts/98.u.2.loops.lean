/-! a minute: arrivals, moves -/
/-- when those that stand at FROM came -/
def tL (n : Nat) (w : List Int32) : Prop := ∀ t, t < n → ft w t 6 = 1 → atT w t = fR w t → (ft w t (13 + fR w t)).toInt ≤ (gN w 201).toInt
def tS (n : Nat) (w : List Int32) : Prop := ∀ t, t < n → ft w t 6 = 1 → atT w t = fR w t → (ft w t (13 + fR w t)).toInt < (gN w 201).toInt
section PM
variable {n S : Nat} {w tra len frm tto wei fit way rid lon rk sta he lkd us pms pmm pmt pst pwa : List Int32} {shu cel mi pk lks care : Int32} {t : Nat}
theorem mA1_n (H : wf n S w) (ht : t < n) : m_mA1 w (nI t) = if ft w t 6 = 2 then (if gN w 201 < ft w t 9 then w else m_arrives w (nI t)) else w := by
  have h5 := H.n5
  unfold m_mA1
  rw [m_of6 (by omega), m_of9 (by omega), gA_201]
theorem mM1_n (H : wf n S w) {k : Nat} (hk : k < n) (e : gN w (196 + k) = nI t) : m_mM1 w n care (nI k) = m_tr n w care t := by
  have h5 := H.n5
  unfold m_mM1 m_tr
  rw [gA_rank (by omega), e]
/-- the trains that are not the mover -/
theorem wf.arr_o (H : wf n S w) (ht : t < n) (h6 : ft w t 6 = 2) {u : Nat} (hu : u < n) (hne : u ≠ t) : sT (m_arrives w (nI t)) w u := by
  have h5 := H.n5
  obtain ⟨f1, f2, f3, f4, f5, f6, f7, f8, f9, f10⟩ := H.arF ht h6 (H.arr ht h6).1
  exact fun k hk => f2 _ (by omega) (by omega)
theorem wf.sets_o (H : wf n S w) (ht : t < n) (hw : m_whyNot w (nI t) = 0) {u : Nat} (hu : u < n) (hne : u ≠ t) : sT (m_sets w (nI t)) w u := by
  have h5 := H.n5
  rcases H.whyNot0 ht hw with ⟨h1, h2, h3⟩ | ⟨h1, h2, h3, h4⟩
  · obtain ⟨f1, f2, f3, f4, f5, f6, f7, f8, f9⟩ := H.cmF ht h1 h2 h3
    exact fun k hk => f2 _ (by omega) (by omega)
  · obtain ⟨f1, f2, f3, f4, f5, f6, f7, f8, f9, f10, f11⟩ := H.lvF ht h1 h3 h4
    exact fun k hk => by
      show gN _ _ = _
      rw [f2 _ (by omega) (by omega), if_neg (by omega), if_neg (by omega)]
      rfl
theorem tS.arr (H : wf n S w) (T : tS n w) (ht : t < n) (h6 : ft w t 6 = 2) : tS n (m_arrives w (nI t)) := by
  have F := H.arr_mF ht h6
  intro u hu
  by_cases c : u = t
  · subst c
    obtain ⟨f1, f2, f3, f4, f5, f6, f7, f8, f9, f10⟩ := H.arF hu h6 (H.arr hu h6).1
    have hS := H.S7
    have e1 : fR (m_arrives w (nI u)) u = fR w u := congrArg nV (F.2.2.2.2 u 1 hu (by omega))
    have e7 : atT (m_arrives w (nI u)) u = nxT w u := (congrArg nV f5).trans (nV_n (by omega))
    have h8 := (H.T hu).2.2.2.2.2.1 (Or.inr h6)
    rw [e1, e7]
    intro _ q
    unfold onW at h8
    unfold nxT at q
    split at q <;> omega
  · have z := H.arr_o ht h6 hu c
    rw [z 6 (by decide), z.qaT, z.qfR, z _ (by have := (H.T hu).1.2; have := H.S7; omega), F.2.1 201 (by omega) (by omega)]
    exact T u hu
theorem tL.sets (H : wf n S w) (T : tL n w) (ht : t < n) (hw : m_whyNot w (nI t) = 0) : tL n (m_sets w (nI t)) := by
  have F := H.sets_mF ht hw
  intro u hu
  by_cases c : u = t
  · subst c
    rcases H.whyNot0 hu hw with ⟨h1, h2, h3⟩ | ⟨h1, h2, h3, h4⟩
    · obtain ⟨f1, f2, f3, f4, f5, f6, f7, f8, f9⟩ := H.cmF hu h1 h2 h3
      have e1 : fR (m_sets w (nI u)) u = fR w u := congrArg nV (F.2.2.2.2 u 1 hu (by omega))
      rw [e1, f6, F.2.1 201 (by omega) (by omega)]
      intro _ _
      omega
    · obtain ⟨f1, f2, f3, f4, f5, f6, f7, f8, f9, f10, f11⟩ := H.lvF hu h1 h3 h4
      rw [f4]
      intro q
      exact absurd q (by decide)
  · have z := H.sets_o ht hw hu c
    rw [z 6 (by decide), z.qaT, z.qfR, z _ (by have := (H.T hu).1.2; have := H.S7; omega), F.2.1 201 (by omega) (by omega)]
    exact T u hu
theorem pm_arr : ∀ (f i : Nat) (v2 : Int32) (w : List Int32) (sea row : List Int32) (rl bus : Int32) (ph sp ce du ri cm lf pfa : List Int32) (pev : Int32) (prs prr : List Int32), i + f = n → wf n S w → qM n w pk bus ph sp ce du ri cm lf pfa pev prs prr → mi = gN w 201 → qY n S w tra len frm tto wei fit way rid lon cel → tS n w →
    ∃ (v2' : Int32) (ph' sp' ri' cm' pfa' : List Int32) (pev' : Int32), x_passMinute_l4 shu lks rk sta he lkd pk (nI n) len frm tto fit way rid care f (nI i) v2 sea row rl bus ph sp ce du ri cm lf pfa pev prs prr mi us pms pmm pmt pst pwa = x_passMinute_l53 shu lks rk sta he lkd pk (nI n) len frm tto fit way rid care n 0 v2' sea row rl bus ph' sp' ce du ri' cm' lf pfa' pev' prs prr mi us pms pmm pmt pst pwa ∧ qM n (m_mA f i w) pk bus ph' sp' ce du ri' cm' lf pfa' pev' prs prr ∧ wf n S (m_mA f i w) ∧ mF n (m_mA f i w) w ∧ tS n (m_mA f i w) ∧
    (v2' = 1 ∨ (v2' = v2 ∧ m_mA f i w = w ∧ (ph', sp', ri', cm', pfa', pev') = (ph, sp, ri, cm, pfa, pev) ∧ ∀ t, i ≤ t → t < n → ft w t 6 = 2 → gN w 201 < ft w t 9))
  | 0, i, v2, w, sea, row, rl, bus, ph, sp, ce, du, ri, cm, lf, pfa, pev, prs, prr, e, H, M, hm, Y, T => by
    have h5 := H.n5
    unfold x_passMinute_l4
    rw [lpN_n0 (by omega)]
    exact ⟨v2, ph, sp, ri, cm, pfa, pev, rfl, M, H, mF.rf, T, Or.inr ⟨rfl, rfl, rfl, fun t h1 h2 => absurd h2 (by omega)⟩⟩
  | f + 1, i, v2, w, sea, row, rl, bus, ph, sp, ce, du, ri, cm, lf, pfa, pev, prs, prr, e, H, M, hm, Y, T => by
    have h5 := H.n5
    have hi : i < n := by omega
    obtain ⟨P, B, I, Dd, C, N, G⟩ := id M
    unfold x_passMinute_l4
    have em : m_mA (f + 1) i w = m_mA f (i + 1) (m_mA1 w (nI i)) := rfl
    have e9 : m_mA1 w (nI i) = if ft w i 6 = 2 then (if mi < ft w i 9 then w else m_arrives w (nI i)) else w := by rw [mA1_n H hi, hm]
    rw [em, e9, gA_n (l := ph) (by omega), P.pph hi, gA_n (l := du) (by omega), nI_1]
    by_cases c6 : ft w i 6 = 2
    · rw [if_pos c6, if_pos c6, Dd.2 i hi c6]
      by_cases c9 : mi < ft w i 9
      · rw [if_pos c9, if_pos c9]
        obtain ⟨v2', ph', sp', ri', cm', pfa', pev', h1, h2, h3, h4, h5', h6⟩ := pm_arr f (i + 1) v2 w sea row rl bus ph sp ce du ri cm lf pfa pev prs prr (by omega) H M hm Y T
        refine ⟨v2', ph', sp', ri', cm', pfa', pev', h1, h2, h3, h4, h5', ?_⟩
        rcases h6 with h6 | ⟨g1, g2, g3, g4⟩
        · exact Or.inl h6
        · refine Or.inr ⟨g1, g2, g3, fun t a b => ?_⟩
          by_cases d : t = i
          · rw [d, ← hm]; exact fun _ => c9
          · exact g4 t (by omega) b
      · rw [if_neg c9, if_neg c9]
        dsimp only
        have A := H.arr hi c6
        have F := H.arr_mF hi c6
        have Z := x_arr H P B I Dd C N G hm Y hi c6 rfl
        obtain ⟨v2', ph', sp', ri', cm', pfa', pev', h1, h2, h3, h4, h5', h6⟩ := pm_arr f (i + 1) 1 (m_arrives w (nI i)) sea row rl bus _ _ ce du _ _ lf _ _ prs prr (by omega) A.2 ⟨Z.1, Z.2.1, Z.2.2.1, Z.2.2.2.1, Z.2.2.2.2.1, Z.2.2.2.2.2.1, Z.2.2.2.2.2.2⟩ (by rw [F.2.1 201 (by omega) (by omega)]; exact hm) (Y.frame F.sF H.g A.2.g) (T.arr H hi c6)
        refine ⟨v2', ph', sp', ri', cm', pfa', pev', h1, h2, h3, F.tr h4, h5', ?_⟩
        rcases h6 with h6 | ⟨g1, -⟩
        · exact Or.inl h6
        · exact Or.inl g1
    · rw [if_neg c6, if_neg c6]
      obtain ⟨v2', ph', sp', ri', cm', pfa', pev', h1, h2, h3, h4, h5', h6⟩ := pm_arr f (i + 1) v2 w sea row rl bus ph sp ce du ri cm lf pfa pev prs prr (by omega) H M hm Y T
      refine ⟨v2', ph', sp', ri', cm', pfa', pev', h1, h2, h3, h4, h5', ?_⟩
      rcases h6 with h6 | ⟨g1, g2, g3, g4⟩
      · exact Or.inl h6
      · refine Or.inr ⟨g1, g2, g3, fun t a b => ?_⟩
        by_cases d : t = i
        · rw [d]; exact fun q => absurd q c6
        · exact g4 t (by omega) b
theorem pm_mov : ∀ (f k : Nat) (v2 : Int32) (w : List Int32) (sea row : List Int32) (rl bus : Int32) (ph sp ce du ri cm lf pfa : List Int32) (pev : Int32) (prs prr : List Int32), k + f = n → wf n S w → qM n w pk bus ph sp ce du ri cm lf pfa pev prs prr → rO n w mi lks rk sta he lkd → rU w shu → qY n S w tra len frm tto wei fit way rid lon cel → tL n w → (∀ j t, k ≤ j → j < n → t < n → gN w (196 + j) = nI t → ft w t 6 = 1 → atT w t = fR w t → ¬ ft w t (13 + fR w t) = gN w 201) → sea.length = 5 → row.length = 5 →
    ∃ (v2' : Int32) (sea' row' : List Int32) (rl' bus' : Int32) (ph' sp' ce' du' ri' cm' lf' pfa' : List Int32) (pev' : Int32) (prs' prr' : List Int32), x_passMinute_l53 shu lks rk sta he lkd pk (nI n) len frm tto fit way rid care f (nI k) v2 sea row rl bus ph sp ce du ri cm lf pfa pev prs prr mi us pms pmm pmt pst pwa = x_passMinute_l53 shu lks rk sta he lkd pk (nI n) len frm tto fit way rid care 0 (nI n) v2' sea' row' rl' bus' ph' sp' ce' du' ri' cm' lf' pfa' pev' prs' prr' mi us pms pmm pmt pst pwa ∧ qM n (m_mM n care f k w) pk bus' ph' sp' ce' du' ri' cm' lf' pfa' pev' prs' prr' ∧ wf n S (m_mM n care f k w) ∧ mF n (m_mM n care f k w) w ∧ tL n (m_mM n care f k w) ∧ sea'.length = 5 ∧ row'.length = 5 ∧
    (v2' = 1 ∨ (v2' = v2 ∧ m_mM n care f k w = w ∧ (bus', ph', sp', ce', du', ri', cm', lf', pfa', pev', prs', prr') = (bus, ph, sp, ce, du, ri, cm, lf, pfa, pev, prs, prr) ∧ ∀ j t, k ≤ j → j < n → t < n → gN w (196 + j) = nI t → ¬ mv n w care t))
  | 0, k, v2, w, sea, row, rl, bus, ph, sp, ce, du, ri, cm, lf, pfa, pev, prs, prr, e, H, M, O, U, Y, T, hc, ls, lr => by
    have ek : k = n := by omega
    subst ek
    exact ⟨v2, sea, row, rl, bus, ph, sp, ce, du, ri, cm, lf, pfa, pev, prs, prr, rfl, M, H, mF.rf, T, ls, lr, Or.inr ⟨rfl, rfl, rfl, fun j t h1 h2 => absurd h2 (by omega)⟩⟩
  | f + 1, k, v2, w, sea, row, rl, bus, ph, sp, ce, du, ri, cm, lf, pfa, pev, prs, prr, e, H, M, O, U, Y, T, hc, ls, lr => by
    have h5 := H.n5
    have hS := H.S7
    have hk : k < n := by omega
    obtain ⟨t, ht, et⟩ := H.R.1 k hk
    have em : m_mM n care (f + 1) k w = m_mM n care f (k + 1) (m_mM1 w n care (nI k)) := rfl
    rw [em, mM1_n H hk et]
    have e1 : gA rk (nI k) = nI t := by rw [gA_n (by omega), O.2.1 k hk]; exact et
    rw [show x_passMinute_l53 shu lks rk sta he lkd pk (nI n) len frm tto fit way rid care (f + 1) (nI k) v2 sea row rl bus ph sp ce du ri cm lf pfa pev prs prr mi us pms pmm pmt pst pwa = (let z2 := (x_tryMove mi shu bus lks sta ph sp ce du he ri cm lf lkd rl row sea pev pk prs prr pfa (nI n) len frm tto fit way rid (gA rk (nI k)) care); (x_passMinute_l53 shu lks rk sta he lkd pk (nI n) len frm tto fit way rid care f (nI k + 1) ((if (z2.1) = 0 then v2 else 1) : Int32) (z2.2.1) (z2.2.2.1) (z2.2.2.2.1) (z2.2.2.2.2.1) (z2.2.2.2.2.2.1) (z2.2.2.2.2.2.2.1) (z2.2.2.2.2.2.2.2.1) (z2.2.2.2.2.2.2.2.2.1) (z2.2.2.2.2.2.2.2.2.2.1) (z2.2.2.2.2.2.2.2.2.2.2.1) (z2.2.2.2.2.2.2.2.2.2.2.2.1) (z2.2.2.2.2.2.2.2.2.2.2.2.2.1) (z2.2.2.2.2.2.2.2.2.2.2.2.2.2.1) (z2.2.2.2.2.2.2.2.2.2.2.2.2.2.2.1) (z2.2.2.2.2.2.2.2.2.2.2.2.2.2.2.2) mi us pms pmm pmt pst pwa)) from rfl]
    dsimp only
    rw [e1, nI_1]
    generalize hz : x_tryMove mi shu bus lks sta ph sp ce du he ri cm lf lkd rl row sea pev pk prs prr pfa (nI n) len frm tto fit way rid (nI t) care = z
    obtain ⟨q1, q2, q3, q4⟩ := x_try H M O U Y ls lr ht (hc k t (Nat.le_refl k) hk ht et) hz
    have W : wf n S (m_tr n w care t) := by
      unfold m_tr
      split
      · split
        · exact H
        · exact H.tries ht care
      · exact H
    have F : mF n (m_tr n w care t) w := by
      by_cases d : mv n w care t
      · rw [m_tr_mv d]; exact H.sets_mF ht d.2.2.1
      · rw [m_tr_no d]; exact mF.rf
    have TL : tL n (m_tr n w care t) := by
      by_cases d : mv n w care t
      · rw [m_tr_mv d]; exact T.sets H ht d.2.2.1
      · rw [m_tr_no d]; exact T
    have hc' : ∀ j u, k + 1 ≤ j → j < n → u < n → gN (m_tr n w care t) (196 + j) = nI u → ft (m_tr n w care t) u 6 = 1 → atT (m_tr n w care t) u = fR (m_tr n w care t) u → ¬ ft (m_tr n w care t) u (13 + fR (m_tr n w care t) u) = gN (m_tr n w care t) 201 := by
      intro j u h1 h2 h3 h4
      rw [F.2.1 (196 + j) (by omega) (by omega)] at h4
      have hne : u ≠ t := fun q => by
        rw [q, ← et] at h4
        have := H.R.2.2 j k h2 hk h4
        omega
      have zT : sT (m_tr n w care t) w u := by
        by_cases d : mv n w care t
        · rw [m_tr_mv d]; exact H.sets_o ht d.2.2.1 h3 hne
        · rw [m_tr_no d]; exact fun _ _ => rfl
      rw [zT 6 (by decide), zT.qaT, zT.qfR, zT _ (by have := (H.T h3).1.2; omega), F.2.1 201 (by omega) (by omega)]
      exact hc j u (by omega) h2 h3 h4
    obtain ⟨v2', sea', row', rl', bus', ph', sp', ce', du', ri', cm', lf', pfa', pev', prs', prr', h1, h2, h3, h4, h5', h6, h7, h8⟩ := pm_mov f (k + 1) (if z.1 = 0 then v2 else 1) (m_tr n w care t) z.2.1 z.2.2.1 z.2.2.2.1 _ _ _ _ _ _ _ _ _ _ _ _ (by omega) W q3 (O.mF F H.lk4 h5) (rU.frame U (fun s k a b => F.1 _ (by omega))) (Y.frame F.sF H.g W.g) TL hc' q1 q2
    refine ⟨v2', sea', row', rl', bus', ph', sp', ce', du', ri', cm', lf', pfa', pev', prs', prr', h1, h2, h3, F.tr h4, h5', h6, h7, ?_⟩
    rcases h8 with h8 | ⟨g1, g2, g3, g4⟩
    · exact Or.inl h8
    · rcases q4 with ⟨r1, r2, r3⟩ | ⟨r1, r2⟩
      · rw [if_pos r1] at g1
        rw [m_tr_no r2] at g2 g4 ⊢
        refine Or.inr ⟨g1, g2, ?_, fun j u a b c d => ?_⟩
        · rw [g3, ← r3]
        · by_cases y : j = k
          · rw [y, et] at d
            have : u = t := (nI_eq (by omega) (by omega)).mp d.symm
            rw [this]; exact r2
          · exact g4 j u (by omega) b c d
      · rw [r1, if_neg (by decide)] at g1
        exact Or.inl g1
end PM

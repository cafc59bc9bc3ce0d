/-! a whole minute; minutes in which none moves -/
theorem eF.symm {w' w : List Int32} (h : eF w' w) (hl : w.length = 602) : eF w w' := ⟨hl, fun j hj => (h.2 j hj).symm⟩
theorem eF.j {w' w : List Int32} (h : eF w' w) {j : Nat} (hj : j < 56 ∨ 196 ≤ j ∧ j < 201 ∨ j = 202 ∨ j = 203 ∨ 210 ≤ j ∧ j < 246 ∨ 296 ≤ j ∧ j < 570) : gN w' j = gN w j := h.2 j (by rintro (z | z | z | z | ⟨a, z1, z2⟩) <;> omega)
section TRF
variable {n S : Nat} {w w' ph sp ce ri du cm lf pfa prs prr tra len frm tto wei fit way rid lon rk sta he lkd : List Int32} {shu bus cel mi pk pev lks : Int32}
theorem eF.sF (h : eF w' w) (hn : n ≤ 5) : sF n w' w := ⟨fun s k hs hk => h.j (by omega), fun t k ht hk => h.p t (by omega) k (by omega) (by omega)⟩
theorem wf.eF (H : wf n S w) (h : eF w' w) (hP : wPs n w') : wf n S w' := by
  have h5 := H.n5
  have hu : ∀ u, u < n → sP w' w u := fun u hu => h.sP (by omega)
  have G : wg n S w' := H.g.frame h.1 (fun j hj => by
    rcases hj with z | ⟨t, k, z1, z2, z3⟩ | z
    · exact h.j (by omega)
    · rw [z3]; exact h.p t z1 k (by omega) (by omega)
    · exact h.j (by omega))
  refine ⟨G.A, fun s hs => G.St hs, fun u hu => G.T hu, ⟨fun a b ha hb hab hc => ?_, fun a b ha hb hab h1 h2 => ?_⟩, ⟨fun k hk => ?_, fun u hun => ?_, fun j k hj hk => ?_⟩, ⟨?_, fun k hk => ?_⟩, ?_, hP⟩
  · rw [(hu a ha).qcL] at hc ⊢
    rw [(hu b hb).qcL]
    exact H.D.1 a b ha hb hab hc
  · rw [hu a ha 6 (by decide)] at h1
    rw [hu b hb 6 (by decide)] at h2
    rw [(hu a ha).qsC, (hu b hb).qsC]
    exact H.D.2 a b ha hb hab h1 h2
  · rw [h.j (by omega)]; exact H.R.1 k hk
  · obtain ⟨k, y1, y2⟩ := H.R.2.1 u hun
    exact ⟨k, y1, by rw [h.j (by omega)]; exact y2⟩
  · rw [h.j (by omega), h.j (by omega)]
    exact H.R.2.2 j k hj hk
  · rw [h.j (by omega), H.E.1, sumN_congr (f' := eV w') (fun u hun => (hu u hun).qeV)]
  · rw [h.j (by omega), H.E.2 k hk, sumN_congr (f' := gV w' k) (fun u hun => (hu u hun).qgV k)]
  · obtain ⟨m, y1, y2, y3⟩ := H.L
    refine ⟨m, y1, by rw [h.j (by omega)]; exact y2, fun k hm => ?_⟩
    obtain ⟨a, s, q, y4, y5, y6, y7, y8, y9, y10⟩ := y3 k hm
    exact ⟨a, s, q, y4, y5, y6, y7, by rw [h.j (by omega)]; exact y8, by rw [h.j (by omega)]; exact y9, by rw [h.j (by omega)]; exact y10⟩
theorem qM.eF (M : qM n w pk bus ph sp ce du ri cm lf pfa pev prs prr) (h : eF w' w) (hn : n ≤ 5) (hT : ∀ t, t < n → tO w t < 7) : qM n w' pk bus ph sp ce du ri cm lf pfa pev prs prr := by
  obtain ⟨P, B, I, Dd, C, N, G⟩ := M
  refine ⟨⟨P.1, fun t ht => ?_⟩, fun c hc => ?_, ⟨I.1, fun k hk => ?_⟩, ⟨Dd.1, fun t ht => ?_⟩, ⟨C.1, fun t s ht hs => ?_⟩, fun t ht => ?_, ?_⟩
  · rw [h.p t (by omega) 6 (by decide) (by decide), h.p t (by omega) 7 (by decide) (by decide), (h.sP (show t < 5 by omega)).qcL]
    exact P.2 t ht
  · rw [B c hc]
    exact ⟨fun ⟨u, g1, g2⟩ => ⟨u, g1, by rw [(h.sP (show u < 5 by omega)).qcL]; exact g2⟩, fun ⟨u, g1, g2⟩ => ⟨u, g1, by rw [(h.sP (show u < 5 by omega)).qcL] at g2; exact g2⟩⟩
  · rw [I.2 k hk]
    refine fnd_congr fun u _ hun => ?_
    unfold onS
    rw [h.p u (by omega) 6 (by decide) (by decide), (h.sP (show u < 5 by omega)).qsC]
  · rw [h.p t (by omega) 6 (by decide) (by decide), h.p t (by omega) 9 (by decide) (by decide)]
    exact Dd.2 t ht
  · rw [h.p t (by omega) (13 + s) (by omega) (by omega), h.p t (by omega) (20 + s) (by omega) (by omega)]
    exact C.2 t s ht hs
  · have := hT t ht
    rw [h.p t (by omega) 6 (by decide) (by decide), h.p t (by omega) 11 (by decide) (by decide), (h.sP (show t < 5 by omega)).qtO, h.p t (by omega) (13 + tO w t) (by omega) (by omega)]
    exact N t ht
  · rcases G with G | ⟨g1, ⟨e, g2, g3, g4, g5⟩, g6⟩
    · exact Or.inl G
    · refine Or.inr ⟨g1, ⟨e, g2, by rw [h.j (by omega)]; exact g3, g4, fun i hi => by rw [h.j (by omega)]; exact g5 i hi⟩, fun k hk => ?_⟩
      obtain ⟨g, q1, q2, q3, q4⟩ := g6 k hk
      exact ⟨g, q1, by rw [h.j (by omega)]; exact q2, q3, fun j hj => by rw [h.j (by omega)]; exact q4 j hj⟩
theorem rO.eF (O : rO n w mi lks rk sta he lkd) (h : eF w' w) (hn : n ≤ 5) (hm : nV (gN w 296) ≤ 4) : rO n w' (gN w' 201) lks rk sta he lkd := by
  obtain ⟨o1, o2, o3, o4, o5⟩ := O
  refine ⟨rfl, fun k hk => by rw [h.j (by omega)]; exact o2 k hk, fun t ht => ?_, by rw [h.j (by omega)]; exact o4, fun i hi => ?_⟩
  · rw [h.p t (by omega) 3 (by decide) (by decide), h.p t (by omega) 10 (by decide) (by decide)]; exact o3 t ht
  · rw [← o4] at hm
    rw [h.j (by omega)]; exact o5 i hi
theorem rU.eF (U : rU w shu) (h : eF w' w) : rU w' shu := rU.frame U (fun s k a b => h.j (by omega))
end TRF
/-- none moves in this minute -/
def quiet (n : Nat) (care : Int32) (w : List Int32) : Prop := (∀ t, t < n → ft w t 6 = 2 → gN w 201 < ft w t 9) ∧ ∀ t, t < n → ¬ mv n w care t
section QU
variable {n S : Nat} {w w' ph sp ce ri du cm lf pfa prs prr tra len frm tto wei fit way rid lon rk sta he lkd : List Int32} {shu bus cel mi pk pev lks care : Int32}
theorem quiet_A (H : wf n S w) (h : ∀ t, t < n → ft w t 6 = 2 → gN w 201 < ft w t 9) : ∀ f i, i + f = n → m_mA f i w = w
  | 0, _, _ => rfl
  | f + 1, i, e => by
    show m_mA f (i + 1) (m_mA1 w (nI i)) = w
    rw [mA1_n H (by omega)]
    by_cases c : ft w i 6 = 2
    · rw [if_pos c, if_pos (h i (by omega) c)]; exact quiet_A H h f (i + 1) (by omega)
    · rw [if_neg c]; exact quiet_A H h f (i + 1) (by omega)
theorem quiet_M (H : wf n S w) (h : ∀ t, t < n → ¬ mv n w care t) : ∀ f k, k + f = n → m_mM n care f k w = w
  | 0, _, _ => rfl
  | f + 1, k, e => by
    show m_mM n care f (k + 1) (m_mM1 w n care (nI k)) = w
    obtain ⟨t, ht, et⟩ := H.R.1 k (by omega)
    rw [mM1_n H (by omega) et, m_tr_no (h t ht)]
    exact quiet_M H h f (k + 1) (by omega)
theorem quiet_min (H : wf n S w) (q : quiet n care w) : m_minute n w care = m_end n w := by
  unfold m_minute m_end
  rw [quiet_A H q.1 n 0 (Nat.zero_add n), quiet_M H q.2 n 0 (Nat.zero_add n)]
/-- it stays so while nothing is due -/
theorem quiet_on (H : wf n S w) (H' : wf n S w') (M : qM n w pk bus ph sp ce du ri cm lf pfa pev prs prr) (O : rO n w mi lks rk sta he lkd) (U : rU w shu) (Y : qY n S w tra len frm tto wei fit way rid lon cel) (T : tS n w) (h : eF w' w) (q : quiet n care w) (q1 : ∀ t, t < n → ft w t 6 = 2 → gN w' 201 < ft w t 9) (q2 : ∀ t, t < n → ¬ gN w' 201 < ft w t 10 → ¬ gN w 201 < ft w t 10) (q3 : ∀ t, t < n → ft w t 6 = 0 → ¬ gN w' 201 < ft w t 3 → ¬ gN w 201 < ft w t 3) : quiet n care w' := by
  have h5 := H.n5
  have hS := H.S7
  have M' := M.eF h h5 (fun t ht => by have := (H.T ht).2.1.2; omega)
  have O' := O.eF h h5 H.lk4
  have U' := U.eF h
  have Y' := Y.frame (h.sF h5) H.g H'.g
  refine ⟨fun t ht c => ?_, fun t ht m => ?_⟩
  · rw [h.p t (by omega) 6 (by decide) (by decide)] at c
    rw [h.p t (by omega) 9 (by decide) (by decide)]
    exact q1 t ht c
  · obtain ⟨m1, m2, m3, m4⟩ := m
    have p6 := h.p t (by omega) 6 (by decide) (by decide)
    have p3 := h.p t (by omega) 3 (by decide) (by decide)
    have p10 := h.p t (by omega) 10 (by decide) (by decide)
    have hsp := h.sP (show t < 5 by omega)
    have ecl : ∀ u, u < n → cL w' u = cL w u := fun u hu => (h.sP (show u < 5 by omega)).qcL
    have etF : ∀ s, s < 7 → tF n w' t s = tF n w t s := fun s hs => tF_congr ecl (h.p t (by omega) 0 (by decide) (by decide)) (fun k hk => h.j (by omega)) (H.St hs).2.1
    have eon : ∀ k, fnd (onS w' k) n 0 = fnd (onS w k) n 0 := fun k => fnd_congr fun u _ hu => by
      unfold onS
      rw [h.p u (by omega) 6 (by decide) (by decide), (h.sP (show u < 5 by omega)).qsC]
    have hfr := (H.T ht).1.2
    have ewhy : m_whyNot w' (nI t) = m_whyNot w (nI t) := by
      rw [H'.g.whyNot ht, H.g.whyNot ht, p6, hsp.qfR, hsp.qnX, hsp.qtO, hsp.qsC, eon, etF _ (by omega)]
      by_cases c1 : ft w t 6 = 1
      · have hn := ((H.T ht).next hS (by omega) (Or.inl c1)).2.2.1
        rw [etF _ (by omega)]
      · rcases (H.T ht).2.2.2.1 with e | e | e | e
        · rw [e]; simp only [show ¬ (0 : Int32) = 3 by decide, show ¬ (0 : Int32) = 2 by decide, if_false, if_true]
        · exact absurd e c1
        · rw [e]; simp only [show ¬ (2 : Int32) = 3 by decide, if_false, if_true]
        · rw [e]; simp only [if_true]
    have ekept : m_isKept w' (nI t) = m_isKept w (nI t) := by
      rw [← x_kept H M.1 M.2.2.2.2.1 O (nI t), ← x_kept H' M'.1 M'.2.2.2.2.1 O' (nI t)]
    have hw : m_whyNot w (nI t) = 0 := ewhy.symm.trans m3
    have h60 : ¬ ft w t 6 = 2 ∧ ¬ ft w t 6 = 3 := by
      rcases H.whyNot0 ht hw with ⟨a, -⟩ | ⟨a, -⟩ <;> rw [a] <;> decide
    refine q.2 t ht ⟨?_, ?_, hw, ?_⟩
    · unfold m_isHeld at m1 ⊢
      rw [m_of10 (by omega), gA_201] at m1 ⊢
      rw [p10] at m1
      by_cases c : gN w' 201 < ft w t 10
      · rw [if_pos c] at m1; exact absurd m1 (by decide)
      · rw [if_neg (q2 t ht c)]
    · unfold m_may at m2 ⊢
      rw [m_of6 (by omega), m_of3 (by omega), m_of7 (by omega), m_of1 (by omega), gA_201, ekept, p6, p3] at m2
      rw [m_of6 (by omega), m_of3 (by omega), m_of7 (by omega), m_of1 (by omega), gA_201]
      by_cases c0 : ft w t 6 = 0
      · rw [if_pos c0] at m2 ⊢
        by_cases c : gN w' 201 < ft w t 3
        · rw [if_pos c] at m2; exact absurd rfl m2
        · rw [if_neg (q3 t ht c0 c)]; decide
      · rw [if_neg c0] at m2 ⊢
        by_cases c1 : ft w t 6 = 1
        · rw [if_pos c1] at m2 ⊢
          by_cases c : m_isKept w (nI t) = 0
          · rw [if_pos c]
            by_cases c2 : ft w t 7 = ft w t 1
            · have hfr1 := (H.T ht).1.1
              rw [if_pos c2, hfr1, m_of13 (by omega) (by omega)]
              have := T t ht c1 (congrArg nV c2)
              rw [if_neg (fun z => by rw [z] at this; omega)]
              decide
            · rw [if_neg c2]; decide
          · rw [if_neg c] at m2; exact absurd rfl m2
        · rw [if_neg c1] at m2; exact absurd rfl m2
    · rcases m4 with m4 | m4
      · exact Or.inl m4
      · refine Or.inr ?_
        obtain ⟨z1, a1, b1, k1, e1, -, -, f1⟩ := x_lsm (rl := 0) (sea := ph) (row := ph) H M.1 U Y ht hw M.1.1.1 M.1.1.1
        obtain ⟨z2, a2, b2, k2, e2, -, -, f2⟩ := x_lsm (rl := 0) (sea := ph) (row := ph) H' M'.1 U' Y' ht m3 M.1.1.1 M.1.1.1
        have etG : tG n w' t = tG n w t := by
          unfold tG
          rw [p6, hsp.qfR, hsp.qnX, hsp.qtO, hsp.qsC, eon, etF _ (by omega)]
          by_cases c0 : ft w t 6 = 0
          · rw [if_pos c0, if_pos c0]
          · have c1 : ft w t 6 = 1 := by
              rcases (H.T ht).2.2.2.1 with e | e | e | e
              · exact absurd e c0
              · exact e
              · exact absurd e h60.1
              · exact absurd e h60.2
            have hn := ((H.T ht).next hS (by omega) (Or.inl c1)).2.2.1
            rw [etF _ (by omega)]
        rw [etG, e1] at e2
        have : z1 = z2 := congrArg (fun z => z.1) e2
        rw [← this] at f2
        exact f1.mp (f2.mpr m4)
end QU
/-- the class's state told by the block -/
def rV (n S : Nat) (w : List Int32) (shu lks : Int32) (rk sta he lkd : List Int32) (pk : Int32) (sea row : List Int32) (bus : Int32) (ph sp ce du ri cm lf pfa : List Int32) (pev : Int32) (prs prr : List Int32) (mi : Int32) (us pms pmm pmt pst pwa : List Int32) : Prop := wf n S w ∧ qM n w pk bus ph sp ce du ri cm lf pfa pev prs prr ∧ rO n w mi lks rk sta he lkd ∧ rU w shu ∧ qK w us ∧ rQ n w pk pms pmm pmt pst pwa ∧ tS n w ∧ sea.length = 5 ∧ row.length = 5
section PMIN
variable {n S : Nat} {w ph sp ce ri du cm lf pfa prs prr tra len frm tto wei fit way rid lon rk sta he lkd sea row us pms pmm pmt pst pwa : List Int32} {shu bus cel mi pk pev lks rl care : Int32}
theorem tS_end (H : wf n S w) (T : tL n w) {m : Nat} (hm : gN w 201 = nI m) (h30 : m < 2 ^ 30) {w' : List Int32} (h : eF w' w) (hm' : gN w' 201 = nI (m + 1)) : tS n w' := by
  have h5 := H.n5
  have hS := H.S7
  intro t ht
  have hf := (H.T ht).1.2
  rw [h.p t (by omega) 6 (by decide) (by decide), h.qaT (by omega), (h.sP (show t < 5 by omega)).qfR, h.p t (by omega) (13 + fR w t) (by omega) (by omega), hm', nI_toInt (by omega)]
  intro a b
  have := T t ht a b
  rw [hm, nI_toInt (by omega)] at this
  omega
theorem x_pm (V : rV n S w shu lks rk sta he lkd pk sea row bus ph sp ce du ri cm lf pfa pev prs prr mi us pms pmm pmt pst pwa) (Y : qY n S w tra len frm tto wei fit way rid lon cel) {m : Nat} (hm : gN w 201 = nI m) (h30 : m < 2 ^ 30)
    {z : Int32 × List Int32 × List Int32 × Int32 × Int32 × List Int32 × List Int32 × List Int32 × List Int32 × List Int32 × List Int32 × List Int32 × List Int32 × Int32 × List Int32 × List Int32 × Int32 × List Int32 × List Int32 × List Int32 × List Int32 × List Int32 × List Int32} (hz : x_passMinute mi shu bus lks rk sta ph sp ce du he ri us cm lf lkd rl row sea pev pk pms pmm pmt pst pwa prs prr pfa (nI n) len frm tto fit way rid care = z) :
    rV n S (m_minute n w care) shu lks rk sta he lkd pk z.2.1 z.2.2.1 z.2.2.2.2.1 z.2.2.2.2.2.1 z.2.2.2.2.2.2.1 z.2.2.2.2.2.2.2.1 z.2.2.2.2.2.2.2.2.1 z.2.2.2.2.2.2.2.2.2.1 z.2.2.2.2.2.2.2.2.2.2.1 z.2.2.2.2.2.2.2.2.2.2.2.1 z.2.2.2.2.2.2.2.2.2.2.2.2.1 z.2.2.2.2.2.2.2.2.2.2.2.2.2.1 z.2.2.2.2.2.2.2.2.2.2.2.2.2.2.1 z.2.2.2.2.2.2.2.2.2.2.2.2.2.2.2.1 z.2.2.2.2.2.2.2.2.2.2.2.2.2.2.2.2.1 z.2.2.2.2.2.2.2.2.2.2.2.2.2.2.2.2.2.1 z.2.2.2.2.2.2.2.2.2.2.2.2.2.2.2.2.2.2.1 z.2.2.2.2.2.2.2.2.2.2.2.2.2.2.2.2.2.2.2.1 z.2.2.2.2.2.2.2.2.2.2.2.2.2.2.2.2.2.2.2.2.1 z.2.2.2.2.2.2.2.2.2.2.2.2.2.2.2.2.2.2.2.2.2.1 z.2.2.2.2.2.2.2.2.2.2.2.2.2.2.2.2.2.2.2.2.2.2 ∧ qY n S (m_minute n w care) tra len frm tto wei fit way rid lon cel ∧ gN (m_minute n w care) 201 = nI (m + 1) ∧ (z.1 = 1 ∨ z.1 = 0 ∧ quiet n care w) := by
  obtain ⟨H, M, O, U, K, Q, T, l1, l2⟩ := V
  have h5 := H.n5
  have hS := H.S7
  unfold x_passMinute at hz
  rw [lpN_n0 (by omega)] at hz
  obtain ⟨v1, ph1, sp1, ri1, cm1, pfa1, pev1, a1, a2, a3, a4, a5, a6⟩ := pm_arr (S := S) (shu := shu) (lks := lks) (rk := rk) (sta := sta) (he := he) (lkd := lkd) (us := us) (pms := pms) (pmm := pmm) (pmt := pmt) (pst := pst) (pwa := pwa) (care := care) n 0 0 w sea row rl bus ph sp ce du ri cm lf pfa pev prs prr (Nat.zero_add n) H M O.1 Y T
  rw [show (0 : Int32) = nI 0 from rfl] at hz
  rw [show (0 : Int32) = nI 0 from rfl] at a1
  rw [a1] at hz
  have Y1 := Y.frame a4.sF H.g a3.g
  obtain ⟨v2, sea2, row2, rl2, bus2, ph2, sp2, ce2, du2, ri2, cm2, lf2, pfa2, pev2, prs2, prr2, b1, b2, b3, b4, b5, b6, b7, b8⟩ := pm_mov (S := S) (us := us) (pms := pms) (pmm := pmm) (pmt := pmt) (pst := pst) (pwa := pwa) (care := care) n 0 v1 (m_mA n 0 w) sea row rl bus ph1 sp1 ce du ri1 cm1 lf pfa1 pev1 prs prr (Nat.zero_add n) a3 a2 (O.mF a4 H.lk4 h5) (rU.frame U (fun s k a b => a4.1 _ (by omega))) Y1 (fun t ht x y => by have := a5 t ht x y; omega) (fun j t _ _ ht _ x y => fun q => by have := a5 t ht x y; rw [q] at this; omega) l1 l2
  rw [b1] at hz
  have F := a4.tr b4
  have Y2 := Y1.frame b4.sF a3.g b3.g
  have e0 : m_minute n w care = m_end n (m_mM n care n 0 (m_mA n 0 w)) := rfl
  rw [e0]
  have hq : v2 = 1 ∨ v2 = 0 ∧ quiet n care w := by
    rcases b8 with b8 | ⟨c1, c2, c3, c4⟩
    · exact Or.inl b8
    · rcases a6 with a6 | ⟨d1, d2, d3, d4⟩
      · exact Or.inl (c1.trans a6)
      · refine Or.inr ⟨c1.trans d1, fun t ht => d4 t (Nat.zero_le t) ht, fun t ht => ?_⟩
        obtain ⟨k, hk, ek⟩ := H.R.2.1 t ht
        rw [d2] at c4
        exact c4 k t (Nat.zero_le k) hk ht ek
  generalize m_mM n care n 0 (m_mA n 0 w) = w2 at *
  have hm2 : gN w2 201 = nI m := (F.2.1 201 (by omega) (by omega)).trans hm
  obtain ⟨W, R⟩ := eR.step b3 (eR.rf b3.len) b3
  have hm3 : gN (m_end n w2) 201 = nI (m + 1) := by rw [R.2.1, hm2, nI_add]
  unfold x_passMinute_l53 at hz
  dsimp only at hz
  have X := x_end (mi := mi) (us := us) (pms := pms) (pmm := pmm) (pmt := pmt) (pst := pst) (pwa := pwa) (pk := pk) b3 b2.1 b2.2.2.1 (w0 := w2) (by
    refine ⟨K.1, fun k hk => ?_⟩
    rw [F.2.1 (204 + k) (by omega) (by omega)]; exact K.2 k hk) (by
    rcases Q with Q | ⟨q1, q2, q3, q4⟩
    · exact Or.inl Q
    · refine Or.inr ⟨q1, fun k hk => ?_, fun s hs => ?_, fun t ht => ?_⟩
      · rw [F.2.2.1 (246 + k) (by omega) (by omega), F.2.2.1 (271 + k) (by omega) (by omega), F.2.2.2.1 (570 + k) (by omega)]; exact q2 k hk
      · rw [F.2.2.2.1 (595 + s) (by omega)]; exact q3 s hs
      · rw [F.2.2.2.2 t 12 ht (by omega)]; exact q4 t ht) (by rw [F.2.1 201 (by omega) (by omega)]; exact O.1) (d := 0 + 1) (by decide) (by decide) R rfl
  rw [show nI (0 + 1) = (1 : Int32) from rfl] at X
  have E2 := R.1
  have M2 := b2.eF E2 h5 (fun t ht => by have := (b3.T ht).2.1.2; omega)
  have O2 := (O.mF F H.lk4 h5).eF E2 h5 b3.lk4
  have U2 := (rU.frame U (fun s k a b => F.1 _ (by omega)) : rU w2 shu).eF E2
  rw [← hz]
  dsimp only
  refine ⟨⟨W, M2, ?_, U2, X.2.1, X.2.2, tS_end b3 b5 hm2 h30 E2 hm3, b6, b7⟩, Y2.frame (E2.sF h5) b3.g W.g, hm3, hq⟩
  rw [X.1]
  exact O2
end PMIN

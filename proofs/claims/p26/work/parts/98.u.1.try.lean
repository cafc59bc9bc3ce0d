/-! one try of a move: both sides; what moves leave as it is -/
def mF (n : Nat) (w' w : List Int32) : Prop := (∀ j, j < 56 → gN w' j = gN w j) ∧ (∀ j, 196 ≤ j → j < 210 → gN w' j = gN w j) ∧ (∀ j, 246 ≤ j → j < 309 → gN w' j = gN w j) ∧ (∀ j, 570 ≤ j → gN w' j = gN w j) ∧ ∀ u k, u < n → (k < 6 ∨ k = 10 ∨ k = 12) → ft w' u k = ft w u k
theorem mF.rf {n : Nat} {w : List Int32} : mF n w w := ⟨fun _ _ => rfl, fun _ _ _ => rfl, fun _ _ _ => rfl, fun _ _ => rfl, fun _ _ _ _ => rfl⟩
theorem mF.tr {n : Nat} {w w' w'' : List Int32} (h1 : mF n w' w) (h2 : mF n w'' w') : mF n w'' w := ⟨fun j a => (h2.1 j a).trans (h1.1 j a), fun j a b => (h2.2.1 j a b).trans (h1.2.1 j a b), fun j a b => (h2.2.2.1 j a b).trans (h1.2.2.1 j a b), fun j a => (h2.2.2.2.1 j a).trans (h1.2.2.2.1 j a), fun u k a b => (h2.2.2.2.2 u k a b).trans (h1.2.2.2.2 u k a b)⟩
theorem mF.sF {n : Nat} {w w' : List Int32} (h : mF n w' w) : sF n w' w := ⟨fun s k hs hk => h.1 _ (by omega), fun t k ht hk => h.2.2.2.2 t k ht (by omega)⟩
section MF
variable {n S : Nat} {w w' : List Int32} {t : Nat}
theorem wf.sets_mF (H : wf n S w) (ht : t < n) (hw : m_whyNot w (nI t) = 0) : mF n (m_sets w (nI t)) w := by
  have h5 := H.n5
  have hS := H.S7
  rcases H.whyNot0 ht hw with ⟨h1, h2, h3⟩ | ⟨h1, h2, h3, h4⟩
  · obtain ⟨f1, f2, f3, f4, f5, f6, f7, f8, f9⟩ := H.cmF ht h1 h2 h3
    refine ⟨fun j a => f2 j (by omega) (by omega), fun j a b => f2 j (by omega) (by omega), fun j a b => f2 j (by omega) (by omega), fun j a => f2 j (by omega) (by omega), fun u k hu hk => ?_⟩
    by_cases c : u = t
    · rw [c]; exact f7 k (by omega) (by omega) (by omega) (by omega) (by omega)
    · exact f2 _ (by omega) (by omega)
  · obtain ⟨f1, f2, f3, f4, f5, f6, f7, f8, f9, f10, f11⟩ := H.lvF ht h1 h3 h4
    have f2' : ∀ j, (j < 56 + 28 * t ∨ 84 + 28 * t ≤ j) → (j < 210 ∨ 246 ≤ j ∧ j < 309 ∨ 570 ≤ j) → gN (m_sets w (nI t)) j = gN w j := fun j a b => by rw [f2 j a (by omega), if_neg (by omega), if_neg (by omega)]
    refine ⟨fun j a => f2' j (by omega) (by omega), fun j a b => f2' j (by omega) (by omega), fun j a b => f2' j (by omega) (by omega), fun j a => f2' j (by omega) (by omega), fun u k hu hk => ?_⟩
    by_cases c : u = t
    · rw [c]; exact f7 k (by omega) (by omega) (by omega) (by omega) (by omega)
    · exact f2' _ (by omega) (by omega)
theorem wf.arr_mF (H : wf n S w) (ht : t < n) (h6 : ft w t 6 = 2) : mF n (m_arrives w (nI t)) w := by
  have h5 := H.n5
  have hS := H.S7
  obtain ⟨f1, f2, f3, f4, f5, f6, f7, f8, f9, f10⟩ := H.arF ht h6 (H.arr ht h6).1
  refine ⟨fun j a => f2 j (by omega) (by omega), fun j a b => f2 j (by omega) (by omega), fun j a b => f2 j (by omega) (by omega), fun j a => f2 j (by omega) (by omega), fun u k hu hk => ?_⟩
  by_cases c : u = t
  · rw [c]; exact f8 k (by omega) (by omega) (by omega) (by omega) (by omega)
  · exact f2 _ (by omega) (by omega)
end MF
/-- what moves change -/
def qM (n : Nat) (w : List Int32) (pk bus : Int32) (ph sp ce du ri cm lf pfa : List Int32) (pev : Int32) (prs prr : List Int32) : Prop := rP n w ph sp ce ∧ qB n w bus ∧ rI n w ri ∧ rD n w du ∧ rC n w cm lf ∧ wEn n w ∧ rG w pk pev pfa prs prr
theorem rO.mF {n : Nat} {w w' rk sta he lkd : List Int32} {mi lks : Int32} (O : rO n w mi lks rk sta he lkd) (h : mF n w' w) (hm : nV (gN w 296) ≤ 4) (h5 : n ≤ 5) : rO n w' mi lks rk sta he lkd := by
  obtain ⟨o1, o2, o3, o4, o5⟩ := O
  refine ⟨by rw [h.2.1 201 (by omega) (by omega)]; exact o1, fun k hk => ?_, fun t ht => ?_, by rw [h.2.2.1 296 (by omega) (by omega)]; exact o4, fun i hi => ?_⟩
  · rw [h.2.1 (196 + k) (by omega) (by omega)]; exact o2 k hk
  · rw [h.2.2.2.2 t 3 ht (by omega), h.2.2.2.2 t 10 ht (by omega)]; exact o3 t ht
  · rw [← o4] at hm
    rw [h.2.2.1 (297 + i) (by omega) (by omega)]; exact o5 i hi
theorem wf.lk4 {n S : Nat} {w : List Int32} (H : wf n S w) : nV (gN w 296) ≤ 4 := by
  obtain ⟨m, h1, h2, -⟩ := H.L
  rw [h2, nV_n (by omega)]
  exact h1
/-- whether a train would move in this minute -/
def mv (n : Nat) (w : List Int32) (care : Int32) (t : Nat) : Prop := m_isHeld w (nI t) = 0 ∧ ¬ m_may w (nI t) = 0 ∧ m_whyNot w (nI t) = 0 ∧ (care = 0 ∨ ¬ m_isSafe (m_sets w (nI t)) n = 0)
/-- a train's try, alone -/
def m_tr (n : Nat) (w : List Int32) (care : Int32) (t : Nat) : List Int32 := if m_isHeld w (nI t) = 0 then (if m_may w (nI t) = 0 then w else m_tries w n (nI t) care) else w
theorem m_tr_mv {n : Nat} {w : List Int32} {care : Int32} {t : Nat} (h : mv n w care t) : m_tr n w care t = m_sets w (nI t) := by
  obtain ⟨h1, h2, h3, h4⟩ := h
  unfold m_tr m_tries
  rw [if_pos h1, if_neg h2, if_pos h3]
  by_cases c : care = 0
  · rw [if_pos c]
  · rw [if_neg c, if_neg]
    rcases h4 with z | z
    · exact absurd z c
    · exact z
theorem m_tr_no {n : Nat} {w : List Int32} {care : Int32} {t : Nat} (h : ¬ mv n w care t) : m_tr n w care t = w := by
  unfold m_tr m_tries
  by_cases h1 : m_isHeld w (nI t) = 0
  · rw [if_pos h1]
    by_cases h2 : m_may w (nI t) = 0
    · rw [if_pos h2]
    · rw [if_neg h2]
      by_cases h3 : m_whyNot w (nI t) = 0
      · rw [if_pos h3, if_neg (fun z => h ⟨h1, h2, h3, Or.inl z⟩)]
        by_cases h4 : m_isSafe (m_sets w (nI t)) n = 0
        · rw [if_pos h4]
        · exact absurd ⟨h1, h2, h3, Or.inr h4⟩ h
      · rw [if_neg h3]
  · rw [if_neg h1]
section TRY
variable {n S : Nat} {w ph sp ce ri du cm lf pfa prs prr tra len frm tto wei fit way rid lon rk sta he lkd sea row : List Int32} {shu bus cel mi pk pev lks rl care : Int32} {t : Nat}
theorem held_n (ht : t < 100) (O : rO n w mi lks rk sta he lkd) (htn : t < n) : (m_isHeld w (nI t) = 0) ↔ ¬ mi < gA he (nI t) := by
  unfold m_isHeld
  rw [m_of10 ht, gA_201, gA_n (by omega), (O.2.2.1 t htn).2, O.1]
  by_cases c : gN w 201 < ft w t 10
  · rw [if_pos c]; exact ⟨fun z => absurd z (by decide), fun z => absurd c z⟩
  · rw [if_neg c]; exact ⟨fun _ => c, fun _ => rfl⟩
/-- the mover's seat in the state behind its move -/
theorem rZ_mv (H : wf n S w) (P : rP n w ph sp ce) (ht : t < n) (hw : m_whyNot w (nI t) = 0) : rZ n (m_sets w (nI t)) (fun u => if nI u = nI t then tG n w t else gN ce u) := by
  have h5 := H.n5
  have hS := H.S7
  have H' := H.sets ht hw
  intro u hu
  dsimp only
  by_cases c : u = t
  · subst c
    rw [if_pos rfl]
    rcases H.whyNot0 hu hw with ⟨h1, h2, h3⟩ | ⟨h1, h2, h3, h4⟩
    · obtain ⟨f1, f2, f3, f4, f5, f6, f7, f8, f9⟩ := H.cmF hu h1 h2 h3
      refine Or.inl ⟨f9, ?_⟩
      unfold tG ebs
      rw [if_pos h1, if_neg h2, f8]
    · obtain ⟨f1, f2, f3, f4, f5, f6, f7, f8, f9, f10, f11⟩ := H.lvF hu h1 h3 h4
      unfold tG ebs
      rw [if_neg (by rw [h1]; decide), if_pos h2, f8]
      by_cases d : nxT w u = tO w u
      · rw [if_pos d, if_pos d]; exact Or.inr ⟨rfl, Or.inr rfl⟩
      · rw [f8, if_neg d] at f9
        rw [if_neg d, if_neg d, if_neg (h3 d)]
        refine Or.inl ⟨?_, rfl⟩
        rcases f9 with z | z
        · exact z
        · exact absurd z d
  · rw [if_neg (fun z => c ((nI_eq (by omega) (by omega)).mp z)), P.pce hu]
    have e : cL (m_sets w (nI t)) u = cL w u := by
      rcases H.whyNot0 ht hw with ⟨h1, h2, h3⟩ | ⟨h1, h2, h3, h4⟩
      · obtain ⟨f1, f2, f3, f4, f5, f6, f7, f8, f9⟩ := H.cmF ht h1 h2 h3
        exact sT.qcL (fun k hk => f2 _ (by omega) (by omega))
      · obtain ⟨f1, f2, f3, f4, f5, f6, f7, f8, f9, f10, f11⟩ := H.lvF ht h1 h3 h4
        exact sT.qcL (fun k hk => by
          show gN _ _ = _
          rw [f2 _ (by omega) (by omega), if_neg (by omega), if_neg (by omega)]
          rfl)
    rw [e]
    rcases cI_or H.g hu with z | z
    · exact Or.inl z
    · exact Or.inr ⟨z.1, Or.inl z.2⟩
/-- leftStanding with a mover: the safety of the state behind its move -/
theorem x_lsm (H : wf n S w) (P : rP n w ph sp ce) (U : rU w shu) (Y : qY n S w tra len frm tto wei fit way rid lon cel) (ht : t < n) (hw : m_whyNot w (nI t) = 0) (hs : sea.length = 5) (hr : row.length = 5) : ∃ z1 sea' row' k', x_leftStanding shu ce rl row sea (nI n) fit way (nI t) (tG n w t) = (z1, sea', row', nI k') ∧ sea'.length = 5 ∧ row'.length = 5 ∧ (z1 = 0 ↔ ¬ m_isSafe (m_sets w (nI t)) n = 0) := by
  have H' := H.sets ht hw
  have F := H.sets_mF ht hw
  obtain ⟨sea', row', k', h1, h2, h3, h4, h5, h6⟩ := x_left (n := n) (S := S) (w := m_sets w (nI t)) H'.g H'.D.1 (rU.frame U (fun s k a b => F.1 _ (by omega))) (Y.frame F.sF H.g H'.g) (rl := rl) (ce := ce) (tk := sea) (rZ_mv H P ht hw) hs hr hs
  refine ⟨_, sea', row', k', h1, h2, h3, ?_⟩
  rw [m_sf_1]
  unfold m_isSafe
  by_cases c : mk5 (m_sf (m_sets w (nI t)) n []).1 = 0
  · rw [if_pos c]; exact ⟨fun _ => by decide, fun _ => c⟩
  · rw [if_neg c]; exact ⟨fun z => absurd z c, fun z => absurd rfl z⟩
theorem x_try (H : wf n S w) (M : qM n w pk bus ph sp ce du ri cm lf pfa pev prs prr) (O : rO n w mi lks rk sta he lkd) (U : rU w shu) (Y : qY n S w tra len frm tto wei fit way rid lon cel) (hs : sea.length = 5) (hr : row.length = 5) (ht : t < n) (hcm : ft w t 6 = 1 → atT w t = fR w t → ¬ ft w t (13 + fR w t) = gN w 201)
    {z : Int32 × List Int32 × List Int32 × Int32 × Int32 × List Int32 × List Int32 × List Int32 × List Int32 × List Int32 × List Int32 × List Int32 × List Int32 × Int32 × List Int32 × List Int32} (hz : x_tryMove mi shu bus lks sta ph sp ce du he ri cm lf lkd rl row sea pev pk prs prr pfa (nI n) len frm tto fit way rid (nI t) care = z) :
    z.2.1.length = 5 ∧ z.2.2.1.length = 5 ∧ qM n (m_tr n w care t) pk z.2.2.2.2.1 z.2.2.2.2.2.1 z.2.2.2.2.2.2.1 z.2.2.2.2.2.2.2.1 z.2.2.2.2.2.2.2.2.1 z.2.2.2.2.2.2.2.2.2.1 z.2.2.2.2.2.2.2.2.2.2.1 z.2.2.2.2.2.2.2.2.2.2.2.1 z.2.2.2.2.2.2.2.2.2.2.2.2.1 z.2.2.2.2.2.2.2.2.2.2.2.2.2.1 z.2.2.2.2.2.2.2.2.2.2.2.2.2.2.1 z.2.2.2.2.2.2.2.2.2.2.2.2.2.2.2 ∧
    ((z.1 = 0 ∧ ¬ mv n w care t ∧ z.2.2.2.2 = (bus, ph, sp, ce, du, ri, cm, lf, pfa, pev, prs, prr)) ∨ (z.1 = 1 ∧ mv n w care t)) := by
  have h5 := H.n5
  have hS := H.S7
  have hT := H.T ht
  obtain ⟨P, B, I, Dd, C, N, G⟩ := M
  have hh := held_n (by omega) O ht
  -- no move
  have no : ∀ sea' row' rl', sea'.length = 5 → row'.length = 5 → ¬ mv n w care t → z = (0, sea', row', rl', bus, ph, sp, ce, du, ri, cm, lf, pfa, pev, prs, prr) → z.2.1.length = 5 ∧ z.2.2.1.length = 5 ∧ qM n (m_tr n w care t) pk z.2.2.2.2.1 z.2.2.2.2.2.1 z.2.2.2.2.2.2.1 z.2.2.2.2.2.2.2.1 z.2.2.2.2.2.2.2.2.1 z.2.2.2.2.2.2.2.2.2.1 z.2.2.2.2.2.2.2.2.2.2.1 z.2.2.2.2.2.2.2.2.2.2.2.1 z.2.2.2.2.2.2.2.2.2.2.2.2.1 z.2.2.2.2.2.2.2.2.2.2.2.2.2.1 z.2.2.2.2.2.2.2.2.2.2.2.2.2.2.1 z.2.2.2.2.2.2.2.2.2.2.2.2.2.2.2 ∧ ((z.1 = 0 ∧ ¬ mv n w care t ∧ z.2.2.2.2 = (bus, ph, sp, ce, du, ri, cm, lf, pfa, pev, prs, prr)) ∨ (z.1 = 1 ∧ mv n w care t)) := by
    intro sea' row' rl' l1 l2 hn e
    rw [m_tr_no hn, e]
    exact ⟨l1, l2, ⟨P, B, I, Dd, C, N, G⟩, Or.inl ⟨rfl, hn, rfl⟩⟩
  unfold x_tryMove at hz
  by_cases c1 : mi < gA he (nI t)
  · rw [if_pos c1] at hz
    exact no sea row rl hs hr (fun q => hh.mp q.1 c1) hz.symm
  rw [if_neg c1, gA_n (l := ph) (by omega), P.pph ht] at hz
  have hheld := hh.mpr c1
  by_cases c2 : ft w t 6 = 2
  · rw [if_pos c2] at hz
    exact no sea row rl hs hr (fun q => by have := q.2.2.1; rw [H.g.whyNot ht, c2, if_neg (show ¬ (2 : Int32) = 3 by decide), if_pos rfl] at this; exact absurd this (by decide)) hz.symm
  by_cases c3 : ft w t 6 = 3
  · rw [if_neg c2, if_pos c3] at hz
    exact no sea row rl hs hr (fun q => by have := q.2.2.1; rw [H.g.whyNot ht, c3, if_pos rfl] at this; exact absurd this (by decide)) hz.symm
  rw [if_neg c2, if_neg c3] at hz
  have h01 : ft w t 6 = 0 ∨ ft w t 6 = 1 := by
    rcases hT.2.2.2.1 with e | e | e | e
    · exact Or.inl e
    · exact Or.inr e
    · exact absurd e c2
    · exact absurd e c3
  rw [x_tgt H.g P B U I Y ht h01] at hz
  have htg := tG_why H.g ht h01
  by_cases c0 : ft w t 6 = 0
  · rw [if_pos c0, gA_n (l := sta) (by omega), (O.2.2.1 t ht).1, O.1] at hz
    have hmay : (m_may w (nI t) = 0) ↔ gN w 201 < ft w t 3 := by
      unfold m_may
      rw [m_of6 (by omega), if_pos c0, gA_201, m_of3 (by omega)]
      by_cases d : gN w 201 < ft w t 3
      · rw [if_pos d]; exact ⟨fun _ => d, fun _ => rfl⟩
      · rw [if_neg d]; exact ⟨fun q => absurd q (by decide), fun q => absurd q d⟩
    by_cases c4 : gN w 201 < ft w t 3
    · rw [if_pos c4] at hz
      exact no sea row rl hs hr (fun q => q.2.1 (hmay.mpr c4)) hz.symm
    rw [if_neg c4] at hz
    have hmy : ¬ m_may w (nI t) = 0 := fun q => c4 (hmay.mp q)
    rcases htg with ⟨g1, c, g2, g3⟩ | ⟨g1, g3⟩ | ⟨g1, g3⟩
    · rw [if_neg (show ¬ tG n w t < 0 by rw [g3]; exact nI_pos (by omega))] at hz
      have e2 : tF n w t (fR w t) ≠ 9 := by
        rcases H.whyNot0 ht g1 with ⟨a, b, -⟩ | ⟨a, -⟩
        · exact b
        · rw [c0] at a; exact absurd a (by decide)
      have e3 : tG n w t = ebs (fR w t) (tF n w t (fR w t)) := by unfold tG; rw [if_pos c0]
      obtain ⟨z1, sea', row', k', l1, l2, l3, l4⟩ := x_lsm (rl := rl) H P U Y ht g1 hs hr
      rw [l1] at hz
      dsimp only at hz
      by_cases cc : care = 0
      · rw [if_pos cc] at hz
        have hmv : mv n w care t := ⟨hheld, hmy, g1, Or.inl cc⟩
        have := x_come (mi := gN w 201) H P B I Dd C N G rfl Y ht c0 e2 e3 rfl rfl
        rw [m_tr_mv hmv, ← hz]
        exact ⟨hs, hr, ⟨this.1, this.2.1, this.2.2.1, this.2.2.2.1, this.2.2.2.2.1, this.2.2.2.2.2.1, this.2.2.2.2.2.2⟩, Or.inr ⟨rfl, hmv⟩⟩
      · rw [if_neg cc] at hz
        by_cases cz : z1 = 0
        · rw [if_pos cz] at hz
          have hmv : mv n w care t := ⟨hheld, hmy, g1, Or.inr (l4.mp cz)⟩
          have := x_come (mi := gN w 201) H P B I Dd C N G rfl Y ht c0 e2 e3 rfl rfl
          rw [m_tr_mv hmv, ← hz]
          exact ⟨l2, l3, ⟨this.1, this.2.1, this.2.2.1, this.2.2.2.1, this.2.2.2.2.1, this.2.2.2.2.2.1, this.2.2.2.2.2.2⟩, Or.inr ⟨rfl, hmv⟩⟩
        · rw [if_neg cz] at hz
          refine no sea' row' _ l2 l3 (fun q => ?_) hz.symm
          rcases q.2.2.2 with y | y
          · exact cc y
          · exact cz (l4.mpr y)
    · rw [if_pos (show tG n w t < 0 by rw [g3]; decide)] at hz
      exact no sea row rl hs hr (fun q => by have := q.2.2.1; rw [g1] at this; exact absurd this (by decide)) hz.symm
    · rw [if_pos (show tG n w t < 0 by rw [g3]; decide)] at hz
      exact no sea row rl hs hr (fun q => by have := q.2.2.1; rw [g1] at this; exact absurd this (by decide)) hz.symm
  · have c6 : ft w t 6 = 1 := by
      rcases h01 with e | e
      · exact absurd e c0
      · exact e
    rw [if_neg c0, x_kept H P C O] at hz
    have h7 := hT.2.2.2.2.1 c0
    have hmay : (m_may w (nI t) = 0) ↔ ¬ m_isKept w (nI t) = 0 := by
      unfold m_may
      rw [m_of6 (by omega), if_neg c0, if_pos c6, m_of7 (by omega), m_of1 (by omega), h7.1, hT.1.1, m_of13 (by omega) (by have := hT.1.2; omega), gA_201]
      by_cases d : m_isKept w (nI t) = 0
      · rw [if_pos d]
        by_cases e : atT w t = fR w t
        · rw [e, if_pos rfl, if_neg (hcm c6 e)]
          exact ⟨fun q => absurd q (by decide), fun q => absurd d q⟩
        · rw [if_neg (fun q => e ((nI_eq (by omega) (by have := hT.1.2; omega)).mp q))]
          exact ⟨fun q => absurd q (by decide), fun q => absurd d q⟩
      · rw [if_neg d]; exact ⟨fun _ => d, fun _ => rfl⟩
    by_cases c4 : m_isKept w (nI t) = 0
    · rw [if_pos c4] at hz
      have hmy : ¬ m_may w (nI t) = 0 := fun q => hmay.mp q c4
      rcases htg with ⟨g1, c, g2, g3⟩ | ⟨g1, g3⟩ | ⟨g1, g3⟩
      · rw [if_neg (show ¬ tG n w t < 0 by rw [g3]; exact nI_pos (by omega))] at hz
        obtain ⟨e1, e2⟩ : fnd (onS w (sC w t)) n 0 = -1 ∧ (nxT w t ≠ tO w t → tF n w t (nxT w t) ≠ 9) := by
          rcases H.whyNot0 ht g1 with ⟨a, -⟩ | ⟨a, b, d, -⟩
          · exact absurd a c0
          · exact ⟨b, d⟩
        have e3 : tG n w t = if nxT w t = tO w t then 21 else ebs (nxT w t) (tF n w t (nxT w t)) := by unfold tG; rw [if_neg c0, if_pos e1]
        obtain ⟨z1, sea', row', k', l1, l2, l3, l4⟩ := x_lsm (rl := rl) H P U Y ht g1 hs hr
        rw [l1] at hz
        dsimp only at hz
        by_cases cc : care = 0
        · rw [if_pos cc] at hz
          have hmv : mv n w care t := ⟨hheld, hmy, g1, Or.inl cc⟩
          have := x_leav (mi := mi) H P B I Dd C N G O.1 Y ht c6 e1 e2 e3 rfl rfl
          rw [m_tr_mv hmv, ← hz]
          exact ⟨hs, hr, ⟨this.1, this.2.1, this.2.2.1, this.2.2.2.1, this.2.2.2.2.1, this.2.2.2.2.2.1, this.2.2.2.2.2.2⟩, Or.inr ⟨rfl, hmv⟩⟩
        · rw [if_neg cc] at hz
          by_cases cz : z1 = 0
          · rw [if_pos cz] at hz
            have hmv : mv n w care t := ⟨hheld, hmy, g1, Or.inr (l4.mp cz)⟩
            have := x_leav (mi := mi) H P B I Dd C N G O.1 Y ht c6 e1 e2 e3 rfl rfl
            rw [m_tr_mv hmv, ← hz]
            exact ⟨l2, l3, ⟨this.1, this.2.1, this.2.2.1, this.2.2.2.1, this.2.2.2.2.1, this.2.2.2.2.2.1, this.2.2.2.2.2.2⟩, Or.inr ⟨rfl, hmv⟩⟩
          · rw [if_neg cz] at hz
            refine no sea' row' _ l2 l3 (fun q => ?_) hz.symm
            rcases q.2.2.2 with y | y
            · exact cc y
            · exact cz (l4.mpr y)
      · rw [if_pos (show tG n w t < 0 by rw [g3]; decide)] at hz
        exact no sea row rl hs hr (fun q => by have := q.2.2.1; rw [g1] at this; exact absurd this (by decide)) hz.symm
      · rw [if_pos (show tG n w t < 0 by rw [g3]; decide)] at hz
        exact no sea row rl hs hr (fun q => by have := q.2.2.1; rw [g1] at this; exact absurd this (by decide)) hz.symm
    · rw [if_neg c4] at hz
      exact no sea row rl hs hr (fun q => q.2.1 (hmay.mpr c4)) hz.symm
end TRY

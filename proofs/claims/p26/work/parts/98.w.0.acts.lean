/-! acts: hold, start, stall -/
/-- cells that the acts write -/
def aX (j : Nat) : Prop := (∃ t, t < 5 ∧ (j = 56 + 28 * t + 3 ∨ j = 56 + 28 * t + 9 ∨ j = 56 + 28 * t + 10)) ∨ 196 ≤ j ∧ j < 201 ∨ 296 ≤ j ∧ j < 309 ∨ j < 56 ∧ 5 ≤ j % 8
def aF (w' w : List Int32) : Prop := w'.length = 602 ∧ ∀ j, ¬ aX j → gN w' j = gN w j
theorem aX_f {t k : Nat} (ht : t < 5) (hk : k < 28) (h : k ≠ 3 ∧ k ≠ 9 ∧ k ≠ 10) : ¬ aX (56 + 28 * t + k) := by
  unfold aX
  rintro (⟨u, h1, h2⟩ | h2 | h2 | h2)
  · rcases h2 with h2 | h2 | h2 <;> omega
  · omega
  · omega
  · omega
theorem aX_j {j : Nat} (h : 201 ≤ j ∧ j < 296 ∨ 309 ≤ j) : ¬ aX j := by
  unfold aX
  rintro (⟨u, h1, h2⟩ | h2 | h2 | h2)
  · rcases h2 with h2 | h2 | h2 <;> omega
  · omega
  · omega
  · omega
theorem aX_s {s k : Nat} (hs : s < 7) (hk : k < 5) : ¬ aX (8 * s + k) := by
  unfold aX
  rintro (⟨u, h1, h2⟩ | h2 | h2 | h2)
  · rcases h2 with h2 | h2 | h2 <;> omega
  · omega
  · omega
  · omega
section AF
variable {n S : Nat} {w w' ph sp ce ri du cm lf pfa prs prr tra len frm tto wei fit way rid lon rk sta he lkd sea row us pms pmm pmt pst pwa du' rk' sta' he' lkd' : List Int32} {shu shu' lks' bus cel mi pk pev lks sst th sst' acs : Int32} {kp : List Int32} {t : Nat}
theorem aF.f (F : aF w' w) (ht : t < 5) {k : Nat} (hk : k < 28) (h : k ≠ 3 ∧ k ≠ 9 ∧ k ≠ 10) : ft w' t k = ft w t k := F.2 _ (aX_f ht hk h)
theorem aF.p (F : aF w' w) (ht : t < 5) : sP w' w t := fun k hk => F.f ht (by omega) (by omega)
theorem aF.set {i : Nat} {x : Int32} (hl : w.length = 602) (h : aX i) : aF (w.set i x) w := ⟨by rw [List.length_set]; exact hl, fun j hj => gN_ne (fun e => hj (by rw [← e]; exact h))⟩
theorem qM.aF (M : qM n w pk bus ph sp ce du ri cm lf pfa pev prs prr) (F : aF w' w) (h5 : n ≤ 5) (hT : ∀ t, t < n → tO w t < 7) (D : rD n w' du') : qM n w' pk bus ph sp ce du' ri cm lf pfa pev prs prr := by
  obtain ⟨P, B, I, -, C, N, G⟩ := M
  refine ⟨⟨P.1, fun t ht => ?_⟩, fun c hc => ?_, ⟨I.1, fun k hk => ?_⟩, D, ⟨C.1, fun t s ht hs => ?_⟩, fun t ht h6 => ?_, ?_⟩
  · have p := F.p (t := t) (by omega)
    rw [p 6 (by decide), p 7 (by decide), p.qcL]
    exact P.2 t ht
  · rw [B c hc]
    constructor
    · rintro ⟨t, ht, e⟩; exact ⟨t, ht, by rw [(F.p (t := t) (by omega)).qcL]; exact e⟩
    · rintro ⟨t, ht, e⟩; exact ⟨t, ht, by rw [(F.p (t := t) (by omega)).qcL] at e; exact e⟩
  · rw [I.2 k hk]
    refine fnd_congr (fun t h1 h2 => ?_)
    have p := F.p (t := t) (by omega)
    unfold onS
    rw [p 6 (by decide), p.qsC]
  · rw [F.f (by omega) (by omega) (by omega), F.f (by omega) (by omega) (by omega)]
    exact C.2 t s ht hs
  · have p := F.p (t := t) (by omega)
    rw [p 6 (by decide)] at h6
    rw [p.qtO, F.f (by omega) (by omega) (by omega), F.f (by omega) (by have := hT t ht; omega) (by omega)]
    exact N t ht h6
  · rcases G with G | ⟨g1, ⟨e, g2, g3, g4, g5⟩, g6⟩
    · exact Or.inl G
    · refine Or.inr ⟨g1, ⟨e, g2, by rw [F.2 309 (aX_j (by omega))]; exact g3, g4, fun i hi => by rw [F.2 (310 + i) (aX_j (by omega))]; exact g5 i hi⟩, fun k hk => ?_⟩
      obtain ⟨g, a1, a2, a3, a4⟩ := g6 k hk
      exact ⟨g, a1, by rw [F.2 _ (aX_j (by omega))]; exact a2, a3, fun j hj => by rw [F.2 _ (aX_j (by omega))]; exact a4 j hj⟩
theorem rD.aF (D : rD n w du) (F : aF w' w) (h5 : n ≤ 5) (h9 : ∀ t, t < n → ft w' t 9 = ft w t 9) : rD n w' du := by
  refine ⟨D.1, fun t ht h6 => ?_⟩
  rw [F.f (by omega) (by omega) (by omega)] at h6
  rw [h9 t ht]
  exact D.2 t ht h6
theorem rV.aF (V : rV n S w shu lks rk sta he lkd pk sea row bus ph sp ce du ri cm lf pfa pev prs prr mi us pms pmm pmt pst pwa) (F : aF w' w) (W : wf n S w') (D : rD n w' du') (O : rO n w' mi lks' rk' sta' he' lkd') (U : rU w' shu') : rV n S w' shu' lks' rk' sta' he' lkd' pk sea row bus ph sp ce du' ri cm lf pfa pev prs prr mi us pms pmm pmt pst pwa := by
  obtain ⟨H, M, -, -, K, Q, T, l1, l2⟩ := V
  have h5 := H.n5
  have hS := H.S7
  refine ⟨W, M.aF F h5 (fun t ht => by have := (H.T ht).2.1.2; omega) D, O, U, ⟨K.1, fun k hk => ?_⟩, ?_, fun t ht h6 h7 => ?_, l1, l2⟩
  · rw [F.2 _ (aX_j (by omega))]; exact K.2 k hk
  · rcases Q with Q | ⟨q1, q2, q3, q4⟩
    · exact Or.inl Q
    · refine Or.inr ⟨q1, fun k hk => ?_, fun s hs => ?_, fun t ht => ?_⟩
      · rw [F.2 _ (aX_j (by omega)), F.2 _ (aX_j (by omega)), F.2 _ (aX_j (by omega))]; exact q2 k hk
      · rw [F.2 _ (aX_j (by omega))]; exact q3 s hs
      · rw [F.f (by omega) (by omega) (by omega)]; exact q4 t ht
  · have p := F.p (t := t) (by omega)
    rw [p 6 (by decide)] at h6
    rw [p.qaT, p.qfR] at h7
    rw [p.qfR, F.f (by omega) (by have := (H.T ht).1.2; omega) (by omega), F.2 201 (aX_j (by omega))]
    exact T t ht h6 h7
theorem qY.aF (Y : qY n S w tra len frm tto wei fit way rid lon cel) (F : aF w' w) (H : wg n S w) (H' : wg n S w') : qY n S w' tra len frm tto wei fit way rid lon cel :=
  Y.frame ⟨fun s k hs hk => F.2 _ (aX_s hs hk), fun t k ht hk => F.f (by have := H.n5; omega) (by omega) (by omega)⟩ H H'
/-- an act, told on both sides -/
def eA (z1 fl st : Int32) (y : Int32 × Int32 × Int32 × Int32 × List Int32 × List Int32) (acs : Int32) (kp w : List Int32) (R0 : Prop) (R : List Int32 → Prop) : Prop := z1 = y.1 ∧ st = y.2.2.1 ∧ ((fl = 0 ∧ R0 ∧ y.2.2.2 = (acs, kp, w)) ∨ (fl = 1 ∧ y.2.2.2.1 = (m_keeps acs w kp).2 ∧ y.2.2.2.2.1 = (m_keeps acs w kp).1 ∧ R y.2.2.2.2.2))
theorem set_5 {l : List Int32} {i : Nat} {x : Int32} (hn : n ≤ l.length) {f g : Nat → Int32} (hi : i < n) (h : ∀ t, t < n → gN l t = f t) (hg : ∀ t, t < n → t ≠ i → g t = f t) (hx : g i = x) : ∀ t, t < n → gN (l.set i x) t = g t := fun t ht => by
  by_cases e : t = i
  · rw [e, gN_eq (by omega), hx]
  · rw [gN_ne (fun z => e z.symm), h t ht, hg t ht e]
theorem rO.set (O : rO n w mi lks rk sta he lkd) (F : aF w' w) (h5 : n ≤ 5) (h1 : ∀ j, 196 ≤ j → j < 201 → gN w' j = gN w j) (h2 : ∀ j, 296 ≤ j → j < 309 → gN w' j = gN w j) (hk : nV lks ≤ 4) (h3 : ∀ t, t < n → gN sta' t = ft w' t 3) (h4 : ∀ t, t < n → gN he' t = ft w' t 10) : rO n w' mi lks rk sta' he' lkd := by
  obtain ⟨o1, o2, o3, o4, o5⟩ := O
  refine ⟨by rw [F.2 201 (aX_j (by omega))]; exact o1, fun k hk => ?_, fun t ht => ⟨h3 t ht, h4 t ht⟩, by rw [h2 296 (by omega) (by omega)]; exact o4, fun i hi => ?_⟩
  · rw [h1 _ (by omega) (by omega)]; exact o2 k hk
  · rw [h2 _ (by omega) (by omega)]; exact o5 i hi
theorem wf.qlk (H : wf n S w) (O : rO n w mi lks rk sta he lkd) : nV lks ≤ 4 := by
  rw [O.2.2.2.1]
  exact H.lk4
theorem ea_hold (V : rV n S w shu lks rk sta he lkd pk sea row bus ph sp ce du ri cm lf pfa pev prs prr mi us pms pmm pmt pst pwa) (Y : qY n S w tra len frm tto wei fit way rid lon cel) (hl : he.length = 5) (x1 x2 : Int32) :
    eA (x_ahold mi ph he (nI n) sst x1 x2).1 (x_ahold mi ph he (nI n) sst x1 x2).2.1 (x_ahold mi ph he (nI n) sst x1 x2).2.2.2 (m_hold th sst' acs w kp x1 x2) acs kp w ((x_ahold mi ph he (nI n) sst x1 x2).2.2.1 = he) (fun w' => (x_ahold mi ph he (nI n) sst x1 x2).2.2.1.length = 5 ∧ rV n S w' shu lks rk sta (x_ahold mi ph he (nI n) sst x1 x2).2.2.1 lkd pk sea row bus ph sp ce du ri cm lf pfa pev prs prr mi us pms pmm pmt pst pwa ∧ qY n S w' tra len frm tto wei fit way rid lon cel) := by
  have H := V.1
  have h5 := H.n5
  unfold x_ahold m_hold
  rw [g_within, g_train H.g]
  by_cases c1 : m_isFrom x2 1 99 = 0
  · rw [if_pos c1, if_pos c1]; exact ⟨rfl, rfl, Or.inl ⟨rfl, rfl, rfl⟩⟩
  rw [if_neg c1, if_neg c1]
  by_cases c2 : m_isTrain w x1 = 0
  · rw [if_pos c2, if_pos c2]; exact ⟨rfl, rfl, Or.inl ⟨rfl, rfl, rfl⟩⟩
  rw [if_neg c2, if_neg c2]
  obtain ⟨t, ht, rfl⟩ := (isTrain_n H.g).mp c2
  rw [gA_n (l := ph) (by omega), V.2.1.1.pph ht, m_of6 (by omega)]
  by_cases c3 : ft w t 6 = 3
  · rw [if_pos c3, if_pos c3]; exact ⟨rfl, rfl, Or.inl ⟨rfl, rfl, rfl⟩⟩
  rw [if_neg c3, if_neg c3]
  have O := V.2.2.1
  have e : m_puts w (nI t) 10 (gA w 201 + x2) = w.set (56 + 28 * t + 10) (mi + x2) := by
    rw [gA_201, ← O.1]
    exact m_puts_n (k := 10) (by omega) (by decide)
  have hx : aX (56 + 28 * t + 10) := Or.inl ⟨t, by omega, by omega⟩
  have F := aF.set (x := mi + x2) H.len hx
  have W : wf n S (w.set (56 + 28 * t + 10) (mi + x2)) := H.set (by
    unfold wU
    rintro (q | ⟨u, k, q1, q2, q3⟩ | q | q | q | q | q | q | q) <;> omega)
  have es : sA he (nI t) (mi + x2) = he.set t (mi + x2) := sA_n (by omega)
  have g9 : ∀ u k, u < n → k < 28 → ¬ (u = t ∧ k = 10) → ft (w.set (56 + 28 * t + 10) (mi + x2)) u k = ft w u k := fun u k hu hk hne => gN_ne (by omega)
  have V' := V.aF F W (V.2.1.2.2.2.1.aF F h5 (fun u hu => g9 u 9 hu (by decide) (by omega))) (O.set F h5 (fun j _ _ => gN_ne (by omega)) (fun j _ _ => gN_ne (by omega)) (H.qlk O) (fun u hu => by rw [g9 u 3 hu (by decide) (by omega)]; exact (O.2.2.1 u hu).1) (set_5 (l := he) (x := mi + x2) (by omega) (g := fun u => ft (w.set (56 + 28 * t + 10) (mi + x2)) u 10) (f := fun u => ft w u 10) ht (fun u hu => (O.2.2.1 u hu).2) (fun u hu hne => g9 u 10 hu (by decide) (by omega)) (gN_eq (by have := H.len; omega)))) (rU.frame V.2.2.2.1 (fun s k _ _ => gN_ne (by omega)))
  refine ⟨?_, rfl, Or.inr ⟨rfl, rfl, rfl, ?_, ?_, ?_⟩⟩
  · show gA (sA he (nI t) (mi + x2)) (nI t) = gA (m_puts w (nI t) 10 (gA w 201 + x2)) 201 + x2
    rw [es, e, gA_n (by omega), gN_eq (by omega), gA_201, gN_ne (by omega), O.1]
  · show (sA he (nI t) (mi + x2)).length = 5
    rw [es, List.length_set]; exact hl
  · show rV n S (m_puts w (nI t) 10 (gA w 201 + x2)) shu lks rk sta (sA he (nI t) (mi + x2)) lkd pk sea row bus ph sp ce du ri cm lf pfa pev prs prr mi us pms pmm pmt pst pwa
    rw [es, e]; exact V'
  · show qY n S (m_puts w (nI t) 10 (gA w 201 + x2)) tra len frm tto wei fit way rid lon cel
    rw [e]; exact Y.aF F H.g W.g
theorem ea_start (V : rV n S w shu lks rk sta he lkd pk sea row bus ph sp ce du ri cm lf pfa pev prs prr mi us pms pmm pmt pst pwa) (Y : qY n S w tra len frm tto wei fit way rid lon cel) (hl : sta.length = 5) (x1 x2 : Int32) :
    eA (x_astart sta ph (nI n) sst x1 x2).1 (x_astart sta ph (nI n) sst x1 x2).2.1 (x_astart sta ph (nI n) sst x1 x2).2.2.2 (m_start th sst' acs w kp x1 x2) acs kp w ((x_astart sta ph (nI n) sst x1 x2).2.2.1 = sta) (fun w' => (x_astart sta ph (nI n) sst x1 x2).2.2.1.length = 5 ∧ rV n S w' shu lks rk (x_astart sta ph (nI n) sst x1 x2).2.2.1 he lkd pk sea row bus ph sp ce du ri cm lf pfa pev prs prr mi us pms pmm pmt pst pwa ∧ qY n S w' tra len frm tto wei fit way rid lon cel) := by
  have H := V.1
  have h5 := H.n5
  have O := V.2.2.1
  unfold x_astart m_start
  rw [g_within, g_train H.g]
  by_cases c1 : m_isFrom x2 0 199 = 0
  · rw [if_pos c1, if_pos c1]; exact ⟨rfl, rfl, Or.inl ⟨rfl, rfl, rfl⟩⟩
  rw [if_neg c1, if_neg c1]
  by_cases c2 : m_isTrain w x1 = 0
  · rw [if_pos c2, if_pos c2]; exact ⟨rfl, rfl, Or.inl ⟨rfl, rfl, rfl⟩⟩
  rw [if_neg c2, if_neg c2]
  obtain ⟨t, ht, rfl⟩ := (isTrain_n H.g).mp c2
  rw [gA_n (l := ph) (by omega), V.2.1.1.pph ht, m_of6 (by omega), gA_n (l := sta) (by omega), (O.2.2.1 t ht).1, m_of3 (by omega)]
  by_cases c4 : ft w t 3 = x2
  · rw [if_pos c4, if_pos c4]; exact ⟨rfl, rfl, Or.inl ⟨rfl, rfl, rfl⟩⟩
  rw [if_neg c4, if_neg c4]
  by_cases c3 : ft w t 6 = 0
  · rw [if_pos c3, if_pos c3]
    have e : m_puts w (nI t) 3 x2 = w.set (56 + 28 * t + 3) x2 := m_puts3 (by omega)
    have hx : aX (56 + 28 * t + 3) := Or.inl ⟨t, by omega, by omega⟩
    have F := aF.set (x := x2) H.len hx
    have W : wf n S (w.set (56 + 28 * t + 3) x2) := H.set (by
      unfold wU
      rintro (q | ⟨u, k, q1, q2, q3⟩ | q | q | q | q | q | q | q) <;> omega)
    have es : sA sta (nI t) x2 = sta.set t x2 := sA_n (by omega)
    have g9 : ∀ u k, u < n → k < 28 → ¬ (u = t ∧ k = 3) → ft (w.set (56 + 28 * t + 3) x2) u k = ft w u k := fun u k hu hk hne => gN_ne (by omega)
    have V' := V.aF F W (V.2.1.2.2.2.1.aF F h5 (fun u hu => g9 u 9 hu (by decide) (by omega))) (O.set F h5 (fun j _ _ => gN_ne (by omega)) (fun j _ _ => gN_ne (by omega)) (H.qlk O) (set_5 (l := sta) (x := x2) (by omega) (g := fun u => ft (w.set (56 + 28 * t + 3) x2) u 3) (f := fun u => ft w u 3) ht (fun u hu => (O.2.2.1 u hu).1) (fun u hu hne => g9 u 3 hu (by decide) (by omega)) (gN_eq (by have := H.len; omega))) (fun u hu => by rw [g9 u 10 hu (by decide) (by omega)]; exact (O.2.2.1 u hu).2)) (rU.frame V.2.2.2.1 (fun s k _ _ => gN_ne (by omega)))
    refine ⟨rfl, rfl, Or.inr ⟨rfl, rfl, rfl, ?_, ?_, ?_⟩⟩
    · show (sA sta (nI t) x2).length = 5
      rw [es, List.length_set]; exact hl
    · show rV n S (m_puts w (nI t) 3 x2) shu lks rk (sA sta (nI t) x2) he lkd pk sea row bus ph sp ce du ri cm lf pfa pev prs prr mi us pms pmm pmt pst pwa
      rw [es, e]; exact V'
    · show qY n S (m_puts w (nI t) 3 x2) tra len frm tto wei fit way rid lon cel
      rw [e]; exact Y.aF F H.g W.g
  · rw [if_neg c3, if_neg c3]; exact ⟨rfl, rfl, Or.inl ⟨rfl, rfl, rfl⟩⟩
theorem ea_stall (V : rV n S w shu lks rk sta he lkd pk sea row bus ph sp ce du ri cm lf pfa pev prs prr mi us pms pmm pmt pst pwa) (Y : qY n S w tra len frm tto wei fit way rid lon cel) (x1 x2 : Int32) :
    eA (x_astall ph du (nI n) sst x1 x2).1 (x_astall ph du (nI n) sst x1 x2).2.1 (x_astall ph du (nI n) sst x1 x2).2.2.2 (m_stall th sst' acs w kp x1 x2) acs kp w ((x_astall ph du (nI n) sst x1 x2).2.2.1 = du) (fun w' => rV n S w' shu lks rk sta he lkd pk sea row bus ph sp ce (x_astall ph du (nI n) sst x1 x2).2.2.1 ri cm lf pfa pev prs prr mi us pms pmm pmt pst pwa ∧ qY n S w' tra len frm tto wei fit way rid lon cel) := by
  have H := V.1
  have h5 := H.n5
  have O := V.2.2.1
  have D := V.2.1.2.2.2.1
  unfold x_astall m_stall
  rw [g_within, g_train H.g]
  by_cases c1 : m_isFrom x2 1 99 = 0
  · rw [if_pos c1, if_pos c1]; exact ⟨rfl, rfl, Or.inl ⟨rfl, rfl, rfl⟩⟩
  rw [if_neg c1, if_neg c1]
  by_cases c2 : m_isTrain w x1 = 0
  · rw [if_pos c2, if_pos c2]; exact ⟨rfl, rfl, Or.inl ⟨rfl, rfl, rfl⟩⟩
  rw [if_neg c2, if_neg c2]
  obtain ⟨t, ht, rfl⟩ := (isTrain_n H.g).mp c2
  rw [gA_n (l := ph) (by omega), V.2.1.1.pph ht, m_of6 (by omega)]
  by_cases c3 : ft w t 6 = 2
  · rw [if_pos c3, if_pos c3]
    have e0 : gA du (nI t) = ft w t 9 := by rw [gA_n (by omega), D.2 t ht c3]
    rw [e0, m_of9 (by omega)]
    have e : m_puts w (nI t) 9 (ft w t 9 + x2) = w.set (56 + 28 * t + 9) (ft w t 9 + x2) := m_puts9 (by omega)
    have hx : aX (56 + 28 * t + 9) := Or.inl ⟨t, by omega, by omega⟩
    have F := aF.set (x := ft w t 9 + x2) H.len hx
    have W : wf n S (w.set (56 + 28 * t + 9) (ft w t 9 + x2)) := H.set (by
      unfold wU
      rintro (q | ⟨u, k, q1, q2, q3⟩ | q | q | q | q | q | q | q) <;> omega)
    have es : sA du (nI t) (ft w t 9 + x2) = du.set t (ft w t 9 + x2) := sA_n (by omega)
    have g9 : ∀ u k, u < n → k < 28 → ¬ (u = t ∧ k = 9) → ft (w.set (56 + 28 * t + 9) (ft w t 9 + x2)) u k = ft w u k := fun u k hu hk hne => gN_ne (by omega)
    have gt : ft (w.set (56 + 28 * t + 9) (ft w t 9 + x2)) t 9 = ft w t 9 + x2 := gN_eq (by have := H.len; omega)
    have D' : rD n (w.set (56 + 28 * t + 9) (ft w t 9 + x2)) (du.set t (ft w t 9 + x2)) := by
      refine ⟨by rw [List.length_set]; exact D.1, fun u hu h6 => ?_⟩
      rw [g9 u 6 hu (by decide) (by omega)] at h6
      by_cases q : u = t
      · rw [q, gt, gN_eq (by have := D.1; omega)]
      · rw [g9 u 9 hu (by decide) (by omega), gN_ne (fun z => q z.symm)]
        exact D.2 u hu h6
    have V' := V.aF F W D' (O.set F h5 (fun j _ _ => gN_ne (by omega)) (fun j _ _ => gN_ne (by omega)) (H.qlk O) (fun u hu => by rw [g9 u 3 hu (by decide) (by omega)]; exact (O.2.2.1 u hu).1) (fun u hu => by rw [g9 u 10 hu (by decide) (by omega)]; exact (O.2.2.1 u hu).2)) (rU.frame V.2.2.2.1 (fun s k _ _ => gN_ne (by omega)))
    refine ⟨?_, rfl, Or.inr ⟨rfl, rfl, rfl, ?_, ?_⟩⟩
    · show gA (sA du (nI t) (ft w t 9 + x2)) (nI t) = m_of (m_puts w (nI t) 9 (ft w t 9 + x2)) (nI t) 9
      rw [es, e, gA_n (by omega), gN_eq (by have := D.1; omega), m_of9 (by omega), gt]
    · show rV n S (m_puts w (nI t) 9 (ft w t 9 + x2)) shu lks rk sta he lkd pk sea row bus ph sp ce (sA du (nI t) (ft w t 9 + x2)) ri cm lf pfa pev prs prr mi us pms pmm pmt pst pwa
      rw [es, e]; exact V'
    · show qY n S (m_puts w (nI t) 9 (ft w t 9 + x2)) tra len frm tto wei fit way rid lon cel
      rw [e]; exact Y.aF F H.g W.g
  · rw [if_neg c3, if_neg c3]; exact ⟨rfl, rfl, Or.inl ⟨rfl, rfl, rfl⟩⟩
end AF

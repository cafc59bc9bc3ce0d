/-! what the forecasts write: HELD, START, ranks that change places, a track more -/
section FO
variable {n S : Nat} {w w' ph sp ce ri du cm lf pfa prs prr tra len frm tto wei fit way rid lon rk sta he lkd sea row us pms pmm pmt pst pwa rk' : List Int32} {shu bus cel mi pk pev lks : Int32} {t : Nat}
abbrev aG (w' w : List Int32) : Prop := aF w' w
theorem aG_set {i : Nat} {x : Int32} (hl : w.length = 602) (h : aX i) : aG (w.set i x) w := aF.set hl h
theorem wf.sHeld (H : wf n S w) (ht : t < n) (x : Int32) : wf n S (w.set (56 + 28 * t + 10) x) := by
  have h5 := H.n5
  exact H.set (by
    unfold wU
    rintro (q | ⟨u, k, q1, q2, q3⟩ | q | q | q | q | q | q | q) <;> omega)
theorem wf.sStart (H : wf n S w) (ht : t < n) (x : Int32) : wf n S (w.set (56 + 28 * t + 3) x) := by
  have h5 := H.n5
  exact H.set (by
    unfold wU
    rintro (q | ⟨u, k, q1, q2, q3⟩ | q | q | q | q | q | q | q) <;> omega)
theorem rV.sHeld (V : rV n S w shu lks rk sta he lkd pk sea row bus ph sp ce du ri cm lf pfa pev prs prr mi us pms pmm pmt pst pwa) (hl : he.length = 5) (ht : t < n) (x : Int32) : rV n S (w.set (56 + 28 * t + 10) x) shu lks rk sta (he.set t x) lkd pk sea row bus ph sp ce du ri cm lf pfa pev prs prr mi us pms pmm pmt pst pwa := by
  have H := V.1
  have h5 := H.n5
  have O := V.2.2.1
  have F : aG (w.set (56 + 28 * t + 10) x) w := aG_set H.len (Or.inl ⟨t, by omega, by omega⟩)
  have g9 : ∀ u k, u < n → k < 28 → ¬ (u = t ∧ k = 10) → ft (w.set (56 + 28 * t + 10) x) u k = ft w u k := fun u k hu hk hne => gN_ne (by omega)
  exact V.aF F (H.sHeld ht x) (V.2.1.2.2.2.1.aF F h5 (fun u hu => g9 u 9 hu (by decide) (by omega))) (O.set F h5 (fun j _ _ => gN_ne (by omega)) (fun j _ _ => gN_ne (by omega)) (H.qlk O) (fun u hu => by rw [g9 u 3 hu (by decide) (by omega)]; exact (O.2.2.1 u hu).1) (set_5 (l := he) (x := x) (by omega) (g := fun u => ft (w.set (56 + 28 * t + 10) x) u 10) (f := fun u => ft w u 10) ht (fun u hu => (O.2.2.1 u hu).2) (fun u hu hne => g9 u 10 hu (by decide) (by omega)) (gN_eq (by have := H.len; omega)))) (rU.frame V.2.2.2.1 (fun s k _ _ => gN_ne (by omega)))
theorem rV.sStart (V : rV n S w shu lks rk sta he lkd pk sea row bus ph sp ce du ri cm lf pfa pev prs prr mi us pms pmm pmt pst pwa) (hl : sta.length = 5) (ht : t < n) (x : Int32) : rV n S (w.set (56 + 28 * t + 3) x) shu lks rk (sta.set t x) he lkd pk sea row bus ph sp ce du ri cm lf pfa pev prs prr mi us pms pmm pmt pst pwa := by
  have H := V.1
  have h5 := H.n5
  have O := V.2.2.1
  have F : aG (w.set (56 + 28 * t + 3) x) w := aG_set H.len (Or.inl ⟨t, by omega, by omega⟩)
  have g9 : ∀ u k, u < n → k < 28 → ¬ (u = t ∧ k = 3) → ft (w.set (56 + 28 * t + 3) x) u k = ft w u k := fun u k hu hk hne => gN_ne (by omega)
  exact V.aF F (H.sStart ht x) (V.2.1.2.2.2.1.aF F h5 (fun u hu => g9 u 9 hu (by decide) (by omega))) (O.set F h5 (fun j _ _ => gN_ne (by omega)) (fun j _ _ => gN_ne (by omega)) (H.qlk O) (set_5 (l := sta) (x := x) (by omega) (g := fun u => ft (w.set (56 + 28 * t + 3) x) u 3) (f := fun u => ft w u 3) ht (fun u hu => (O.2.2.1 u hu).1) (fun u hu hne => g9 u 3 hu (by decide) (by omega)) (gN_eq (by have := H.len; omega))) (fun u hu => by rw [g9 u 10 hu (by decide) (by omega)]; exact (O.2.2.1 u hu).2)) (rU.frame V.2.2.2.1 (fun s k _ _ => gN_ne (by omega)))
/-- the trial keeps no past; its rows of safety are its own -/
theorem rV.trial {sea' row' pfa' prs' prr' pms' pmm' pmt' pst' pwa' : List Int32} {pev' : Int32} (V : rV n S w shu lks rk sta he lkd pk sea row bus ph sp ce du ri cm lf pfa pev prs prr mi us pms pmm pmt pst pwa) (h1 : sea'.length = 5) (h2 : row'.length = 5) : rV n S w shu lks rk sta he lkd 0 sea' row' bus ph sp ce du ri cm lf pfa' pev' prs' prr' mi us pms' pmm' pmt' pst' pwa' := by
  obtain ⟨H, ⟨P, B, I, D, C, N, -⟩, O, U, K, -, T, -, -⟩ := V
  exact ⟨H, ⟨P, B, I, D, C, N, Or.inl rfl⟩, O, U, K, Or.inl rfl, T, h1, h2⟩
/-! ranks -/
theorem rank_at (H : wf n S w) (ht : t < n) : ∃ i, i < n ∧ m_rankOf w (nI t) = nI i ∧ gN w (196 + i) = nI t := by
  have h5 := H.n5
  obtain ⟨k, hk, he⟩ := H.R.2.1 t ht
  have hj : ∀ j, 0 ≤ j → j < k → ¬ gN w (196 + j) = nI t := fun j _ hj z => by
    have := H.R.2.2 j k (by omega) hk (by rw [z, he])
    omega
  exact ⟨k, hk, rk_m_l (by omega) he 4 0 (by omega) (by omega) hj, he⟩
theorem sw_gN {i j : Nat} {a b : Int32} (hl : w.length = 602) (hi : i < 5) (hj : j < 5) (k : Nat) : gN ((w.set (196 + i) b).set (196 + j) a) (196 + k) = if k = j then a else if k = i then b else gN w (196 + k) := by
  by_cases c : k = j
  · rw [if_pos c, c, gN_eq (by rw [List.length_set]; omega)]
  · rw [if_neg c, gN_ne (by omega)]
    by_cases d : k = i
    · rw [if_pos d, d, gN_eq (by omega)]
    · rw [if_neg d, gN_ne (by omega)]
theorem wRk.swap (R : wRk n w) (h5 : n ≤ 5) (hl : w.length = 602) {i j a b : Nat} (hi : i < n) (hj : j < n) (ha : gN w (196 + i) = nI a) (hb : gN w (196 + j) = nI b) (han : a < n) (hbn : b < n) (hab : a ≠ b) : wRk n ((w.set (196 + i) (nI b)).set (196 + j) (nI a)) := by
  have g := fun k => sw_gN (w := w) (a := nI a) (b := nI b) hl (i := i) (j := j) (by omega) (by omega) k
  have hij : i ≠ j := fun e => hab ((nI_eq (by omega) (by omega)).mp (by rw [← ha, ← hb, e]))
  refine ⟨fun k hk => ?_, fun u hu => ?_, fun k l hk hl' e => ?_⟩
  · rw [g k]
    split
    · exact ⟨a, han, rfl⟩
    · split
      · exact ⟨b, hbn, rfl⟩
      · exact R.1 k hk
  · by_cases e1 : u = a
    · exact ⟨j, hj, by rw [g j, if_pos rfl, e1]⟩
    · by_cases e2 : u = b
      · exact ⟨i, hi, by rw [g i, if_neg hij, if_pos rfl, e2]⟩
      · obtain ⟨k, hk, hx⟩ := R.2.1 u hu
        refine ⟨k, hk, ?_⟩
        rw [g k, if_neg (fun z => e2 ((nI_eq (by omega) (by omega)).mp (by rw [← hx, z, hb]))), if_neg (fun z => e1 ((nI_eq (by omega) (by omega)).mp (by rw [← hx, z, ha]))), hx]
  · rw [g k, g l] at e
    have key : ∀ k, k < n → k ≠ j → k ≠ i → gN w (196 + k) ≠ nI a ∧ gN w (196 + k) ≠ nI b := fun k hk h1 h2 =>
      ⟨fun z => h2 (R.2.2 k i hk hi (by rw [z, ha])), fun z => h1 (R.2.2 k j hk hj (by rw [z, hb]))⟩
    have nab : nI a ≠ nI b := fun z => hab ((nI_eq (by omega) (by omega)).mp z)
    by_cases k1 : k = j
    · rw [if_pos k1] at e
      by_cases l1 : l = j
      · omega
      · rw [if_neg l1] at e
        by_cases l2 : l = i
        · rw [if_pos l2] at e; exact absurd e nab
        · rw [if_neg l2] at e; exact absurd e.symm (key l hl' l1 l2).1
    · rw [if_neg k1] at e
      by_cases k2 : k = i
      · rw [if_pos k2] at e
        by_cases l1 : l = j
        · rw [if_pos l1] at e; exact absurd e.symm nab
        · rw [if_neg l1] at e
          by_cases l2 : l = i
          · omega
          · rw [if_neg l2] at e; exact absurd e.symm (key l hl' l1 l2).2
      · rw [if_neg k2] at e
        by_cases l1 : l = j
        · rw [if_pos l1] at e; exact absurd e (key k hk k1 k2).1
        · rw [if_neg l1] at e
          by_cases l2 : l = i
          · rw [if_pos l2] at e; exact absurd e (key k hk k1 k2).2
          · rw [if_neg l2] at e; exact R.2.2 k l hk hl' e
/-- only ranks are written -/
theorem rV.ranks (V : rV n S w shu lks rk sta he lkd pk sea row bus ph sp ce du ri cm lf pfa pev prs prr mi us pms pmm pmt pst pwa) (hl : w'.length = 602) (h : ∀ j, ¬ (196 ≤ j ∧ j < 201) → gN w' j = gN w j) (R : wRk n w') (hr : ∀ k, k < n → gN rk' k = gN w' (196 + k)) : rV n S w' shu lks rk' sta he lkd pk sea row bus ph sp ce du ri cm lf pfa pev prs prr mi us pms pmm pmt pst pwa := by
  have H := V.1
  have h5 := H.n5
  have O := V.2.2.1
  have F : aG w' w := ⟨hl, fun j hj => h j (fun z => hj (Or.inr (Or.inl z)))⟩
  have W : wf n S w' := H.aF F (fun s k hs hk => by
    rw [show fs w' s (5 + k) = fs w s (5 + k) from h _ (by omega)]
    exact (H.St hs).2.2 k hk) R (by
    obtain ⟨m, g1, g2, g3⟩ := H.L
    refine ⟨m, g1, by rw [h 296 (by omega)]; exact g2, fun j hj => ?_⟩
    obtain ⟨a, b, q, g4, g5, g6, g7, g8, g9, g10⟩ := g3 j hj
    exact ⟨a, b, q, g4, g5, g6, g7, by rw [h _ (by omega)]; exact g8, by rw [h _ (by omega)]; exact g9, by rw [h _ (by omega)]; exact g10⟩)
  have f : ∀ u k, ft w' u k = ft w u k ∨ ¬ u < 5 ∨ ¬ k < 28 := fun u k => by
    by_cases a : u < 5
    · by_cases b : k < 28
      · exact Or.inl (h _ (by omega))
      · exact Or.inr (Or.inr b)
    · exact Or.inr (Or.inl a)
  refine V.aF F W (V.2.1.2.2.2.1.aF F h5 (fun u hu => h _ (by omega))) ⟨?_, hr, fun u hu => ?_, ?_, fun i hi => ?_⟩ (rU.frame V.2.2.2.1 (fun s k hs hk => h _ (by omega)))
  · rw [h 201 (by omega)]; exact O.1
  · rw [show ft w' u 3 = ft w u 3 from h _ (by omega), show ft w' u 10 = ft w u 10 from h _ (by omega)]
    exact O.2.2.1 u hu
  · rw [h 296 (by omega)]; exact O.2.2.2.1
  · have := H.qlk O
    rw [h _ (by omega)]; exact O.2.2.2.2 i hi
/-- two trains change places -/
theorem rV.swap {q : Nat} (V : rV n S w shu lks rk sta he lkd pk sea row bus ph sp ce du ri cm lf pfa pev prs prr mi us pms pmm pmt pst pwa) (ht : t < n) (hq : q < n) (htq : t ≠ q) (hr : ∀ k, k < n → gN rk' k = if gN rk k = nI t then nI q else if gN rk k = nI q then nI t else gN rk k) : rV n S (sA (sA w (196 + m_rankOf w (nI t)) (nI q)) (196 + m_rankOf w (nI q)) (nI t)) shu lks rk' sta he lkd pk sea row bus ph sp ce du ri cm lf pfa pev prs prr mi us pms pmm pmt pst pwa := by
  have H := V.1
  have h5 := H.n5
  have hlw := H.len
  obtain ⟨i, hi, e1, e2⟩ := rank_at H ht
  obtain ⟨j, hj, e3, e4⟩ := rank_at H hq
  rw [e1, e3, show (196 : Int32) + nI i = nI (196 + i) from nI_add 196 i, show (196 : Int32) + nI j = nI (196 + j) from nI_add 196 j, sA_n (by omega), sA_n (by omega)]
  refine V.ranks (by rw [List.length_set, List.length_set]; exact hlw) (fun k hk => ?_) (H.R.swap h5 hlw hi hj e2 e4 ht hq htq) (fun k hk => ?_)
  · rw [gN_ne (by omega), gN_ne (by omega)]
  · have O := V.2.2.1.2.1 k hk
    rw [hr k hk, O, sw_gN hlw (by omega) (by omega)]
    by_cases c1 : k = j
    · rw [if_pos c1, c1, e4, if_neg (fun z => htq ((nI_eq (by omega) (by omega)).mp z).symm), if_pos rfl]
    · rw [if_neg c1]
      by_cases c2 : k = i
      · rw [if_pos c2, c2, e2, if_pos rfl]
      · rw [if_neg c2, if_neg (fun z => c2 (H.R.2.2 k i hk hi (by rw [z, e2]))), if_neg (fun z => c1 (H.R.2.2 k j hk hj (by rw [z, e4])))]
/-! a track more -/
theorem addT_n (H : wf n S w) {s : Nat} (hs : s < 7) (hm : mN w s < 3) (x : Int32) : m_addTrack w (nI s) x = (w.set (8 * s + 2 + mN w s) x).set (8 * s + 1) (nI (mN w s + 1)) := by
  have hlw := H.len
  unfold m_addTrack
  have e1 : (8 : Int32) * nI s + 2 + m_st w (nI s) 1 = nI (8 * s + 2 + mN w s) := by
    rw [m_st1 (by omega), (H.St hs).1]
    show nI 8 * nI s + nI 2 + _ = _
    rw [nI_mul, nI_add, nI_add]
  have e2 : (8 : Int32) * nI s + 1 = nI (8 * s + 1) := by
    show nI 8 * nI s + nI 1 = _
    rw [nI_mul, nI_add]
  rw [e1, e2, sA_n (by omega), sA_n (by omega), gA_n (by omega), gN_ne (by omega), show gN w (8 * s + 1) = nI (mN w s) from (H.St hs).1, nI_1]
theorem wf.track (H : wf n S w) {s : Nat} (hs : s < 7) (hm : mN w s < 3) (hl : w'.length = 602) (h1 : gN w' (8 * s + 1) = nI (mN w s + 1)) (h : ∀ j, j ≠ 8 * s + 1 → j ≠ 8 * s + 2 + mN w s → gN w' j = gN w j) : wf n S w' := by
  have h5 := H.n5
  have hS := H.S7
  have hj : ∀ j, 56 ≤ j → gN w' j = gN w j := fun j a => h j (by omega) (by omega)
  have em : ∀ r, r < 7 → r ≠ s → mN w' r = mN w r := fun r hr hne => congrArg nV (h _ (by omega) (by omega))
  have es : mN w' s = mN w s + 1 := by
    show nV (gN w' (8 * s + 1)) = _
    rw [h1, nV_n (by omega)]
  have mono : ∀ r, r < 7 → mN w r ≤ mN w' r := fun r hr => by
    by_cases c : r = s
    · rw [c, es]; omega
    · rw [em r hr c]; exact Nat.le_refl _
  have p : ∀ u, sP w' w u := fun u k hk => hj _ (by omega)
  refine ⟨⟨hl, (hj 203 (by omega)).trans H.A.2.1, h5, (hj 202 (by omega)).trans H.A.2.2.2.1, hS⟩, fun r hr => ?_, fun u hu => ?_, ⟨fun a b ha hb hab hc => ?_, fun a b ha hb hab g1 g2 => ?_⟩, H.R.same h5 (fun j a _ => hj j (by omega)), ⟨?_, fun k hk => ?_⟩, ?_, fun k hk => ?_⟩
  · by_cases c : r = s
    · rw [c]
      refine ⟨by rw [es]; exact h1, by omega, fun k hk => ?_⟩
      rw [show fs w' s (5 + k) = fs w s (5 + k) from h _ (by omega) (by omega)]
      exact (H.St hs).2.2 k hk
    · refine ⟨?_, by rw [em r hr c]; exact (H.St hr).2.1, fun k hk => ?_⟩
      · rw [em r hr c, show fs w' r 1 = fs w r 1 from h _ (by omega) (by omega)]; exact (H.St hr).1
      · rw [show fs w' r (5 + k) = fs w r (5 + k) from h _ (by omega) (by omega)]
        exact (H.St hr).2.2 k hk
  · have z := p u
    have hT := H.T hu
    have hn7 : ft w u 6 = 2 → nxT w u < 7 := fun e => by
      have := ((hT.next hS (by omega) (Or.inr e))).2.2.1
      omega
    obtain ⟨a1, a2, a3, a4, a5, a6, a7, a8, a9⟩ := hT
    unfold wTr
    rw [z.qfR, z.qtO, z.qaT, z.qkT, z.qnX, z.qonW, z 1 (by decide), z 2 (by decide), z 6 (by decide), z 7 (by decide), z 8 (by decide)]
    refine ⟨a1, a2, a3, a4, a5, a6, a7, fun e => ?_, fun e => ?_⟩
    · have := a8 e
      have := mono (atT w u) (by have := (a5 (by rw [e]; decide)).2; omega)
      exact ⟨(a8 e).1, by omega⟩
    · rcases a9 e with g | ⟨g1, g2, g3⟩
      · exact Or.inl g
      · have := mono _ (hn7 e)
        exact Or.inr ⟨g1, g2, by omega⟩
  · rw [(p a).qcL] at hc ⊢
    rw [(p b).qcL]
    exact H.D.1 a b ha hb hab hc
  · rw [(p a) 6 (by decide)] at g1
    rw [(p b) 6 (by decide)] at g2
    rw [(p a).qsC, (p b).qsC]
    exact H.D.2 a b ha hb hab g1 g2
  · rw [hj 309 (by omega), H.E.1, sumN_congr (f' := eV w') (fun u _ => (p u).qeV)]
  · rw [hj _ (by omega), H.E.2 k hk, sumN_congr (f' := gV w' k) (fun u _ => (p u).qgV k)]
  · obtain ⟨m, g1, g2, g3⟩ := H.L
    refine ⟨m, g1, by rw [hj 296 (by omega)]; exact g2, fun k hk => ?_⟩
    obtain ⟨a, b, q, g4, g5, g6, g7, g8, g9, g10⟩ := g3 k hk
    exact ⟨a, b, q, g4, g5, g6, g7, by rw [hj _ (by omega)]; exact g8, by rw [hj _ (by omega)]; exact g9, by rw [hj _ (by omega)]; exact g10⟩
  · rw [hj _ (by omega), hj _ (by omega)]
    exact H.P k hk
/-- only what stations tell but SHUT is written -/
theorem rV.stat (V : rV n S w shu lks rk sta he lkd pk sea row bus ph sp ce du ri cm lf pfa pev prs prr mi us pms pmm pmt pst pwa) (W : wf n S w') (hj : ∀ j, 56 ≤ j → gN w' j = gN w j) (hs : ∀ s k, s < 7 → k < 3 → fs w' s (5 + k) = fs w s (5 + k)) : rV n S w' shu lks rk sta he lkd pk sea row bus ph sp ce du ri cm lf pfa pev prs prr mi us pms pmm pmt pst pwa := by
  obtain ⟨H, ⟨P, B, I, D, C, N, G⟩, O, U, K, Q, T, l1, l2⟩ := V
  have h5 := H.n5
  have f : ∀ u k, ft w' u k = ft w u k := fun u k => hj _ (by omega)
  have p : ∀ u, sP w' w u := fun u k _ => f u k
  refine ⟨W, ⟨⟨P.1, fun t ht => ?_⟩, fun c hc => ?_, ⟨I.1, fun k hk => ?_⟩, ⟨D.1, fun t ht h6 => ?_⟩, ⟨C.1, fun t s ht hs => ?_⟩, fun t ht h6 => ?_, ?_⟩, ⟨?_, fun k hk => ?_, fun t ht => ?_, ?_, fun i hi => ?_⟩, rU.frame U hs, ⟨K.1, fun k hk => ?_⟩, ?_, fun t ht h6 h7 => ?_, l1, l2⟩
  · rw [f, f, (p t).qcL]; exact P.2 t ht
  · rw [B c hc]
    constructor
    · rintro ⟨t, ht, e⟩; exact ⟨t, ht, by rw [(p t).qcL]; exact e⟩
    · rintro ⟨t, ht, e⟩; exact ⟨t, ht, by rw [(p t).qcL] at e; exact e⟩
  · rw [I.2 k hk]
    refine fnd_congr (fun t _ _ => ?_)
    unfold onS
    rw [f, (p t).qsC]
  · rw [f] at h6 ⊢; exact D.2 t ht h6
  · rw [f, f]; exact C.2 t s ht hs
  · rw [f] at h6
    rw [(p t).qtO, f, f]; exact N t ht h6
  · rcases G with G | ⟨g1, ⟨e, g2, g3, g4, g5⟩, g6⟩
    · exact Or.inl G
    · refine Or.inr ⟨g1, ⟨e, g2, by rw [hj 309 (by omega)]; exact g3, g4, fun i hi => by rw [hj _ (by omega)]; exact g5 i hi⟩, fun k hk => ?_⟩
      obtain ⟨g, a1, a2, a3, a4⟩ := g6 k hk
      exact ⟨g, a1, by rw [hj _ (by omega)]; exact a2, a3, fun j hj' => by rw [hj _ (by omega)]; exact a4 j hj'⟩
  · rw [hj 201 (by omega)]; exact O.1
  · rw [hj _ (by omega)]; exact O.2.1 k hk
  · rw [f, f]; exact O.2.2.1 t ht
  · rw [hj 296 (by omega)]; exact O.2.2.2.1
  · rw [hj _ (by omega)]; exact O.2.2.2.2 i hi
  · rw [hj _ (by omega)]; exact K.2 k hk
  · rcases Q with Q | ⟨q1, q2, q3, q4⟩
    · exact Or.inl Q
    · refine Or.inr ⟨q1, fun k hk => ?_, fun s hs => ?_, fun t ht => ?_⟩
      · rw [hj _ (by omega), hj _ (by omega), hj _ (by omega)]; exact q2 k hk
      · rw [hj _ (by omega)]; exact q3 s hs
      · rw [f]; exact q4 t ht
  · rw [f] at h6
    rw [(p t).qaT, (p t).qfR] at h7
    rw [(p t).qfR, f, hj 201 (by omega)]
    exact T t ht h6 h7
theorem wf.addTrack (H : wf n S w) {s : Nat} (hs : s < 7) (hm : mN w s < 3) (x : Int32) : wf n S (m_addTrack w (nI s) x) ∧ (∀ j, 56 ≤ j → gN (m_addTrack w (nI s) x) j = gN w j) ∧ ∀ r k, r < 7 → k < 3 → fs (m_addTrack w (nI s) x) r (5 + k) = fs w r (5 + k) := by
  have hlw := H.len
  rw [addT_n H hs hm]
  refine ⟨H.track hs hm (by rw [List.length_set, List.length_set]; exact hlw) (gN_eq (by rw [List.length_set]; omega)) (fun j a b => by rw [gN_ne (by omega), gN_ne (by omega)]), fun j hj => by rw [gN_ne (by omega), gN_ne (by omega)], fun r k hr hk => ?_⟩
  show gN _ _ = gN _ _
  rw [gN_ne (by omega), gN_ne (by omega)]
/-! what the forecasts want -/
theorem mTrk (H : wf n S w) {s : Nat} (hs : s < S) (h3 : ¬ m_st w (nI s) 1 = 3) : mN w s < 3 := by
  have hS := H.S7
  have hw := H.St (s := s) (by omega)
  rw [m_st1 (by omega), hw.1] at h3
  have : mN w s ≠ 3 := fun z => h3 (by rw [z]; rfl)
  have := hw.2.1
  omega
theorem sh_i {s i : Nat} : (8 : Int32) * nI s + 5 + nI i = nI (8 * s + (5 + i)) := by
  show nI 8 * nI s + nI 5 + nI i = _
  rw [nI_mul, nI_add, nI_add]
  congr 1
  omega
theorem wf.sShut (H : wf n S w) {s k : Nat} (hs : s < 7) (hk : k < 3) {x : Int32} (hx : x = 0 ∨ x = 1) : wf n S (w.set (8 * s + (5 + k)) x) := by
  have h5 := H.n5
  have hlw := H.len
  have F : aG (w.set (8 * s + (5 + k)) x) w := aG_set hlw (Or.inr (Or.inr (Or.inr (by omega))))
  have ne : ∀ j, j ≠ 8 * s + (5 + k) → gN (w.set (8 * s + (5 + k)) x) j = gN w j := fun j hj => gN_ne (fun z => hj z.symm)
  have eq : gN (w.set (8 * s + (5 + k)) x) (8 * s + (5 + k)) = x := gN_eq (by omega)
  refine H.aF F (fun s' k' h1 h2 => ?_) (H.R.same h5 (fun j _ _ => ne j (by omega))) ?_
  · by_cases c : s' = s ∧ k' = k
    · rw [c.1, c.2, show fs (w.set (8 * s + (5 + k)) x) s (5 + k) = x from eq]; exact hx
    · rw [show fs (w.set (8 * s + (5 + k)) x) s' (5 + k') = fs w s' (5 + k') from ne _ (by omega)]
      exact (H.St h1).2.2 k' h2
  · obtain ⟨m, g1, g2, g3⟩ := H.L
    refine ⟨m, g1, by rw [ne 296 (by omega)]; exact g2, fun j hj => ?_⟩
    obtain ⟨a, b, q, g4, g5, g6, g7, g8, g9, g10⟩ := g3 j hj
    exact ⟨a, b, q, g4, g5, g6, g7, by rw [ne _ (by omega)]; exact g8, by rw [ne _ (by omega)]; exact g9, by rw [ne _ (by omega)]; exact g10⟩
theorem wf.Iv2 : m_Iv2 n (wf n S) := by
  refine ⟨fun w i hi H => (isTrain_n H.g).mpr ⟨i, hi, rfl⟩, fun w i H h31 hi => ?_, fun w t x H ht hx => ?_, fun w t q H ht hq htq => ?_, fun w t i H ht h6 hi => ?_, fun w s x H hs h3 hx => ?_, fun w s i H hs h31 hi => ?_, fun w s i H hs h31 hi h1 => ?_⟩
  · have hS := H.S7
    rw [H.gs, nI_ltI (by omega) (by omega)] at hi
    exact (stat_n H.g).mpr ⟨i, hi, rfl⟩
  · replace ht := (isTrain_n H.g).mp ht
    obtain ⟨t, ht, rfl⟩ := ht
    have h5 := H.n5
    rw [show m_puts w (nI t) 10 (gA w 201 + x) = w.set (56 + 28 * t + 10) (gA w 201 + x) from m_puts_n (k := 10) (by omega) (by decide)]
    exact H.sHeld ht _
  · replace ht := (isTrain_n H.g).mp ht
    obtain ⟨t, ht, rfl⟩ := ht
    replace hq := (isTrain_n H.g).mp hq
    obtain ⟨q, hq, rfl⟩ := hq
    have h5 := H.n5
    have hlw := H.len
    obtain ⟨i, hi, e1, e2⟩ := rank_at H ht
    obtain ⟨j, hj, e3, e4⟩ := rank_at H hq
    have htq' : t ≠ q := fun z => htq (by rw [z])
    rw [e1, e3, show (196 : Int32) + nI i = nI (196 + i) from nI_add 196 i, show (196 : Int32) + nI j = nI (196 + j) from nI_add 196 j, sA_n (by omega), sA_n (by omega)]
    have h : ∀ k, ¬ (196 ≤ k ∧ k < 201) → gN ((w.set (196 + i) (nI q)).set (196 + j) (nI t)) k = gN w k := fun k hk => by rw [gN_ne (by omega), gN_ne (by omega)]
    have R := H.R.swap h5 hlw hi hj e2 e4 ht hq htq'
    have hl : ((w.set (196 + i) (nI q)).set (196 + j) (nI t)).length = 602 := by rw [List.length_set, List.length_set]; exact hlw
    generalize (w.set (196 + i) (nI q)).set (196 + j) (nI t) = w' at h R hl
    refine H.aF ⟨hl, fun k hk => h k (fun z => hk (Or.inr (Or.inl z)))⟩ (fun s k hs hk => by
      rw [show fs w' s (5 + k) = fs w s (5 + k) from h _ (by omega)]
      exact (H.St hs).2.2 k hk) R ?_
    obtain ⟨m, g1, g2, g3⟩ := H.L
    refine ⟨m, g1, by rw [h 296 (by omega)]; exact g2, fun j hj => ?_⟩
    obtain ⟨a, b, q, g4, g5, g6, g7, g8, g9, g10⟩ := g3 j hj
    exact ⟨a, b, q, g4, g5, g6, g7, by rw [h _ (by omega)]; exact g8, by rw [h _ (by omega)]; exact g9, by rw [h _ (by omega)]; exact g10⟩
  · replace ht := (isTrain_n H.g).mp ht
    obtain ⟨t, ht, rfl⟩ := ht
    have h5 := H.n5
    rw [show m_puts w (nI t) 3 (nI i) = w.set (56 + 28 * t + 3) (nI i) from m_puts_n (k := 3) (by omega) (by decide)]
    exact H.sStart ht _
  · replace hs := (stat_n H.g).mp hs
    obtain ⟨s, hs, rfl⟩ := hs
    have hS := H.S7
    exact (H.addTrack (by omega) (mTrk H hs h3) x).1
  · replace hs := (stat_n H.g).mp hs
    obtain ⟨s, hs, rfl⟩ := hs
    have hS := H.S7
    have hw := H.St (s := s) (by omega)
    rw [m_st1 (by omega), hw.1, nI_ltI (by omega) (by have := hw.2.1; omega)] at hi
    have hm := hw.2.1
    rw [sh_i, sA_n (by omega)]
    exact (H.sShut (by omega) (by omega) (Or.inr rfl)).g.sfok
  · replace hs := (stat_n H.g).mp hs
    obtain ⟨s, hs, rfl⟩ := hs
    have hS := H.S7
    have hw := H.St (s := s) (by omega)
    rw [m_st1 (by omega), hw.1, nI_ltI (by omega) (by have := hw.2.1; omega)] at hi
    have hm := hw.2.1
    have hlw := H.len
    rw [m_st5 (by omega) (by omega)] at h1
    have h0 : fs w s (5 + i) = 0 := (hw.2.2 i (by omega)).resolve_right h1
    rw [sh_i, sA_n (by omega), sA_n (by omega)]
    refine gN_ext (by rw [List.length_set, List.length_set]) (fun j _ => ?_)
    by_cases c : j = 8 * s + (5 + i)
    · rw [c, gN_eq (by rw [List.length_set]; omega)]
      exact h0.symm
    · rw [gN_ne (fun z => c z.symm), gN_ne (fun z => c z.symm)]
end FO

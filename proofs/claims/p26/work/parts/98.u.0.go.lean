/-! a train tries its move -/
section TC
variable {n S : Nat} {w w' : List Int32} {ce : List Int32} {bus x2 : Int32} {t : Nat}
theorem take_B (hn : n ≤ 5) (D : wd1 n w) (B : qB n w bus) (ht : t < n) (hl : ce.length = 5) (hce : gN ce t = cI (cL w t)) (hct : cL w t = 99 ∨ cL w t < 21) (hw : ∀ u, u < n → u ≠ t → cL w' u = cL w u) (hx : x2 = cI (cL w' t)) (hct' : cL w' t = 99 ∨ cL w' t < 21) : (x_takeCell bus ce (nI t) x2).2 = ce.set t x2 ∧ qB n w' (x_takeCell bus ce (nI t) x2).1 := by
  have b1 : ∀ c, c < 32 → (tb (if cL w t < 21 then bus &&& ((1 <<< (nI (cL w t) &&& 31)) ^^^ (-1)) else bus) c = true ↔ ∃ u, u < n ∧ u ≠ t ∧ cL w u = c) := by
    intro c hc
    rcases hct with e | e
    · rw [if_neg (by omega), B c hc]
      constructor
      · rintro ⟨u, g1, g2⟩
        exact ⟨u, g1, fun q => by rw [q] at g2; omega, g2⟩
      · rintro ⟨u, g1, _, g2⟩
        exact ⟨u, g1, g2⟩
    · rw [if_pos e, tb_and, tb_not hc, tb_one (by omega) hc, Bool.and_eq_true_iff, B c hc, Bool.not_eq_true', decide_eq_false_iff_not]
      constructor
      · rintro ⟨⟨u, g1, g2⟩, g3⟩
        exact ⟨u, g1, fun q => by rw [q] at g2; exact g3 g2, g2⟩
      · rintro ⟨u, g1, g3, g2⟩
        exact ⟨⟨u, g1, g2⟩, fun q => D t u ht g1 (fun r => g3 r.symm) e (by omega)⟩
  have b2 : ∀ (y : Int32), (∀ c, c < 32 → (tb y c = true ↔ ∃ u, u < n ∧ u ≠ t ∧ cL w u = c)) → qB n w' (if cL w' t < 21 then y ||| (1 <<< (nI (cL w' t) &&& 31)) else y) := by
    intro y hy c hc
    rcases hct' with e | e
    · rw [if_neg (by omega), hy c hc]
      constructor
      · rintro ⟨u, g1, g2, g3⟩; exact ⟨u, g1, by rw [hw u g1 g2]; exact g3⟩
      · rintro ⟨u, g1, g3⟩
        have g2 : u ≠ t := fun q => by rw [q] at g3; omega
        exact ⟨u, g1, g2, by rw [← hw u g1 g2]; exact g3⟩
    · rw [if_pos e, tb_or, tb_one (by omega) hc, Bool.or_eq_true, hy c hc, decide_eq_true_iff]
      constructor
      · rintro (⟨u, g1, g2, g3⟩ | g)
        · exact ⟨u, g1, by rw [hw u g1 g2]; exact g3⟩
        · exact ⟨t, ht, g⟩
      · rintro ⟨u, g1, g3⟩
        by_cases q : u = t
        · rw [q] at g3; exact Or.inr g3
        · exact Or.inl ⟨u, g1, q, by rw [← hw u g1 q]; exact g3⟩
  have b3 := b2 _ b1
  unfold x_takeCell
  rw [gA_n (by omega), hce]
  have hx1 : cL w' t < 21 → ¬ x2 = -1 ∧ x2 = nI (cL w' t) := fun e => by
    rw [hx]; unfold cI; rw [if_pos e]; exact ⟨nI_nn (by omega), rfl⟩
  have hx9 : ¬ cL w' t < 21 → x2 = -1 := fun e => by
    rw [hx]; unfold cI; rw [if_neg e]
  by_cases c1 : cL w t < 21
  · rw [if_pos c1] at b3
    rw [show cI (cL w t) = nI (cL w t) from if_pos c1, if_neg (nI_nn (by omega))]
    dsimp only
    by_cases c2 : cL w' t < 21
    · rw [if_pos c2] at b3
      obtain ⟨g1, g2⟩ := hx1 c2
      rw [if_neg g1, sA_n (by omega), g2]
      exact ⟨rfl, b3⟩
    · rw [if_neg c2] at b3
      rw [if_pos (hx9 c2), sA_n (by omega)]
      exact ⟨rfl, b3⟩
  · rw [if_neg c1] at b3
    rw [show cI (cL w t) = -1 from if_neg c1, if_pos rfl]
    dsimp only
    by_cases c2 : cL w' t < 21
    · rw [if_pos c2] at b3
      obtain ⟨g1, g2⟩ := hx1 c2
      rw [if_neg g1, sA_n (by omega), g2]
      exact ⟨rfl, b3⟩
    · rw [if_neg c2] at b3
      rw [if_pos (hx9 c2), sA_n (by omega)]
      exact ⟨rfl, b3⟩
end TC
section LK
variable {n S : Nat} {w ph sp ce cm lf lkd rk sta he : List Int32} {mi lks : Int32}
theorem lnk (H : wf n S w) (O : rO n w mi lks rk sta he lkd) : ∃ m, m ≤ 4 ∧ lks = nI m ∧ gN w 296 = nI m ∧ ∀ k, k < m → ∃ t s q, t < n ∧ s < S ∧ q < n ∧ t ≠ q ∧ m_link0 w (nI k) 0 = nI t ∧ m_link0 w (nI k) 1 = nI s ∧ m_link0 w (nI k) 2 = nI q ∧ gA lkd (3 * nI k) = nI t ∧ gA lkd (3 * nI k + 1) = nI s ∧ gA lkd (3 * nI k + 2) = nI q := by
  obtain ⟨m, h1, h2, h3⟩ := H.L
  obtain ⟨-, -, -, o1, o2⟩ := O
  refine ⟨m, h1, o1.trans h2, h2, fun k hk => ?_⟩
  obtain ⟨t, s, q, g1, g2, g3, g4, g5, g6, g7⟩ := h3 k hk
  have hm : nV lks = m := by rw [o1, h2]; exact nV_n (by omega)
  rw [hm] at o2
  have i0 : (3 : Int32) * nI k = nI (3 * k) := nI_mul 3 k
  have a0 : (297 : Int32) + 3 * nI k = nI (297 + 3 * k) := by rw [i0]; exact nI_add 297 _
  refine ⟨t, s, q, g1, g2, g3, g4, ?_, ?_, ?_, ?_, ?_, ?_⟩
  · unfold m_link0
    rw [a0]
    show gA w (nI (297 + 3 * k) + nI 0) = _
    rw [nI_add, gA_n (by omega)]; exact g5
  · unfold m_link0
    rw [a0]
    show gA w (nI (297 + 3 * k) + nI 1) = _
    rw [nI_add, gA_n (by omega)]; exact g6
  · unfold m_link0
    rw [a0]
    show gA w (nI (297 + 3 * k) + nI 2) = _
    rw [nI_add, gA_n (by omega)]; exact g7
  · rw [i0, gA_n (by omega), o2 _ (by omega)]; exact g5
  · rw [i0, nI_1, gA_n (by omega), o2 _ (by omega)]; exact g6
  · rw [i0, show nI (3 * k) + 2 = nI (3 * k + 2) from nI_add _ 2, gA_n (by omega), o2 _ (by omega)]; exact g7
theorem x_lk (H : wf n S w) (P : rP n w ph sp ce) (C : rC n w cm lf) (O : rO n w mi lks rk sta he lkd) {k : Nat} (hk : nI k < lks) (hk9 : k < 100) : x_linkKeeps ph sp cm lkd (nI k) = m_keepsIt w (nI k) := by
  have h5 := H.n5
  have hS := H.S7
  obtain ⟨m, h1, h2, -, h3⟩ := lnk H O
  have hkm : k < m := by rw [h2] at hk; exact (nI_ltI (by omega) (by omega)).mp hk
  obtain ⟨t, s, q, g1, g2, g3, g4, l0, l1, l2, a0, a1, a2⟩ := h3 k hkm
  unfold x_linkKeeps m_keepsIt
  rw [l0, l1, l2, a0, a1, a2, m_of6 (by omega), m_of6 (by omega), m_of7 (by omega), m_of13 (by omega) (by omega), gA_n (l := ph) (by omega), gA_n (l := ph) (by omega), gA_n (l := sp) (by omega), P.pph g1, P.pph g3]
  have ec : nI q * 7 + nI s = nI (7 * q + s) := by
    show nI q * nI 7 + _ = _
    rw [nI_mul, nI_add]
    congr 1
    omega
  rw [ec, gA_n (by omega), (C.2 q s g3 (by omega)).1]
  by_cases c : ft w t 6 = 1
  · rw [if_pos c, if_pos c, P.psp g1 (by rw [c]; decide)]
  · rw [if_neg c, if_neg c]
theorem x_kept_l (H : wf n S w) (P : rP n w ph sp ce) (C : rC n w cm lf) (O : rO n w mi lks rk sta he lkd) {m : Nat} (hm : m ≤ 4) (hl : lks = nI m) {v : Int32} : ∀ (f i : Nat), i + f = m → x_isKept_l2 ph sp cm lkd v f (nI i) = m_isKept_l2 w v f (nI i)
  | 0, _, _ => rfl
  | f + 1, i, e => by
    obtain ⟨m', h1, h2, -, h3⟩ := lnk H O
    have hmm : m' = m := (nI_eq (by omega) (by omega)).mp (h2.symm.trans hl)
    subst hmm
    obtain ⟨t, s, q, g1, g2, g3, g4, l0, l1, l2, a0, a1, a2⟩ := h3 i (by omega)
    unfold x_isKept_l2 m_isKept_l2
    rw [nI_1, x_kept_l H P C O hm hl f (i + 1) (by omega), x_lk H P C O (k := i) (by rw [hl]; exact (nI_ltI (by omega) (by omega)).mpr (by omega)) (by omega), l0, a0]
theorem x_kept (H : wf n S w) (P : rP n w ph sp ce) (C : rC n w cm lf) (O : rO n w mi lks rk sta he lkd) (v : Int32) : x_isKept lks ph sp cm lkd v = m_isKept w v := by
  obtain ⟨m, h1, h2, h2', h3⟩ := lnk H O
  unfold x_isKept m_isKept
  rw [gA_296, h2', h2, lpN_n0 (by omega)]
  exact x_kept_l H P C O h1 h2 m 0 (Nat.zero_add m)
end LK
section CI
variable {n S : Nat} {w w' ph sp ce ri du cm lf pfa prs prr tra len frm tto wei fit way rid lon : List Int32} {shu bus cel mi pk pev : Int32} {t : Nat}
theorem x_come (H : wf n S w) (P : rP n w ph sp ce) (B : qB n w bus) (I : rI n w ri) (Dd : rD n w du) (C : rC n w cm lf) (N : wEn n w) (G : rG w pk pev pfa prs prr) (hm : mi = gN w 201) (Y : qY n S w tra len frm tto wei fit way rid lon cel) (ht : t < n) (h6 : ft w t 6 = 0) (hb : tF n w t (fR w t) ≠ 9) {x2 : Int32} (hx : x2 = ebs (fR w t) (tF n w t (fR w t))) (hw : w' = m_sets w (nI t)) {z : Int32 × List Int32 × List Int32 × List Int32 × List Int32 × List Int32 × Int32} (hz : x_comeIn mi bus ph sp ce cm pev pk pfa frm (nI t) x2 = z) :
    rP n w' z.2.1 z.2.2.1 z.2.2.2.1 ∧ qB n w' z.1 ∧ rI n w' ri ∧ rD n w' du ∧ rC n w' z.2.2.2.2.1 lf ∧ wEn n w' ∧ rG w' pk z.2.2.2.2.2.2 z.2.2.2.2.2.1 prs prr := by
  have h5 := H.n5
  have hS := H.S7
  have hT := H.T ht
  have he := H.ev65 ht (by rw [h6]; decide)
  have hf : fR w t < 7 := by have := hT.1.2; omega
  have hsets := sets0 H.g ht h6 H.E.1 he
  obtain ⟨f1, f2, f3, f4, f5, f6, f7, f8, f9⟩ := H.cmF ht h6 hb (w' := w') (hw.trans hsets)
  unfold x_comeIn at hz
  dsimp only at hz
  have hsp : gA (sA sp (nI t) (gA frm (nI t))) (nI t) = nI (fR w t) := by
    rw [sA_n (by omega), gA_n (i := t) (by omega), gN_eq (by have := P.1; omega), gA_n (by omega), Y.pfrm ht, hT.1.1]
  rw [hsp, gA_n (l := frm) (by omega), Y.pfrm ht, hT.1.1] at hz
  have ec : nI t * 7 + nI (fR w t) = nI (7 * t + fR w t) := by
    show nI t * nI 7 + _ = _
    rw [nI_mul, nI_add]
    congr 1
    omega
  rw [ec, sA_n (by omega), sA_n (by omega), sA_n (by omega)] at hz
  have hu : ∀ u, u < n → u ≠ t → sT w' w u := fun u h1 h2 k hk => f2 _ (by omega) (by omega)
  have hx' : x2 = cI (cL w' t) := by
    rw [hx, f8]
    unfold ebs cI
    rw [if_neg hb, if_pos (by omega)]
  have hc0 : cL w t = 99 := by unfold cL; rw [if_neg (by rw [h6]; decide), if_neg (by rw [h6]; decide)]
  obtain ⟨k1, k2⟩ := take_B (w' := w') h5 H.D.1 B ht P.1.2.2 (P.pce ht) (Or.inl hc0) (fun u h1 h2 => (hu u h1 h2).qcL) hx' (Or.inr f9)
  obtain ⟨⟨p1, p2, p3⟩, p4⟩ := P
  subst hz
  dsimp only
  rw [k1]
  refine ⟨⟨⟨by rw [List.length_set]; exact p1, by rw [List.length_set]; exact p2, by rw [List.length_set]; exact p3⟩, fun u h1 => ?_⟩, k2, ⟨I.1, fun k hk => ?_⟩, ⟨Dd.1, fun u h1 h2 => ?_⟩, ⟨⟨by rw [List.length_set]; exact C.1.1, C.1.2⟩, fun u s h1 h2 => ?_⟩, fun u h1 h3 => ?_, ?_⟩
  · by_cases c : u = t
    · subst c
      rw [gN_eq (by omega), gN_eq (by omega), gN_eq (by omega), f4, f5]
      exact ⟨rfl, fun _ => rfl, hx'⟩
    · rw [gN_ne (fun q => c q.symm), gN_ne (fun q => c q.symm), gN_ne (fun q => c q.symm), hu u h1 c 6 (by decide), hu u h1 c 7 (by decide), (hu u h1 c).qcL]
      exact p4 u h1
  · rw [I.2 k hk]
    refine fnd_congr fun u _ hun => ?_
    unfold onS
    by_cases d : u = t
    · rw [d, f4, h6, decide_eq_false (show ¬ (1 : Int32) = 2 by decide), decide_eq_false (show ¬ (0 : Int32) = 2 by decide), Bool.false_and, Bool.false_and]
    · rw [hu u (by omega) d 6 (by decide), (hu u (by omega) d).qsC]
  · by_cases c : u = t
    · rw [c, f4] at h2; exact absurd h2 (by decide)
    · rw [hu u h1 c 6 (by decide)] at h2
      rw [hu u h1 c 9 (by decide)]
      exact Dd.2 u h1 h2
  · have c1 := C.2 u s h1 h2
    by_cases c : u = t
    · subst c
      rw [f7 (20 + s) (by omega) (by omega) (by omega) (by omega) (by omega)]
      refine ⟨?_, c1.2⟩
      by_cases d : s = fR w u
      · rw [d, gN_eq (by have := C.1.1; omega), f6, hm]
      · rw [gN_ne (by omega), f7 (13 + s) (by omega) (by omega) (by omega) (by omega) (by omega)]
        exact c1.1
    · rw [gN_ne (by omega), hu u h1 c _ (by omega), hu u h1 c _ (by omega)]
      exact c1
  · by_cases c : u = t
    · rw [c, f4] at h3; exact absurd h3 (by decide)
    · rw [hu u h1 c 6 (by decide)] at h3
      rw [(hu u h1 c).qtO, hu u h1 c 11 (by decide), hu u h1 c _ (by have := (H.T h1).2.1.2; omega)]
      exact N u h1 h3
  · exact G.note he H.E.1 H.len hm f3 (fun j h1 h2 => f2 j (by omega) (by omega))
theorem rG.rider (G : rG w pk pev pfa prs prr) {k g : Nat} (hk : k < 6) (hg : gN w (210 + k) = nI g) (hg5 : g < 5) (h9 : ∀ j, 309 ≤ j → j < 570 → gN w' j = gN w j) (hw : ∀ j, 210 ≤ j → j < 246 → gN w' j = if j = 210 + k then nI (g + 1) else if j = 216 + 5 * k + g then nI t else gN w j) : rG w' pk pev pfa (x_noteRider pk prs prr (nI k) (nI t)).1 (x_noteRider pk prs prr (nI k) (nI t)).2 := by
  rcases G with G | ⟨⟨l1, l2, l3⟩, ⟨e', g1, g2, g3, g4⟩, g5⟩
  · exact Or.inl G
  · obtain ⟨g', q1, q2, q3, q4⟩ := g5 k hk
    have eg : g' = g := (nI_eq (by omega) (by omega)).mp (q2.symm.trans hg)
    subst eg
    unfold x_noteRider
    by_cases c0 : pk = 0
    · exact Or.inl c0
    rw [if_neg c0, gA_n (l := prs) (by omega), q3, if_pos (show nI g' < 5 from (nI_ltI (b := 5) (by omega) (by decide)).mpr hg5)]
    dsimp only
    have ei : nI k * 5 + nI g' = nI (5 * k + g') := by
      show nI k * nI 5 + _ = _
      rw [nI_mul, nI_add]
      congr 1
      omega
    rw [ei, sA_n (by omega), sA_n (by omega), nI_1]
    refine Or.inr ⟨⟨l1, by rw [List.length_set]; exact l2, by rw [List.length_set]; exact l3⟩, ⟨e', g1, by rw [h9 309 (by omega) (by omega)]; exact g2, g3, fun i hi => by rw [h9 _ (by omega) (by omega)]; exact g4 i hi⟩, fun j hj => ?_⟩
    by_cases c : j = k
    · subst c
      refine ⟨g' + 1, by omega, by rw [hw _ (by omega) (by omega), if_pos rfl], by rw [gN_eq (by omega)], fun i hi => ?_⟩
      rw [hw _ (by omega) (by omega), if_neg (by omega)]
      by_cases d : i = g'
      · rw [d, gN_eq (by omega), if_pos rfl]
      · rw [gN_ne (by omega), if_neg (by omega)]; exact q4 i (by omega)
    · obtain ⟨g2', r1, r2, r3, r4⟩ := g5 j hj
      refine ⟨g2', r1, by rw [hw _ (by omega) (by omega), if_neg (by omega), if_neg (by omega)]; exact r2, by rw [gN_ne (fun q => c q.symm)]; exact r3, fun i hi => ?_⟩
      rw [hw _ (by omega) (by omega), if_neg (by omega), if_neg (by omega), gN_ne (by omega)]
      exact r4 i hi
theorem x_leav (H : wf n S w) (P : rP n w ph sp ce) (B : qB n w bus) (I : rI n w ri) (Dd : rD n w du) (C : rC n w cm lf) (N : wEn n w) (G : rG w pk pev pfa prs prr) (hm : mi = gN w 201) (Y : qY n S w tra len frm tto wei fit way rid lon cel) (ht : t < n) (h6 : ft w t 6 = 1) (hn : fnd (onS w (sC w t)) n 0 = -1) (hb : nxT w t ≠ tO w t → tF n w t (nxT w t) ≠ 9) {x2 : Int32} (hx : x2 = if nxT w t = tO w t then 21 else ebs (nxT w t) (tF n w t (nxT w t))) (hw : w' = m_sets w (nI t)) {z : Int32 × List Int32 × List Int32 × List Int32 × List Int32 × List Int32 × List Int32 × Int32 × List Int32 × List Int32} (hz : x_leave mi bus ph sp ce du ri lf pev pk prs prr pfa tto rid (nI t) x2 = z) :
    rP n w' z.2.1 sp z.2.2.1 ∧ qB n w' z.1 ∧ rI n w' z.2.2.2.2.1 ∧ rD n w' z.2.2.2.1 ∧ rC n w' cm z.2.2.2.2.2.1 ∧ wEn n w' ∧ rG w' pk z.2.2.2.2.2.2.2.1 z.2.2.2.2.2.2.1 z.2.2.2.2.2.2.2.2.1 z.2.2.2.2.2.2.2.2.2 := by
  have h5 := H.n5
  have hS := H.S7
  have hT := H.T ht
  have he := H.ev65 ht (by rw [h6]; decide)
  obtain ⟨-, -, x3, x4, x5⟩ := hT.next hS (by omega) (Or.inl h6)
  obtain ⟨y1, y2⟩ := x_next H.g P Y ht (Or.inl h6)
  have h7 := hT.2.2.2.2.1 (by rw [h6]; decide)
  have hsets := sets1 H.g ht h6 H.E.1 he (H.E.2 _ x4) (H.go5 ht (gV_no hT h6))
  obtain ⟨f1, f2, f3, f4, f5, f6, f7, f8, f9, f10, f11⟩ := H.lvF ht h6 hb (w' := w') (hw.trans hsets)
  unfold x_leave at hz
  dsimp only at hz
  have hsp := P.psp ht (by rw [h6]; decide)
  rw [y2, gA_n (l := sp) (by omega), hsp, h7.1] at hz
  have ec : nI t * 7 + nI (atT w t) = nI (7 * t + atT w t) := by
    show nI t * nI 7 + _ = _
    rw [nI_mul, nI_add]
    congr 1
    omega
  have er : nI t * 6 + nI (sC w t) = nI (6 * t + sC w t) := by
    show nI t * nI 6 + _ = _
    rw [nI_mul, nI_add]
    congr 1
    omega
  rw [ec, er, gA_n (l := rid) (by omega), Y.prid ht x5, sA_n (by omega), sA_n (by omega), sA_n (by omega), sA_n (by omega)] at hz
  have hu : ∀ u, u < n → u ≠ t → sT w' w u := fun u h1 h2 k hk => by
    show gN w' _ = _
    rw [f2 _ (by omega) (by omega), if_neg (by omega), if_neg (by omega)]
    rfl
  have hx' : (if x2 = 21 then (-1 : Int32) else x2) = cI (cL w' t) := by
    rw [hx, f8]
    by_cases c : nxT w t = tO w t
    · rw [if_pos c, if_pos c, if_pos rfl]; rfl
    · have hfr := (tF_free n w t (nxT w t) (by omega) (hb c)).1
      have hm3 := (H.St (s := nxT w t) (by omega)).2.1
      rw [if_neg c, if_neg c]
      unfold ebs cI
      have q9 : ¬ nI (3 * nxT w t + tF n w t (nxT w t)) = 21 := fun q => by
        have := (nI_eq (a := 3 * nxT w t + tF n w t (nxT w t)) (b := 21) (by omega) (by decide)).mp q
        omega
      rw [if_neg (hb c), if_neg q9, if_pos (by omega)]
  have hct' : cL w' t = 99 ∨ cL w' t < 21 := by
    rcases f9 with z | z
    · exact Or.inr z
    · rw [f8, if_pos z]; exact Or.inl rfl
  rw [hx'] at hz
  obtain ⟨k1, k2⟩ := take_B (w' := w') h5 H.D.1 B ht P.1.2.2 (P.pce ht) (H.g.cl ht) (fun u h1 h2 => (hu u h1 h2).qcL) rfl hct'
  -- events first, then the riders
  have G1 : rG (evW w (sumN (eV w) n) (nI t) 1 (nI (atT w t))) pk (x_note pev pk pfa (nI t) 1 mi (nI (atT w t))).2 (x_note pev pk pfa (nI t) 1 mi (nI (atT w t))).1 prs prr := G.note he H.E.1 H.len hm (fun _ _ _ => rfl) (fun j h1 h2 => evW_ne (by omega) he)
  have G2 := G1.rider (w' := w') (t := t) (k := sC w t) x4 (by rw [evW_ne (by omega) he]; exact H.E.2 _ x4) f11 f3 (fun j h1 h2 => by rw [f2 j (by omega) (by omega), evW_ne (by omega) he])
  obtain ⟨⟨p1, p2, p3⟩, p4⟩ := P
  subst hz
  dsimp only
  rw [k1]
  refine ⟨⟨⟨by rw [List.length_set]; exact p1, p2, by rw [List.length_set]; exact p3⟩, fun u h1 => ?_⟩, k2, ⟨by rw [List.length_set]; exact I.1, fun k hk => ?_⟩, ⟨by rw [List.length_set]; exact Dd.1, fun u h1 h2 => ?_⟩, ⟨⟨C.1.1, by rw [List.length_set]; exact C.1.2⟩, fun u s h1 h2 => ?_⟩, fun u h1 h3 => ?_, G2⟩
  · by_cases c : u = t
    · subst c
      rw [gN_eq (by omega), gN_eq (by omega), f4, f7 7 (by decide) (by decide) (by decide) (by decide) (by omega)]
      exact ⟨rfl, fun _ => hsp, rfl⟩
    · rw [gN_ne (fun q => c q.symm), gN_ne (fun q => c q.symm), hu u h1 c 6 (by decide), hu u h1 c 7 (by decide), (hu u h1 c).qcL]
      exact p4 u h1
  · have hst : sC w' t = sC w t := by
      unfold sC fR tO atT
      rw [f7 1 (by decide) (by decide) (by decide) (by decide) (by omega), f7 2 (by decide) (by decide) (by decide) (by decide) (by omega), f7 7 (by decide) (by decide) (by decide) (by decide) (by omega)]
    by_cases c : k = sC w t
    · rw [c, gN_eq (by have := I.1; omega)]
      refine (fnd_one ht ?_ fun u hun q => ?_).symm
      · unfold onS
        rw [f4, hst, Nat.beq_eq.mpr rfl]; rfl
      · apply Decidable.byContradiction
        intro d
        have := (fnd_n (by omega)).mp hn u hun
        unfold onS at q this
        rw [hu u hun d 6 (by decide), (hu u hun d).qsC] at q
        rw [q] at this
        cases this
    · rw [gN_ne (fun q => c q.symm), I.2 k hk]
      refine fnd_congr fun u _ hun => ?_
      unfold onS
      by_cases d : u = t
      · rw [d, f4, hst, h6]
        have : Nat.beq (sC w t) k = false := Bool.eq_false_iff.mpr (fun q => c (Nat.beq_eq.mp q).symm)
        rw [this, Bool.and_false, Bool.and_false]
      · rw [hu u (by omega) d 6 (by decide), (hu u (by omega) d).qsC]
  · by_cases c : u = t
    · subst c
      rw [gN_eq (by have := Dd.1; omega), f5, hm]
    · rw [hu u h1 c 6 (by decide)] at h2
      rw [gN_ne (fun q => c q.symm), hu u h1 c 9 (by decide)]
      exact Dd.2 u h1 h2
  · have c1 := C.2 u s h1 h2
    by_cases c : u = t
    · subst c
      rw [f7 (13 + s) (by omega) (by omega) (by omega) (by omega) (by omega)]
      refine ⟨c1.1, ?_⟩
      by_cases d : s = atT w u
      · rw [d, gN_eq (by have := C.1.2; omega), f6, hm]
      · rw [gN_ne (by omega), f7 (20 + s) (by omega) (by omega) (by omega) (by omega) (by omega)]
        exact c1.2
    · rw [gN_ne (by omega), hu u h1 c _ (by omega), hu u h1 c _ (by omega)]
      exact c1
  · by_cases c : u = t
    · rw [c, f4] at h3; exact absurd h3 (by decide)
    · rw [hu u h1 c 6 (by decide)] at h3
      rw [(hu u h1 c).qtO, hu u h1 c 11 (by decide), hu u h1 c _ (by have := (H.T h1).2.1.2; omega)]
      exact N u h1 h3
end CI

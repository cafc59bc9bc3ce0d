/-! queries that ask whether all can get through -/
def eQ5 (z : Int32 × List Int32 × List Int32 × Int32 × Int32) (y : Int32 × Int32 × Int32) : Prop := z.1 = y.1 ∧ z.2.2.2.2 = y.2.2 ∧ z.2.1.length = 5 ∧ z.2.2.1.length = 5
theorem eQ5.mk {z : Int32 × List Int32 × List Int32 × Int32 × Int32} {y : Int32 × Int32 × Int32} (h1 : z.1 = y.1) (h2 : z.2.2.2.2 = y.2.2) (h3 : z.2.1.length = 5) (h4 : z.2.2.1.length = 5) : eQ5 z y := ⟨h1, h2, h3, h4⟩
section SQ
variable {n S : Nat} {w ph sp ce ri tra len frm tto wei fit way rid lon sea row cm lf rk sta he lkd : List Int32} {shu bus cel rl sst th sst' mi lks acco : Int32} {t : Nat}
/-- why() of a train -/
def m_rs (n : Nat) (w : List Int32) (t : Nat) : Int32 := if m_whyNot w (nI t) = 0 then (if m_isSafe (m_sets w (nI t)) n = 0 then 5 else 0) else m_whyNot w (nI t)
theorem x_rs (H : wf n S w) (P : rP n w ph sp ce) (B' : qB n w bus) (U : rU w shu) (I : rI n w ri) (Y : qY n S w tra len frm tto wei fit way rid lon cel) (ht : t < n) (hs : sea.length = 5) (hr : row.length = 5) : ∃ sea' row' rl', x_reason shu bus ph sp ce ri rl row sea (nI n) len frm tto fit way (nI t) = (m_rs n w t, sea', row', rl') ∧ sea'.length = 5 ∧ row'.length = 5 := by
  have h5 := H.n5
  have hT := H.T ht
  unfold x_reason m_rs
  rw [gA_n (by omega), P.pph ht]
  have hwhy := H.g.whyNot ht
  by_cases c3 : ft w t 6 = 3
  · rw [if_pos c3] at hwhy
    rw [if_pos c3, hwhy, if_neg (by decide)]
    exact ⟨sea, row, rl, rfl, hs, hr⟩
  by_cases c2 : ft w t 6 = 2
  · rw [if_neg c3, if_pos c2] at hwhy
    rw [if_neg c3, if_pos c2, hwhy, if_neg (by decide)]
    exact ⟨sea, row, rl, rfl, hs, hr⟩
  rw [if_neg c3, if_neg c2]
  have h01 : ft w t 6 = 0 ∨ ft w t 6 = 1 := by
    rcases hT.2.2.2.1 with e | e | e | e
    · exact Or.inl e
    · exact Or.inr e
    · exact absurd e c2
    · exact absurd e c3
  rw [x_tgt H.g P B' U I Y ht h01]
  rcases tG_why H.g ht h01 with ⟨g1, c, g2, g3⟩ | ⟨g1, g3⟩ | ⟨g1, g3⟩
  · have e1 : ¬ tG n w t = -2 := by rw [g3]; exact nI_n2 (by omega)
    have e2 : ¬ tG n w t = -1 := by rw [g3]; exact nI_nn (by omega)
    obtain ⟨z1, sea', row', k', l1, l2, l3, l4⟩ := x_lsm (rl := rl) H P U Y ht g1 hs hr
    rw [if_neg e1, if_neg e2, l1, g1, if_pos rfl]
    dsimp only
    refine ⟨sea', row', nI k', ?_, l2, l3⟩
    by_cases c0 : z1 = 0
    · rw [if_pos c0, if_neg (l4.mp c0)]
    · rw [if_neg c0]
      by_cases c4 : m_isSafe (m_sets w (nI t)) n = 0
      · rw [if_pos c4]
      · exact absurd (l4.mpr c4) c0
  · rw [g3, if_neg (show ¬ (-1 : Int32) = -2 by decide), if_pos rfl, g1, if_neg (by decide)]
    exact ⟨sea, row, rl, rfl, hs, hr⟩
  · rw [g3, if_pos rfl, g1, if_neg (by decide)]
    exact ⟨sea, row, rl, rfl, hs, hr⟩
theorem eq_why (H : wf n S w) (P : rP n w ph sp ce) (B : qB n w bus) (U : rU w shu) (I : rI n w ri) (Y : qY n S w tra len frm tto wei fit way rid lon cel) (hs : sea.length = 5) (hr : row.length = 5) (x1 : Int32) : eQ5 (x_qwhy shu bus ph sp ce ri rl row sea (nI n) len frm tto fit way sst x1) (m_qwhy n th sst' w x1) := by
  unfold x_qwhy m_qwhy
  rw [g_train H.g]
  by_cases c1 : m_isTrain w x1 = 0
  · rw [if_pos c1, if_pos c1]
    exact eQ5.mk rfl rfl hs hr
  · rw [if_neg c1, if_neg c1]
    obtain ⟨t, ht, rfl⟩ := (isTrain_n H.g).mp c1
    obtain ⟨sea', row', rl', e, l1, l2⟩ := x_rs (rl := rl) H P B U I Y ht hs hr
    rw [e]
    dsimp only
    unfold m_rs
    by_cases c2 : m_whyNot w (nI t) = 0
    · rw [if_pos c2, if_pos c2]
      by_cases c3 : m_isSafe (m_sets w (nI t)) n = 0
      · rw [if_pos c3, if_pos c3]; exact eQ5.mk rfl rfl l1 l2
      · rw [if_neg c3, if_neg c3]; exact eQ5.mk rfl rfl l1 l2
    · rw [if_neg c2, if_neg c2]; exact eQ5.mk rfl rfl l1 l2
theorem eq_risks_l (H : wf n S w) (P : rP n w ph sp ce) (B : qB n w bus) (U : rU w shu) (I : rI n w ri) (Y : qY n S w tra len frm tto wei fit way rid lon cel) : ∀ (f i : Nat) (v : Int32) (sea row : List Int32) (rl : Int32), i + f = n → sea.length = 5 → row.length = 5 → eQ5 (x_qrisks_l4 shu bus ph sp ce ri (nI n) len frm tto fit way f (nI i) v sea row rl sst) (m_qrisks_l4 n th sst' w f i v)
  | 0, i, v, sea, row, rl, e, hs, hr => eQ5.mk rfl rfl hs hr
  | f + 1, i, v, sea, row, rl, e, hs, hr => by
    have h5 := H.n5
    unfold x_qrisks_l4 m_qrisks_l4
    obtain ⟨sea', row', rl', e1, l1, l2⟩ := x_rs (rl := rl) H P B U I Y (t := i) (by omega) hs hr
    rw [e1, nI_1]
    dsimp only
    unfold m_rs
    by_cases c2 : m_whyNot w (nI i) = 0
    · rw [if_pos c2, if_pos c2]
      by_cases c3 : m_isSafe (m_sets w (nI i)) n = 0
      · rw [if_pos c3, if_pos c3, if_pos rfl]
        exact eq_risks_l H P B U I Y f (i + 1) _ _ _ _ (by omega) l1 l2
      · rw [if_neg c3, if_neg c3, if_neg (show ¬ (0 : Int32) = 5 by decide), Int32.or_zero]
        exact eq_risks_l H P B U I Y f (i + 1) _ _ _ _ (by omega) l1 l2
    · have c5 : ¬ m_whyNot w (nI i) = 5 := by
        rw [H.g.whyNot (t := i) (by omega)]
        repeat' split
        all_goals decide
      rw [if_neg c2, if_neg c2, if_neg c5]
      exact eq_risks_l H P B U I Y f (i + 1) _ _ _ _ (by omega) l1 l2
theorem eq_risks (H : wf n S w) (P : rP n w ph sp ce) (B : qB n w bus) (U : rU w shu) (I : rI n w ri) (Y : qY n S w tra len frm tto wei fit way rid lon cel) (hs : sea.length = 5) (hr : row.length = 5) : eQ5 (x_qrisks shu bus ph sp ce ri rl row sea (nI n) len frm tto fit way sst) (m_qrisks n th sst' w) := by
  unfold x_qrisks m_qrisks
  rw [lpN_n0 (by have := H.n5; omega)]
  exact eq_risks_l H P B U I Y n 0 0 sea row rl (Nat.zero_add n) hs hr
theorem eq_through (H : wf n S w) (P : rP n w ph sp ce) (U : rU w shu) (Y : qY n S w tra len frm tto wei fit way rid lon cel) {tk : List Int32} (htk : tk.length = 5) (hs : sea.length = 5) (hr : row.length = 5) (x1 : Int32) : eQ5 (x_qthrough shu ce rl row sea (nI n) fit way sst x1) (m_qthrough n th sst' w tk x1) := by
  obtain ⟨sea', row', k', h1, h2, h3, h4, h5, h6⟩ := x_safe (rl := rl) H.g H.D.1 P U Y hs hr htk
  unfold x_qthrough m_qthrough
  rw [h1, h5]
  dsimp only
  by_cases c1 : x1 < -1
  · rw [if_pos c1, if_pos c1]; exact eQ5.mk rfl rfl hs hr
  rw [if_neg c1, if_neg c1]
  by_cases c2 : x1 = -1
  · rw [if_pos c2, if_pos c2]; exact eQ5.mk rfl rfl h2 h3
  rw [if_neg c2, if_neg c2]
  by_cases c3 : x1 < nI k'
  · rw [if_pos c3, if_pos c3]
    obtain ⟨j, hj, rfl⟩ : ∃ j, j < k' ∧ x1 = nI j := by
      rw [Int32.lt_iff_toInt_lt, nI_toInt (by omega)] at c3
      rw [Int32.lt_iff_toInt_lt, show (-1 : Int32).toInt = -1 from rfl] at c1
      have : ¬ x1.toInt = -1 := fun z => c2 (Int32.toInt_inj.mp (by rw [z]; rfl))
      exact ⟨x1.toInt.toNat, by omega, Int32.toInt_inj.mp (by rw [nI_toInt (by omega)]; omega)⟩
    refine eQ5.mk ?_ rfl h2 h3
    show gA row' (nI j) = gA (m_sf w n tk).2.1 (nI j)
    rw [gA_n (by omega), gA_n (by omega), h6 j hj]
  · rw [if_neg c3, if_neg c3]; exact eQ5.mk rfl rfl h2 h3
/-- one more track SHUT -/
theorem shut1 (H : wf n S w) (P : rP n w ph sp ce) (U : rU w shu) (Y : qY n S w tra len frm tto wei fit way rid lon cel) {s k : Nat} (hs : s < S) (hk : k < 3) : wg n S (w.set (8 * s + (5 + k)) 1) ∧ wd1 n (w.set (8 * s + (5 + k)) 1) ∧ rP n (w.set (8 * s + (5 + k)) 1) ph sp ce ∧ rU (w.set (8 * s + (5 + k)) 1) (shu ||| (1 <<< (nI (3 * s + k) &&& 31))) ∧ qY n S (w.set (8 * s + (5 + k)) 1) tra len frm tto wei fit way rid lon cel := by
  have h5 := H.n5
  have hS := H.S7
  have hl := H.len
  have ne : ∀ j, j ≠ 8 * s + (5 + k) → gN (w.set (8 * s + (5 + k)) 1) j = gN w j := fun j hj => gN_ne (fun z => hj z.symm)
  have eT : ∀ u, u < n → sT (w.set (8 * s + (5 + k)) 1) w u := fun u hu k' hk' => ne _ (by omega)
  have G : wg n S (w.set (8 * s + (5 + k)) 1) := by
    refine ⟨⟨by rw [List.length_set]; exact hl, by rw [ne 203 (by omega)]; exact H.A.2.1, h5, by rw [ne 202 (by omega)]; exact H.A.2.2.2.1, hS⟩, fun s' hs' => ?_, fun u hu => ?_⟩
    · have hw := H.St hs'
      have em : mN (w.set (8 * s + (5 + k)) 1) s' = mN w s' := congrArg nV (ne _ (by omega))
      refine ⟨by rw [em]; exact (ne _ (by omega)).trans hw.1, by rw [em]; exact hw.2.1, fun k' hk' => ?_⟩
      by_cases c : s' = s ∧ k' = k
      · right
        obtain ⟨rfl, rfl⟩ := c
        exact gN_eq (by omega)
      · rw [show fs (w.set (8 * s + (5 + k)) 1) s' (5 + k') = fs w s' (5 + k') from ne _ (by omega)]
        exact hw.2.2 k' hk'
    · have em : ∀ s', s' < 7 → mN (w.set (8 * s + (5 + k)) 1) s' = mN w s' := fun s' _ => congrArg nV (ne _ (by omega))
      have z := eT u hu
      have hT := H.T hu
      have hn7 : ft w u 6 = 2 → nxT w u < 7 := fun e => by
        have := ((hT.next hS (by omega) (Or.inr e))).2.2.1
        omega
      obtain ⟨a1, a2, a3, a4, a5, a6, a7, a8, a9⟩ := hT
      unfold wTr
      rw [z.qfR, z.qtO, z.qaT, z.qkT, z.qnX, z.qonW, z 1 (by decide), z 2 (by decide), z 6 (by decide), z 7 (by decide), z 8 (by decide)]
      refine ⟨a1, a2, a3, a4, a5, a6, a7, fun e => ?_, fun e => ?_⟩
      · rw [em _ (by have := (a5 (by rw [e]; decide)).2; omega)]; exact a8 e
      · rcases a9 e with g | ⟨g1, g2, g3⟩
        · exact Or.inl g
        · exact Or.inr ⟨g1, g2, by rw [em _ (hn7 e)]; exact g3⟩
  have F : sF n (w.set (8 * s + (5 + k)) 1) w := ⟨fun s' k' h1 h2 => ne _ (by omega), fun u k' hu hk' => ne _ (by omega)⟩
  refine ⟨G, fun a b ha hb hab hc => ?_, ⟨P.1, fun u hu => ?_⟩, fun s' k' h1 h2 => ?_, Y.frame F H.g G⟩
  · rw [(eT a ha).qcL] at hc ⊢
    rw [(eT b hb).qcL]
    exact H.D.1 a b ha hb hab hc
  · rw [eT u hu 6 (by decide), eT u hu 7 (by decide), (eT u hu).qcL]
    exact P.2 u hu
  · rw [tb_or, tb_one (by omega) (by omega), Bool.or_eq_true, decide_eq_true_iff, U s' k' h1 h2]
    by_cases c : s' = s ∧ k' = k
    · obtain ⟨rfl, rfl⟩ := c
      rw [show fs (w.set (8 * s' + (5 + k')) 1) s' (5 + k') = 1 from gN_eq (by omega)]
      exact ⟨fun _ => rfl, fun _ => Or.inr rfl⟩
    · rw [show fs (w.set (8 * s + (5 + k)) 1) s' (5 + k') = fs w s' (5 + k') from ne _ (by omega)]
      exact ⟨fun z => z.elim (fun y => y) (fun y => absurd y (by omega)), fun z => Or.inl z⟩
theorem eq_weak_l (H : wf n S w) (P : rP n w ph sp ce) (U : rU w shu) (Y : qY n S w tra len frm tto wei fit way rid lon cel) {s : Nat} (hs : s < S) : ∀ (f i : Nat) (v : Int32) (sea row : List Int32) (rl : Int32), i + f ≤ 3 → sea.length = 5 → row.length = 5 → eQ5 (x_qweak_l34 shu ce (nI n) fit way (nI s) f (nI i) v sea row rl sst) (m_qweak_l31 n th sst' w (nI s) f i v)
  | 0, i, v, sea, row, rl, e, hs, hr => eQ5.mk rfl rfl hs hr
  | f + 1, i, v, sea, row, rl, e, hse, hr => by
    have h5 := H.n5
    have hS := H.S7
    unfold x_qweak_l34 m_qweak_l31 x_isWeak
    have e1 : nI s * 3 + nI i = nI (3 * s + i) := by
      show nI s * nI 3 + _ = _
      rw [nI_mul, nI_add]
      congr 1
      omega
    have e2 : (8 : Int32) * nI s + 5 + nI i = nI (8 * s + (5 + i)) := by
      show nI 8 * nI s + nI 5 + nI i = _
      rw [nI_mul, nI_add, nI_add]
      congr 1
      omega
    rw [e1, e2, nI_1, m_st5 (by omega) (by omega), sA_n (by omega)]
    have hb : (shu ||| (1 <<< (nI (3 * s + i) &&& 31))) = shu ↔ fs w s (5 + i) = 1 := by
      rw [← U s i (by omega) (by omega)]
      constructor
      · intro z
        rw [← z, tb_or, tb_one (by omega) (by omega), decide_eq_true rfl, Bool.or_true]
      · intro z
        apply tb_ext
        intro c hc
        rw [tb_or, tb_one (by omega) hc]
        by_cases d : 3 * s + i = c
        · rw [← d, z]; rfl
        · rw [decide_eq_false d, Bool.or_false]
    by_cases c : fs w s (5 + i) = 1
    · rw [if_pos c, if_pos (hb.mpr c)]
      dsimp only
      rw [if_pos rfl]
      exact eq_weak_l H P U Y hs f (i + 1) _ _ _ _ (by omega) hse hr
    · rw [if_neg c, if_neg (fun z => c (hb.mp z))]
      obtain ⟨g1, g2, g3, g4, g5⟩ := shut1 H P U Y hs (k := i) (by omega)
      obtain ⟨sea', row', k', h1, h2, h3, -⟩ := x_safe (rl := rl) (tk := sea) g1 g2 g3 g4 g5 hse hr hse
      rw [h1]
      dsimp only
      by_cases d : m_isSafe (w.set (8 * s + (5 + i)) 1) n = 0
      · rw [if_pos d, if_pos d, if_neg (show ¬ (1 : Int32) = 0 by decide)]
        exact eq_weak_l H P U Y hs f (i + 1) _ _ _ _ (by omega) h2 h3
      · rw [if_neg d, if_neg d, if_pos rfl, Int32.or_zero]
        exact eq_weak_l H P U Y hs f (i + 1) _ _ _ _ (by omega) h2 h3
theorem eq_weak (H : wf n S w) (P : rP n w ph sp ce) (U : rU w shu) (Y : qY n S w tra len frm tto wei fit way rid lon cel) (hse : sea.length = 5) (hr : row.length = 5) (x1 : Int32) : eQ5 (x_qweak shu ce rl row sea (nI S) (nI n) tra fit way sst x1) (m_qweak n th sst' w x1) := by
  have hS := H.S7
  unfold x_qweak m_qweak
  rw [g_stat H.g]
  by_cases c1 : m_isStation w x1 = 0
  · rw [if_pos c1, if_pos c1]; exact eQ5.mk rfl rfl hse hr
  rw [if_neg c1, if_neg c1]
  obtain ⟨s, hs, rfl⟩ := (stat_n H.g).mp c1
  obtain ⟨sea', row', k', h1, h2, h3, -⟩ := x_safe (rl := rl) (tk := sea) H.g H.D.1 P U Y hse hr hse
  rw [h1]
  dsimp only
  by_cases c2 : m_isSafe w n = 0
  · rw [if_pos c2, if_pos c2]; exact eQ5.mk rfl rfl h2 h3
  rw [if_neg c2, if_neg c2]
  have hw := H.St (s := s) (by omega)
  have e1 : lpN (gA tra (nI s)) 0 = mN w s := by
    rw [gA_n (by omega), Y.ptra hs, hw.1]
    exact lpN_n0 (by have := hw.2.1; omega)
  have e2 : lpN (m_st w (nI s) 1) (nI 0) = mN w s := by
    rw [m_st1 (by omega), hw.1]
    exact lpN_n0 (by have := hw.2.1; omega)
  rw [e1, e2]
  exact eq_weak_l H P U Y hs (mN w s) 0 0 sea' row' (nI k') (by have := hw.2.1; omega) h2 h3
theorem eq_many (H : wf n S w) (P : rP n w ph sp ce) (B : qB n w bus) (U : rU w shu) (I : rI n w ri) (C : rC n w cm lf) (N : wEn n w) (O : rO n w mi lks rk sta he lkd) (Y : qY n S w tra len frm tto wei fit way rid lon cel) (hse : sea.length = 5) (hr : row.length = 5) {acs : Int32} (ha : acco = acs) (hg : x_greatestDelay sta ph cm (nI n) tto lon = m_greatestDelay w) (x1 : Int32) : eQ5 (x_qmany mi shu bus sta ph sp ce ri cm rl row sea (nI S) (nI n) len frm tto wei fit way lon sst acco x1) (m_qmany n th sst' acs w x1) := by
  unfold x_qmany m_qmany
  obtain ⟨sea', row', k', h1, h2, h3, -⟩ := x_safe (rl := rl) (tk := sea) H.g H.D.1 P U Y hse hr hse
  rw [h1, x_cnt H.g P 3, x_cnt H.g P 0, x_pri H P C N O Y, x_stuck H.g P B U I Y, hg, ha, H.gs, H.gn, gA_201, ← O.1]
  dsimp only
  by_cases c0 : x1 = 0
  · rw [if_pos c0, if_pos c0]
    exact eQ5.mk rfl rfl hse hr
  rw [if_neg c0, if_neg c0]
  by_cases c1 : x1 = 1
  · rw [if_pos c1, if_pos c1]
    exact eQ5.mk rfl rfl hse hr
  rw [if_neg c1, if_neg c1]
  by_cases c2 : x1 = 2
  · rw [if_pos c2, if_pos c2]
    exact eQ5.mk rfl rfl hse hr
  rw [if_neg c2, if_neg c2]
  by_cases c3 : x1 = 3
  · rw [if_pos c3, if_pos c3]
    exact eQ5.mk rfl rfl hse hr
  rw [if_neg c3, if_neg c3]
  by_cases c4 : x1 = 4
  · rw [if_pos c4, if_pos c4]
    exact eQ5.mk rfl rfl hse hr
  rw [if_neg c4, if_neg c4]
  by_cases c5 : x1 = 5
  · rw [if_pos c5, if_pos c5]
    exact eQ5.mk rfl rfl hse hr
  rw [if_neg c5, if_neg c5]
  by_cases c6 : x1 = 6
  · rw [if_pos c6, if_pos c6]
    exact eQ5.mk rfl rfl hse hr
  rw [if_neg c6, if_neg c6]
  by_cases c7 : x1 = 7
  · rw [if_pos c7, if_pos c7]
    by_cases c : m_isSafe w n = 0
    · rw [if_pos c, if_pos c]; exact eQ5.mk rfl rfl h2 h3
    · rw [if_neg c, if_neg c]; exact eQ5.mk rfl rfl h2 h3
  rw [if_neg c7, if_neg c7]
  by_cases c8 : x1 = 8
  · rw [if_pos c8, if_pos c8]
    by_cases c : m_isStuck w = 0
    · rw [if_pos c, if_pos c]; exact eQ5.mk rfl rfl hse hr
    · rw [if_neg c, if_neg c]; exact eQ5.mk rfl rfl hse hr
  rw [if_neg c8, if_neg c8]
  by_cases c9 : x1 = 9
  · rw [if_pos c9, if_pos c9]
    exact eQ5.mk rfl rfl hse hr
  rw [if_neg c9, if_neg c9]
  exact eQ5.mk rfl rfl hse hr
end SQ

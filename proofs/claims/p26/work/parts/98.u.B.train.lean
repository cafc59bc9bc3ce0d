/-! queries: blocks, train, passes, the greatest DELAY -/
theorem eQ.one {sst th sst' k k' : Int32} (h : k = k') (hn : ¬ k' = -1) : eQ ((x_qanswerIfAny sst k).1, (x_qanswerIfAny sst k).2) ((m_orNone th sst' 1 k').1, (m_orNone th sst' 1 k').2.1, (m_orNone th sst' 1 k').2.2) := by
  subst h
  unfold x_qanswerIfAny m_orNone
  rw [if_neg hn, if_neg (show ¬ (1 : Int32) = 0 by decide)]
  exact ⟨rfl, rfl⟩
theorem eQ.non {sst th sst' k k' : Int32} (h : k = -1) : eQ ((x_qanswerIfAny sst k).1, (x_qanswerIfAny sst k).2) ((m_orNone th sst' 0 k').1, (m_orNone th sst' 0 k').2.1, (m_orNone th sst' 0 k').2.2) := by
  subst h
  unfold x_qanswerIfAny m_orNone
  rw [if_pos rfl, if_pos rfl]
  exact ⟨rfl, rfl⟩
theorem eQ.ans {sst th sst' k k' : Int32} (h : k = k') : eQ ((x_qanswer sst k).1, (x_qanswer sst k).2) ((m_gives th sst' k').1, (m_gives th sst' k').2.1, (m_gives th sst' k').2.2) := by
  subst h
  exact ⟨rfl, rfl⟩
theorem eQ.num {sst th sst' k k' : Int32} (h : k = k') (hn : ¬ k' = -1) : eQ ((x_qanswerIfAny sst k).1, (x_qanswerIfAny sst k).2) ((m_gives th sst' k').1, (m_gives th sst' k').2.1, (m_gives th sst' k').2.2) := by
  subst h
  unfold x_qanswerIfAny
  rw [if_neg hn]
  exact ⟨rfl, rfl⟩
theorem eQ.nil {sst th sst' k : Int32} (h : k = -1) : eQ ((x_qanswerIfAny sst k).1, (x_qanswerIfAny sst k).2) ((m_refuse th sst' 5).1, (m_refuse th sst' 5).2.1, (m_refuse th sst' 5).2.2) := by
  subst h
  unfold x_qanswerIfAny
  rw [if_pos rfl]
  exact ⟨rfl, rfl⟩
/-- what stays in bounds: NOW, DUE, DELAY, PASSES -/
def wZ (n : Nat) (w : List Int32) : Prop := ¬ gN w 201 < 0 ∧ (∀ t, t < n → ft w t 6 = 2 → ¬ ft w t 9 - gN w 201 = -1) ∧ (∀ t, t < n → ft w t 6 = 3 → ¬ m_delayOf w (nI t) < 0) ∧ ∀ k, k < 25 → ∃ v, v < 128 ∧ gN w (570 + k) = nI v
theorem pk128 {v : Nat} (hv : v < 128) : x_bitCount (nI v) = m_pk 32 0 (nI v) := by
  have : ∀ v : Fin 128, x_bitCount (nI v.val) = m_pk 32 0 (nI v.val) := by decide +kernel
  exact this ⟨v, hv⟩
theorem m3d {c : Nat} (h : c < 21) : nI c - nI c / 3 * 3 = nI (c % 3) := by
  have : ∀ c : Fin 21, nI c.val - nI c.val / 3 * 3 = nI (c.val % 3) := by decide +kernel
  exact this ⟨c, h⟩
section QB
variable {n S : Nat} {w ph sp ce ri du cm lf tra len frm tto wei fit way rid lon rk sta he lkd siz slo pms pmm pmt pst pwa : List Int32} {shu bus cel mi lks sst th sst' pk : Int32} {t : Nat}
theorem eq_passes (H : wg n S w) (Q : rQ n w pk pms pmm pmt pst pwa) (Z : wZ n w) (h : ¬ pk = 0) (x1 x2 : Int32) : eQ (x_qpasses pmt (nI n) sst x1 x2) (m_qpasses th sst' w x1 x2) := by
  have h5 := H.n5
  unfold x_qpasses m_qpasses
  rw [g_train H, g_train H]
  refine eQ.if (fun _ => eQ.mk rfl rfl) (fun c1 => eQ.if (fun _ => eQ.mk rfl rfl) (fun c2 => eQ.if (fun _ => eQ.mk rfl rfl) (fun c3 => ?_)))
  obtain ⟨t, ht, rfl⟩ := (isTrain_n H).mp c1
  obtain ⟨u, hu, rfl⟩ := (isTrain_n H).mp c2
  refine eQ.ans ?_
  have e : (570 : Int32) + 5 * nI t + nI u = nI (570 + (5 * t + u)) := by
    rw [Int32.add_assoc]; exact i5x 570 t u
  rw [i75, e, gA_n (by omega), gA_n (by omega), ((Q.on h).2.1 (5 * t + u) (by omega) (by omega)).2.2]
  obtain ⟨v, hv, q⟩ := Z.2.2.2 (5 * t + u) (by omega)
  rw [q]
  exact pk128 hv
theorem x_delay_n (H : wf n S w) (P : rP n w ph sp ce) (C : rC n w cm lf) (N : wEn n w) (O : rO n w mi lks rk sta he lkd) (Y : qY n S w tra len frm tto wei fit way rid lon cel) (ht : t < n) : x_delay sta ph cm tto lon (nI t) = if ft w t 6 = 3 then m_delayOf w (nI t) else -1 := by
  have h5 := H.n5
  have hS := H.S7
  have hT := H.T ht
  unfold x_delay m_delayOf
  rw [gA_n (by omega), gA_n (by omega), gA_n (by omega), gA_n (by omega), P.pph ht, Y.ptto ht, hT.2.1.1, i67, gA_n (by have := hT.2.1.2; omega), (C.2 t (tO w t) ht (by have := hT.2.1.2; omega)).1, (O.2.2.1 t ht).1, Y.plon ht, m_of11 (by omega), m_of3 (by omega)]
  by_cases c : ft w t 6 = 3
  · rw [if_pos c, if_pos c, N t ht c]
  · rw [if_neg c, if_neg c]
theorem gd_l (H : wf n S w) (P : rP n w ph sp ce) (C : rC n w cm lf) (N : wEn n w) (O : rO n w mi lks rk sta he lkd) (Y : qY n S w tra len frm tto wei fit way rid lon cel) (Z : wZ n w) : ∀ (f i : Nat) (v b : Int32), i + f = n → ¬ v < 0 → (b = 0 → v = 0) → x_greatestDelay_l4 sta ph cm tto lon f (nI i) v = m_greatestDelay_l6 w f (nI i) v b
  | 0, i, v, b, e, h0, hb => rfl
  | f + 1, i, v, b, e, h0, hb => by
    have h5 := H.n5
    unfold x_greatestDelay_l4 m_greatestDelay_l6
    rw [nI_1, m_of6 (by omega), x_delay_n H P C N O Y (t := i) (by omega)]
    by_cases c : ft w i 6 = 3
    · rw [if_pos c, if_pos c]
      have hd := Z.2.2.1 i (by omega) c
      generalize m_delayOf w (nI i) = D at hd ⊢
      have hm : ¬ iMx v D < 0 := by
        unfold iMx
        split <;> assumption
      have e1 : (if b = 0 then D else iMx v D) = iMx v D := by
        by_cases d : b = 0
        · rw [if_pos d, hb d]
          unfold iMx
          by_cases q : (0 : Int32) < D
          · rw [if_pos q]
          · rw [if_neg q]
            apply Int32.toInt_inj.mp
            rw [Int32.lt_iff_toInt_lt, show (0 : Int32).toInt = 0 from rfl] at hd q
            rw [show (0 : Int32).toInt = 0 from rfl]
            omega
        · rw [if_neg d]
      rw [e1]
      exact gd_l H P C N O Y Z f (i + 1) _ _ (by omega) hm (fun z => absurd z (by decide))
    · rw [if_neg c, if_neg c]
      have e1 : iMx v (-1) = v := by
        rw [Int32.lt_iff_toInt_lt, show (0 : Int32).toInt = 0 from rfl] at h0
        exact if_neg (fun q => by
          rw [Int32.lt_iff_toInt_lt, show (-1 : Int32).toInt = -1 from rfl] at q
          omega)
      rw [e1]
      exact gd_l H P C N O Y Z f (i + 1) _ _ (by omega) h0 hb
theorem x_gd (H : wf n S w) (P : rP n w ph sp ce) (C : rC n w cm lf) (N : wEn n w) (O : rO n w mi lks rk sta he lkd) (Y : qY n S w tra len frm tto wei fit way rid lon cel) (Z : wZ n w) : x_greatestDelay sta ph cm (nI n) tto lon = m_greatestDelay w := by
  unfold x_greatestDelay m_greatestDelay
  rw [H.gn, lpN_n0 (by have := H.n5; omega)]
  exact gd_l H P C N O Y Z n 0 0 0 (by omega) (by decide) (fun _ => rfl)
theorem rk_x_l {k : Nat} (O : ∀ k, k < n → gN rk k = gN w (196 + k)) (h5 : n ≤ 5) (hk : k < n) (he : gN w (196 + k) = nI t) : ∀ (f i : Nat), i + f = n → i ≤ k → (∀ j, i ≤ j → j < k → ¬ gN w (196 + j) = nI t) → x_placeInRank_l2 rk (nI t) f (nI i) = nI k
  | 0, i, e, h, hj => absurd h (by omega)
  | f + 1, i, e, h, hj => by
    unfold x_placeInRank_l2
    rw [nI_1, gA_n (by omega), O i (by omega)]
    by_cases d : i = k
    · rw [d, if_pos he]
    · rw [if_neg (hj i (by omega) (by omega))]
      exact rk_x_l O h5 hk he f (i + 1) (by omega) (by omega) (fun j h1 h2 => hj j (by omega) h2)
theorem rk_m_l {k : Nat} (h5 : k < 5) (he : gN w (196 + k) = nI t) : ∀ (f i : Nat), i + f = 4 → i ≤ k → (∀ j, i ≤ j → j < k → ¬ gN w (196 + j) = nI t) → m_rkl w (nI t) f (nI i) = nI k
  | 0, i, e, h, hj => by
    have : i = k := by omega
    rw [this]; rfl
  | f + 1, i, e, h, hj => by
    unfold m_rkl
    rw [nI_1, show (196 : Int32) + nI i = nI (196 + i) from nI_add 196 i, gA_n (by omega)]
    by_cases d : i = k
    · rw [d, if_pos he]
    · rw [if_neg (hj i (by omega) (by omega))]
      exact rk_m_l h5 he f (i + 1) (by omega) (by omega) (fun j h1 h2 => hj j (by omega) h2)
theorem x_rank (H : wf n S w) (O : ∀ k, k < n → gN rk k = gN w (196 + k)) (ht : t < n) : x_placeInRank rk (nI n) (nI t) = m_rankOf w (nI t) := by
  have h5 := H.n5
  obtain ⟨k, hk, he⟩ := H.R.2.1 t ht
  have hj : ∀ j, 0 ≤ j → j < k → ¬ gN w (196 + j) = nI t := fun j _ hj z => by
    have := H.R.2.2 j k (by omega) hk (by rw [z, he])
    omega
  unfold x_placeInRank m_rankOf
  rw [lpN_n0 (by omega)]
  exact (rk_x_l O h5 hk he n 0 (by omega) (by omega) hj).trans (rk_m_l (by omega) he 4 0 (by omega) (by omega) hj).symm
theorem eq_train (H : wf n S w) (P : rP n w ph sp ce) (D : rD n w du) (C : rC n w cm lf) (N : wEn n w) (O : rO n w mi lks rk sta he lkd) (Y : qY n S w tra len frm tto wei fit way rid lon cel) (V : ∀ t, t < n → gN siz t = ft w t 0 ∧ gN slo t = ft w t 4) (Z : wZ n w) (x1 x2 : Int32) : eQ (x_qtrain mi rk sta ph sp ce du he cm (nI n) siz frm tto slo wei lon sst x1 x2) (m_qtrain th sst' w x1 x2) := by
  have h5 := H.n5
  have hS := H.S7
  unfold x_qtrain m_qtrain
  rw [g_within, g_train H.g]
  by_cases c1 : m_isFrom x2 0 13 = 0
  · rw [if_pos c1, if_pos c1]; exact eQ.mk rfl rfl
  rw [if_neg c1, if_neg c1]
  by_cases c2 : m_isTrain w x1 = 0
  · rw [if_pos c2, if_pos c2]; exact eQ.mk rfl rfl
  rw [if_neg c2, if_neg c2]
  obtain ⟨t, ht, rfl⟩ := (isTrain_n H.g).mp c2
  have hT := H.T ht
  have h7 : ¬ ft w t 6 = 0 → ¬ ft w t 7 = -1 := fun q z => by
    rw [(hT.2.2.2.2.1 q).1] at z
    exact nI_nn (by have := (hT.2.2.2.2.1 q).2; omega) z
  by_cases q0 : x2 = 0
  · subst q0
    rw [if_pos rfl, if_neg (by decide), if_neg (by decide), if_neg (by decide), if_neg (by decide), if_neg (by decide), if_neg (by decide), if_neg (by decide)]
    exact eQ.ans (by rw [gA_n (by omega), (V t ht).1, m_of0 (by omega)])
  rw [if_neg q0]
  by_cases q1 : x2 = 1
  · subst q1
    rw [if_pos rfl, if_neg (by decide), if_neg (by decide), if_neg (by decide), if_neg (by decide), if_neg (by decide), if_neg (by decide), if_neg (by decide)]
    exact eQ.ans (by rw [gA_n (by omega), Y.pfrm ht, m_of1 (by omega)])
  rw [if_neg q1]
  by_cases q2 : x2 = 2
  · subst q2
    rw [if_pos rfl, if_neg (by decide), if_neg (by decide), if_neg (by decide), if_neg (by decide), if_neg (by decide), if_neg (by decide), if_neg (by decide)]
    exact eQ.ans (by rw [gA_n (by omega), Y.ptto ht, m_of2 (by omega)])
  rw [if_neg q2]
  by_cases q3 : x2 = 3
  · subst q3
    rw [if_pos rfl, if_neg (by decide), if_neg (by decide), if_neg (by decide), if_neg (by decide), if_neg (by decide), if_neg (by decide), if_neg (by decide)]
    exact eQ.ans (by rw [gA_n (by omega), (O.2.2.1 t ht).1, m_of3 (by omega)])
  rw [if_neg q3]
  by_cases q4 : x2 = 4
  · subst q4
    rw [if_pos rfl, if_neg (by decide), if_neg (by decide), if_neg (by decide), if_neg (by decide), if_neg (by decide), if_neg (by decide), if_neg (by decide)]
    exact eQ.ans (by rw [gA_n (by omega), (V t ht).2, m_of4 (by omega)])
  rw [if_neg q4]
  by_cases q5 : x2 = 5
  · subst q5
    rw [if_pos rfl, if_neg (by decide), if_neg (by decide), if_neg (by decide), if_neg (by decide), if_neg (by decide), if_neg (by decide), if_neg (by decide)]
    exact eQ.ans (by rw [gA_n (by omega), Y.pwei ht, m_of5 (by omega)])
  rw [if_neg q5]
  by_cases q6 : x2 = 6
  · subst q6
    rw [if_pos rfl, if_neg (by decide), if_neg (by decide), if_neg (by decide), if_neg (by decide), if_neg (by decide), if_neg (by decide), if_neg (by decide)]
    exact eQ.ans (by rw [gA_n (by omega), P.pph ht, m_of6 (by omega)])
  rw [if_neg q6]
  by_cases q7 : x2 = 7
  · rw [if_pos q7, if_pos q7]
    unfold x_stationOf
    rw [gA_n (by omega), P.pph ht, m_of6 (by omega), m_of7 (by omega)]
    by_cases d1 : ft w t 6 = 1
    · rw [if_pos d1, if_pos d1]
      exact eQ.one (by rw [gA_n (by omega), P.psp ht (by rw [d1]; decide)]) (h7 (by rw [d1]; decide))
    rw [if_neg d1, if_neg d1]
    by_cases d2 : ft w t 6 = 2
    · rw [if_pos d2, if_pos d2]
      exact eQ.one (by rw [gA_n (by omega), P.psp ht (by rw [d2]; decide)]) (h7 (by rw [d2]; decide))
    rw [if_neg d2, if_neg d2]
    exact eQ.non rfl
  rw [if_neg q7, if_neg q7]
  by_cases q8 : x2 = 8
  · rw [if_pos q8, if_pos q8]
    unfold x_trackOf
    rw [gA_n (by omega), P.pce ht]
    rcases H.g.place ht with ⟨g1, g2⟩ | ⟨g1, g2, g3, g4, -, -⟩
    · rw [g1, if_pos rfl, g2, show cI 99 = -1 from rfl, if_pos rfl]
      exact eQ.non rfl
    · have e1 : ¬ m_placeOf w (nI t) = -1 := by rw [g1]; exact nI_nn (by omega)
      have e2 : cI (cL w t) = nI (cL w t) := if_pos g3
      rw [if_neg e1, e2, if_neg (nI_nn (by omega)), m3d g3, g2]
      exact eQ.one rfl (nI_nn (by omega))
  rw [if_neg q8, if_neg q8]
  by_cases q9 : x2 = 9
  · rw [if_pos q9, if_pos q9]
    unfold x_minutesToGo
    rw [gA_n (by omega), P.pph ht, m_of6 (by omega), m_of9 (by omega), gA_201]
    by_cases d2 : ft w t 6 = 2
    · rw [if_pos d2, if_pos d2]
      exact eQ.one (by rw [gA_n (by omega), D.2 t ht d2, O.1]) (Z.2.1 t ht d2)
    · rw [if_neg d2, if_neg d2]
      exact eQ.non rfl
  rw [if_neg q9, if_neg q9]
  by_cases q10 : x2 = 10
  · rw [if_pos q10, if_pos q10]
    exact eQ.ans (by rw [gA_n (by omega), Y.plon ht])
  rw [if_neg q10, if_neg q10]
  by_cases q11 : x2 = 11
  · rw [if_pos q11, if_pos q11, x_delay_n H P C N O Y ht, m_of6 (by omega)]
    by_cases d3 : ft w t 6 = 3
    · rw [if_pos d3, if_pos d3]
      exact eQ.num rfl (fun z => Z.2.2.1 t ht d3 (by rw [z]; decide))
    · rw [if_neg d3, if_neg d3]
      exact eQ.nil rfl
  rw [if_neg q11, if_neg q11]
  by_cases q12 : x2 = 12
  · rw [if_pos q12, if_pos q12]
    unfold x_heldTill m_isHeld
    rw [gA_n (by omega), (O.2.2.1 t ht).2, m_of10 (by omega), gA_201, O.1]
    by_cases d : gN w 201 < ft w t 10
    · rw [if_pos d, if_pos d]
      refine eQ.one rfl (fun z => Z.1 ?_)
      rw [z] at d
      rw [Int32.lt_iff_toInt_lt] at d ⊢
      rw [show (-1 : Int32).toInt = -1 from rfl] at d
      rw [show (0 : Int32).toInt = 0 from rfl]
      omega
    · rw [if_neg d, if_neg d]
      exact eQ.non rfl
  rw [if_neg q12, if_neg q12]
  have q13 : x2 = 13 := by
    unfold m_isFrom at c1
    by_cases d1 : x2 < 0
    · rw [if_pos d1] at c1; exact absurd rfl c1
    rw [if_neg d1] at c1
    by_cases d2 : 13 < x2
    · rw [if_pos d2] at c1; exact absurd rfl c1
    rw [Int32.lt_iff_toInt_lt, show (0 : Int32).toInt = 0 from rfl] at d1
    rw [Int32.lt_iff_toInt_lt, show (13 : Int32).toInt = 13 from rfl] at d2
    have hne : ∀ (k : Int32), ¬ x2 = k → ¬ x2.toInt = k.toInt := fun k h z => h (Int32.toInt_inj.mp z)
    have a0 := hne 0 q0
    have a1 := hne 1 q1
    have a2 := hne 2 q2
    have a3 := hne 3 q3
    have a4 := hne 4 q4
    have a5 := hne 5 q5
    have a6 := hne 6 q6
    have a7 := hne 7 q7
    have a8 := hne 8 q8
    have a9 := hne 9 q9
    have a10 := hne 10 q10
    have a11 := hne 11 q11
    have a12 := hne 12 q12
    rw [show (0 : Int32).toInt = 0 from rfl] at a0
    rw [show (1 : Int32).toInt = 1 from rfl] at a1
    rw [show (2 : Int32).toInt = 2 from rfl] at a2
    rw [show (3 : Int32).toInt = 3 from rfl] at a3
    rw [show (4 : Int32).toInt = 4 from rfl] at a4
    rw [show (5 : Int32).toInt = 5 from rfl] at a5
    rw [show (6 : Int32).toInt = 6 from rfl] at a6
    rw [show (7 : Int32).toInt = 7 from rfl] at a7
    rw [show (8 : Int32).toInt = 8 from rfl] at a8
    rw [show (9 : Int32).toInt = 9 from rfl] at a9
    rw [show (10 : Int32).toInt = 10 from rfl] at a10
    rw [show (11 : Int32).toInt = 11 from rfl] at a11
    rw [show (12 : Int32).toInt = 12 from rfl] at a12
    exact Int32.toInt_inj.mp (by rw [show (13 : Int32).toInt = 13 from rfl]; omega)
  rw [if_pos q13]
  exact eQ.ans (x_rank H O.2.1 ht)
end QB

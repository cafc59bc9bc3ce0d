/-! who may ask: both sides; queries that read alone -/
theorem predn {n k : Nat} (hn : n < 2 ^ 30) (hk : k < 2 ^ 30) : (nI n - nI k).toInt = (n : Int) - (k : Int) := by
  rw [Int32.toInt_sub, nI_toInt (by omega), nI_toInt (by omega), Int.bmod_eq_of_le (by omega) (by omega)]
section GUARD
variable {n S : Nat} {w tra len frm tto wei fit way rid lon : List Int32} {cel x y : Int32}
theorem from_n {k m : Nat} (hm : m < 2 ^ 30) (hk : k < 2 ^ 30) : m_isFrom x 0 (nI m - nI k) = if x < 0 then 0 else if x < nI m - nI k + 1 then 1 else 0 := by
  unfold m_isFrom
  by_cases c : x < 0
  · rw [if_pos c, if_pos c]
  · rw [if_neg c, if_neg c]
    have e : (nI m - nI k < x) ↔ ¬ x < nI m - nI k + 1 := by
      rw [Int32.lt_iff_toInt_lt, Int32.lt_iff_toInt_lt, Int32.toInt_add, predn hm hk, show (1 : Int32).toInt = 1 from rfl, Int.bmod_eq_of_le (by omega) (by omega)]
      omega
    by_cases d : x < nI m - nI k + 1
    · rw [if_pos d, if_neg (fun z => e.mp z d)]
    · rw [if_neg d, if_pos (e.mpr d)]
theorem sub_cancel1 (m : Nat) : nI m - 1 + 1 = nI m := Int32.sub_add_cancel _ _
theorem g_train (H : wg n S w) (x : Int32) : x_isTrain (nI n) x = m_isTrain w x := by
  unfold x_isTrain m_isTrain
  rw [H.gn, show (1 : Int32) = nI 1 from rfl, from_n (by have := H.n5; omega) (by decide), show nI n - nI 1 + 1 = nI n from sub_cancel1 n]
  rfl
theorem g_stat (H : wg n S w) (x : Int32) : x_isStation (nI S) x = m_isStation w x := by
  unfold x_isStation m_isStation
  rw [H.gs, show (1 : Int32) = nI 1 from rfl, from_n (by have := H.S7; omega) (by decide), show nI S - nI 1 + 1 = nI S from sub_cancel1 S]
  rfl
theorem g_sect (H : wg n S w) (x : Int32) : x_isSection (nI S) x = m_isSection w x := by
  unfold x_isSection m_isSection
  rw [H.gs, show (2 : Int32) = nI 2 from rfl, from_n (by have := H.S7; omega) (by decide)]
  have e : nI S - nI 2 + 1 = nI S - 1 := by
    apply Int32.toInt_inj.mp
    have := H.S7
    rw [Int32.toInt_add, predn (by omega) (by decide), show (1 : Int32).toInt = 1 from rfl, Int.bmod_eq_of_le (by omega) (by omega), show (1 : Int32) = nI 1 from rfl, predn (by omega) (by decide)]
    omega
  rw [e]
theorem stat_n (H : wg n S w) {x : Int32} : ¬ m_isStation w x = 0 ↔ ∃ s, s < S ∧ x = nI s := by
  have hS := H.S7
  rw [← g_stat H]
  unfold x_isStation
  constructor
  · intro h
    by_cases c1 : x < 0
    · rw [if_pos c1] at h; exact absurd rfl h
    rw [if_neg c1] at h
    by_cases c2 : x < nI S
    · rw [Int32.lt_iff_toInt_lt, show (0 : Int32).toInt = 0 from rfl] at c1
      rw [Int32.lt_iff_toInt_lt, nI_toInt (by omega)] at c2
      exact ⟨x.toInt.toNat, by omega, Int32.toInt_inj.mp (by rw [nI_toInt (by omega)]; omega)⟩
    · rw [if_neg c2] at h; exact absurd rfl h
  · rintro ⟨s, hs, rfl⟩
    rw [if_neg (nI_pos (by omega)), if_pos ((nI_ltI (by omega) (by omega)).mpr hs)]
    decide
theorem sect_n (H : wg n S w) {x : Int32} : ¬ m_isSection w x = 0 ↔ ∃ k, k + 1 < S ∧ x = nI k := by
  have hS := H.S7
  rw [← g_sect H]
  unfold x_isSection
  have e1 : (nI S - 1).toInt = (S : Int) - 1 := predn (k := 1) (by omega) (by decide)
  constructor
  · intro h
    by_cases c1 : x < 0
    · rw [if_pos c1] at h; exact absurd rfl h
    rw [if_neg c1] at h
    by_cases c2 : x < nI S - 1
    · rw [Int32.lt_iff_toInt_lt, show (0 : Int32).toInt = 0 from rfl] at c1
      rw [Int32.lt_iff_toInt_lt, e1] at c2
      exact ⟨x.toInt.toNat, by omega, Int32.toInt_inj.mp (by rw [nI_toInt (by omega)]; omega)⟩
    · rw [if_neg c2] at h; exact absurd rfl h
  · rintro ⟨s, hs, rfl⟩
    rw [if_neg (nI_pos (by omega)), if_pos]
    · decide
    · rw [Int32.lt_iff_toInt_lt, e1, nI_toInt (by omega)]
      omega
theorem g_track (H : wg n S w) (Y : qY n S w tra len frm tto wei fit way rid lon cel) (x y : Int32) : x_isTrack (nI S) tra x y = m_isTrack w x y := by
  unfold x_isTrack m_isTrack
  rw [g_stat H]
  by_cases c : m_isStation w x = 0
  · rw [if_pos c, if_pos c]
  · rw [if_neg c, if_neg c]
    obtain ⟨s, hs, rfl⟩ := (stat_n H).mp c
    have hS := H.S7
    have hw := H.St (s := s) (by omega)
    rw [gA_n (by omega), Y.ptra hs, m_st1 (by omega), hw.1, show (1 : Int32) = nI 1 from rfl, from_n (by have := hw.2.1; omega) (by decide), show nI (mN w s) - nI 1 + 1 = nI (mN w s) from sub_cancel1 _]
    by_cases d : y < 0
    · rw [if_pos d, if_pos d, if_pos rfl]
    · rw [if_neg d, if_neg d]
      by_cases e : y < nI (mN w s)
      · rw [if_pos e, if_pos e]; rfl
      · rw [if_neg e, if_neg e, if_pos rfl]
theorem track_n (H : wg n S w) {x y : Int32} : ¬ m_isTrack w x y = 0 ↔ ∃ s k, s < S ∧ k < mN w s ∧ x = nI s ∧ y = nI k := by
  have hS := H.S7
  unfold m_isTrack
  constructor
  · intro h
    by_cases c : m_isStation w x = 0
    · rw [if_pos c] at h; exact absurd rfl h
    rw [if_neg c] at h
    obtain ⟨s, hs, rfl⟩ := (stat_n H).mp c
    have hw := H.St (s := s) (by omega)
    rw [m_st1 (by omega), hw.1, show (1 : Int32) = nI 1 from rfl, from_n (by have := hw.2.1; omega) (by decide), show nI (mN w s) - nI 1 + 1 = nI (mN w s) from sub_cancel1 _] at h
    by_cases d : y < 0
    · rw [if_pos d, if_pos rfl] at h; exact absurd rfl h
    rw [if_neg d] at h
    by_cases e : y < nI (mN w s)
    · rw [Int32.lt_iff_toInt_lt, show (0 : Int32).toInt = 0 from rfl] at d
      rw [Int32.lt_iff_toInt_lt, nI_toInt (by have := hw.2.1; omega)] at e
      exact ⟨s, y.toInt.toNat, hs, by omega, rfl, Int32.toInt_inj.mp (by rw [nI_toInt (by have := hw.2.1; omega)]; omega)⟩
    · rw [if_neg e, if_pos rfl] at h; exact absurd rfl h
  · rintro ⟨s, k, hs, hk, rfl, rfl⟩
    have hw := H.St (s := s) (by omega)
    rw [if_neg ((stat_n H).mpr ⟨s, hs, rfl⟩), m_st1 (by omega), hw.1, show (1 : Int32) = nI 1 from rfl, from_n (by have := hw.2.1; omega) (by decide), show nI (mN w s) - nI 1 + 1 = nI (mN w s) from sub_cancel1 _, if_neg (nI_pos (by have := hw.2.1; omega)), if_pos ((nI_ltI (by have := hw.2.1; omega) (by have := hw.2.1; omega)).mpr hk), if_neg (by decide)]
    decide
theorem g_within (a b c : Int32) : x_isWithin a b c = m_isFrom a b c := rfl
end GUARD
/-- an answer and its status are the reference's -/
def eQ (z : Int32 × Int32) (y : Int32 × Int32 × Int32) : Prop := z.1 = y.1 ∧ z.2 = y.2.2
theorem eQ.mk {z : Int32 × Int32} {y : Int32 × Int32 × Int32} (h1 : z.1 = y.1) (h2 : z.2 = y.2.2) : eQ z y := ⟨h1, h2⟩
theorem eQ.any {sst th sst' k k' : Int32} (h : k = k') : eQ ((x_qanswerIfAny sst k).1, (x_qanswerIfAny sst k).2) (if k' = -1 then ((m_refuse th sst' 5).1, (m_refuse th sst' 5).2.1, (m_refuse th sst' 5).2.2) else ((m_gives th sst' k').1, (m_gives th sst' k').2.1, (m_gives th sst' k').2.2)) := by
  subst h
  unfold x_qanswerIfAny
  by_cases c : k = -1
  · rw [if_pos c, if_pos c]; exact ⟨rfl, rfl⟩
  · rw [if_neg c, if_neg c]; exact ⟨rfl, rfl⟩
theorem eQ.if {c : Prop} {h1 h2 : Decidable c} {a b : Int32 × Int32} {a' b' : Int32 × Int32 × Int32} (ha : c → eQ a a') (hb : ¬ c → eQ b b') : eQ (@ite _ c h1 a b) (@ite _ c h2 a' b') := by
  by_cases d : c
  · rw [if_pos d, if_pos d]; exact ha d
  · rw [if_neg d, if_neg d]; exact hb d
section QS
variable {n S : Nat} {w ph sp ce ri du cm lf pfa prs prr tra len frm tto wei fit way rid lon rk sta he lkd us pms pmm pmt pst pwa : List Int32} {shu bus cel mi pk pev lks sst th sst' : Int32}
theorem i67 (t s : Nat) : nI t * 7 + nI s = nI (7 * t + s) := by
  show nI t * nI 7 + _ = _
  rw [nI_mul, nI_add]
  congr 1
  omega
theorem eq_time (H : wg n S w) (C : rC n w cm lf) (x1 x2 x3 : Int32) : eQ (x_qtime cm lf (nI S) (nI n) sst x1 x2 x3) (m_qtime th sst' w x1 x2 x3) := by
  have h5 := H.n5
  have hS := H.S7
  unfold x_qtime m_qtime
  rw [g_train H, g_stat H]
  refine eQ.if (fun _ => eQ.mk rfl rfl) (fun c1 => eQ.if (fun _ => eQ.mk rfl rfl) (fun c2 => ?_))
  obtain ⟨t, ht, rfl⟩ := (isTrain_n H).mp c1
  obtain ⟨s, hs, rfl⟩ := (stat_n H).mp c2
  refine eQ.any ?_
  rw [i67, gA_n (by omega), gA_n (by omega), (C.2 t s ht (by omega)).1, (C.2 t s ht (by omega)).2]
  by_cases c : x3 = 0
  · rw [if_pos c, if_pos c, m_of13 (by omega) (by omega)]
  · rw [if_neg c, if_neg c, m_of20 (by omega) (by omega)]
theorem eq_section (H : wg n S w) (I : rI n w ri) (x1 : Int32) : eQ (x_qsection ri (nI S) sst x1) (m_qsection th sst' w x1) := by
  have hS := H.S7
  unfold x_qsection m_qsection
  rw [g_sect H]
  refine eQ.if (fun _ => eQ.mk rfl rfl) (fun c => ?_)
  obtain ⟨k, hk, rfl⟩ := (sect_n H).mp c
  refine eQ.any ?_
  rw [gA_n (by omega), I.2 k (by omega), H.whoOn (by omega)]
theorem eq_use (H : wg n S w) (K : qK w us) (x1 : Int32) : eQ (x_quse us (nI S) sst x1) (m_quse th sst' w x1) := by
  have hS := H.S7
  unfold x_quse m_quse
  rw [g_sect H]
  refine eQ.if (fun _ => eQ.mk rfl rfl) (fun c => eQ.mk ?_ rfl)
  obtain ⟨k, hk, rfl⟩ := (sect_n H).mp c
  rw [gA_n (by omega), K.2 k (by omega), show (204 : Int32) + nI k = nI (204 + k) from nI_add 204 k, gA_n (by omega)]
  rfl
theorem rQ.on (Q : rQ n w pk pms pmm pmt pst pwa) (h : ¬ pk = 0) : (pms.length = 25 ∧ pmm.length = 25 ∧ pmt.length = 25 ∧ pst.length = 7 ∧ pwa.length = 5) ∧ (∀ k, k < 25 → 0 < n → gN pms k = gN w (246 + k) ∧ gN pmm k = gN w (271 + k) ∧ gN pmt k = gN w (570 + k)) ∧ (∀ s, s < 7 → gN pst s = gN w (595 + s)) ∧ ∀ t, t < n → gN pwa t = ft w t 12 := by
  rcases Q with Q | Q
  · exact absurd Q h
  · exact Q
theorem eq_waits (H : wg n S w) (Q : rQ n w pk pms pmm pmt pst pwa) (h : ¬ pk = 0) (x1 : Int32) : eQ (x_qwaits pwa (nI n) sst x1) (m_qwaits th sst' w x1) := by
  have h5 := H.n5
  unfold x_qwaits m_qwaits
  rw [g_train H]
  refine eQ.if (fun _ => eQ.mk rfl rfl) (fun c => eQ.mk ?_ rfl)
  obtain ⟨t, ht, rfl⟩ := (isTrain_n H).mp c
  rw [gA_n (by omega), (Q.on h).2.2.2 t ht, m_of12 (by omega)]
  rfl
theorem eq_stood (H : wg n S w) (Q : rQ n w pk pms pmm pmt pst pwa) (h : ¬ pk = 0) (x1 : Int32) : eQ (x_qstood pst (nI S) sst x1) (m_qstood th sst' w x1) := by
  have hS := H.S7
  unfold x_qstood m_qstood
  rw [g_stat H]
  refine eQ.if (fun _ => eQ.mk rfl rfl) (fun c => eQ.mk ?_ rfl)
  obtain ⟨s, hs, rfl⟩ := (stat_n H).mp c
  rw [gA_n (by omega), (Q.on h).2.2.1 s (by omega), show (595 : Int32) + nI s = nI (595 + s) from nI_add 595 s, gA_n (by omega)]
  rfl
theorem i5x (a t u : Nat) : nI a + (5 * nI t + nI u) = nI (a + (5 * t + u)) := by
  show nI a + (nI 5 * nI t + nI u) = _
  rw [nI_mul, nI_add, nI_add]
theorem eq_together (H : wg n S w) (Q : rQ n w pk pms pmm pmt pst pwa) (P : wPs n w) (h : ¬ pk = 0) (hw : ∀ k, k < 25 → (gN w (246 + k) = -1 ↔ gN w (271 + k) = -1)) (x1 x2 x3 : Int32) : eQ (x_qtogether pms pmm (nI n) sst x1 x2 x3) (m_qtogether th sst' w x1 x2 x3) := by
  have h5 := H.n5
  unfold x_qtogether m_qtogether
  rw [g_train H, g_train H]
  refine eQ.if (fun _ => eQ.mk rfl rfl) (fun c1 => eQ.if (fun _ => eQ.mk rfl rfl) (fun c2 => eQ.if (fun _ => eQ.mk rfl rfl) (fun c3 => ?_)))
  obtain ⟨t, ht, rfl⟩ := (isTrain_n H).mp c1
  obtain ⟨u, hu, rfl⟩ := (isTrain_n H).mp c2
  have q := (Q.on h).2.1 (5 * t + u) (by omega) (by omega)
  rw [i75, gA_n (by omega), gA_n (by omega), q.1, q.2.1, show (246 : Int32) + (5 * nI t + nI u) = nI (246 + (5 * t + u)) from i5x 246 t u, gA_n (i := 246 + (5 * t + u)) (by omega)]
  by_cases c : x3 = 0
  · rw [if_pos c, if_pos c, show (246 : Int32) + (5 * nI t + nI u) = nI (246 + (5 * t + u)) from i5x 246 t u, gA_n (i := 246 + (5 * t + u)) (by omega)]
    exact eQ.any rfl
  · rw [if_neg c, if_neg c, show (271 : Int32) + (5 * nI t + nI u) = nI (271 + (5 * t + u)) from i5x 271 t u, gA_n (i := 271 + (5 * t + u)) (by omega)]
    unfold x_qanswerIfAny
    have e := hw (5 * t + u) (by omega)
    by_cases d : gN w (246 + (5 * t + u)) = -1
    · rw [if_pos d, if_pos (e.mp d)]; exact ⟨rfl, rfl⟩
    · rw [if_neg d, if_neg (fun z => d (e.mpr z))]; exact ⟨rfl, rfl⟩
theorem eq_event (H : wg n S w) (G : rG w pk pev pfa prs prr) (h : ¬ pk = 0) (x1 x2 : Int32) : eQ (x_qevent pev pfa sst x1 x2) (m_qevent_ th sst' w x1 x2) := by
  rcases G with G | ⟨-, ⟨e, g1, g2, g3, g4⟩, -⟩
  · exact absurd G h
  unfold x_qevent m_qevent_
  rw [g_within, gA_309, g2, g3]
  refine eQ.if (fun _ => eQ.mk rfl rfl) (fun c1 => eQ.if (fun _ => eQ.mk rfl rfl) (fun c2 => eQ.if (fun _ => eQ.mk rfl rfl) (fun c3 => eQ.if (fun c4 => eQ.mk ?_ rfl) (fun _ => eQ.mk rfl rfl))))
  rw [if_neg c3] at c2
  obtain ⟨k, hk, rfl⟩ : ∃ k, k < e ∧ x1 = nI k := by
    rw [Int32.lt_iff_toInt_lt, nI_toInt (by omega)] at c4
    rw [Int32.lt_iff_toInt_lt, show (-1 : Int32).toInt = -1 from rfl] at c1
    have : ¬ x1.toInt = -1 := fun z => c3 (Int32.toInt_inj.mp (by rw [z]; rfl))
    exact ⟨x1.toInt.toNat, by omega, Int32.toInt_inj.mp (by rw [nI_toInt (by omega)]; omega)⟩
  obtain ⟨a, ha, rfl⟩ : ∃ a, a < 4 ∧ x2 = nI a := by
    unfold m_isFrom at c2
    by_cases d1 : x2 < 0
    · rw [if_pos d1] at c2; exact absurd rfl c2
    rw [if_neg d1] at c2
    by_cases d2 : 3 < x2
    · rw [if_pos d2] at c2; exact absurd rfl c2
    rw [Int32.lt_iff_toInt_lt, show (0 : Int32).toInt = 0 from rfl] at d1
    rw [Int32.lt_iff_toInt_lt, show (3 : Int32).toInt = 3 from rfl] at d2
    exact ⟨x2.toInt.toNat, by omega, Int32.toInt_inj.mp (by rw [nI_toInt (by omega)]; omega)⟩
  have i0 : (4 : Int32) * nI k + nI a = nI (4 * k + a) := by
    show nI 4 * nI k + nI a = _
    rw [nI_mul, nI_add]
  have i1 : (310 : Int32) + 4 * nI k + nI a = nI (310 + (4 * k + a)) := by
    rw [Int32.add_assoc, i0]; exact nI_add 310 _
  rw [i0, i1, gA_n (by omega), gA_n (by omega), g4 _ (by omega)]
  rfl
theorem eq_gone (H : wg n S w) (G : rG w pk pev pfa prs prr) (h : ¬ pk = 0) (x1 x2 : Int32) : eQ (x_qgone prs prr (nI S) sst x1 x2) (m_qgone th sst' w x1 x2) := by
  have hS := H.S7
  rcases G with G | ⟨-, -, g⟩
  · exact absurd G h
  unfold x_qgone m_qgone
  rw [g_sect H]
  refine eQ.if (fun _ => eQ.mk rfl rfl) (fun c1 => eQ.if (fun _ => eQ.mk rfl rfl) (fun c2 => ?_))
  obtain ⟨k, hk, rfl⟩ := (sect_n H).mp c2
  obtain ⟨g', q1, q2, q3, q4⟩ := g k (by omega)
  have i1 : (210 : Int32) + nI k = nI (210 + k) := nI_add 210 k
  rw [i1, gA_n (l := prs) (by omega), gA_n (l := w) (i := 210 + k) (by omega), q2, q3]
  refine eQ.if (fun _ => eQ.mk rfl rfl) (fun c3 => eQ.if (fun c4 => eQ.mk ?_ rfl) (fun _ => eQ.mk rfl rfl))
  obtain ⟨j, hj, rfl⟩ : ∃ j, j < g' ∧ x2 = nI j := by
    rw [Int32.lt_iff_toInt_lt, nI_toInt (by omega)] at c4
    rw [Int32.lt_iff_toInt_lt, show (-1 : Int32).toInt = -1 from rfl] at c1
    have : ¬ x2.toInt = -1 := fun z => c3 (Int32.toInt_inj.mp (by rw [z]; rfl))
    exact ⟨x2.toInt.toNat, by omega, Int32.toInt_inj.mp (by rw [nI_toInt (by omega)]; omega)⟩
  have i2 : (216 : Int32) + 5 * nI k + nI j = nI (216 + 5 * k + j) := by
    show nI 216 + nI 5 * nI k + nI j = _
    rw [nI_mul, nI_add, nI_add]
  rw [i75, i2, gA_n (by omega), gA_n (by omega), q4 j hj]
  rfl
theorem eq_links (H : wf n S w) (P : rP n w ph sp ce) (C : rC n w cm lf) (O : rO n w mi lks rk sta he lkd) (x1 x2 : Int32) : eQ (x_qlinks lks ph sp cm lkd sst x1 x2) (m_qlinks th sst' w x1 x2) := by
  obtain ⟨m, h1, h2, h3, h4⟩ := lnk H O
  unfold x_qlinks m_qlinks
  rw [g_within, gA_296, h3, h2]
  refine eQ.if (fun _ => eQ.mk rfl rfl) (fun c1 => eQ.if (fun _ => eQ.mk rfl rfl) (fun c2 => eQ.if (fun _ => eQ.mk rfl rfl) (fun c3 => ?_)))
  rw [if_neg c3] at c2
  by_cases c4 : x1 < nI m
  · rw [if_pos c4, if_pos c4]
    obtain ⟨k, hk, rfl⟩ : ∃ k, k < m ∧ x1 = nI k := by
      rw [Int32.lt_iff_toInt_lt, nI_toInt (by omega)] at c4
      rw [Int32.lt_iff_toInt_lt, show (-1 : Int32).toInt = -1 from rfl] at c1
      have : ¬ x1.toInt = -1 := fun z => c3 (Int32.toInt_inj.mp (by rw [z]; rfl))
      exact ⟨x1.toInt.toNat, by omega, Int32.toInt_inj.mp (by rw [nI_toInt (by omega)]; omega)⟩
    by_cases c5 : x2 = 3
    · rw [if_pos c5, if_pos c5, x_lk H P C O (k := k) (by rw [h2]; exact c4) (by omega)]
      exact eQ.mk rfl rfl
    · rw [if_neg c5, if_neg c5]
      obtain ⟨t, s, q, -, -, -, -, l0, l1, l2, a0, a1, a2⟩ := h4 k hk
      refine eQ.mk ?_ rfl
      show gA lkd (3 * nI k + x2) = m_link0 w (nI k) x2
      obtain ⟨a, ha, rfl⟩ : ∃ a, a < 3 ∧ x2 = nI a := by
        unfold m_isFrom at c2
        by_cases d1 : x2 < 0
        · rw [if_pos d1] at c2; exact absurd rfl c2
        rw [if_neg d1] at c2
        by_cases d2 : 3 < x2
        · rw [if_pos d2] at c2; exact absurd rfl c2
        rw [Int32.lt_iff_toInt_lt, show (0 : Int32).toInt = 0 from rfl] at d1
        rw [Int32.lt_iff_toInt_lt, show (3 : Int32).toInt = 3 from rfl] at d2
        have : ¬ x2.toInt = 3 := fun z => c5 (Int32.toInt_inj.mp (by rw [z]; rfl))
        exact ⟨x2.toInt.toNat, by omega, Int32.toInt_inj.mp (by rw [nI_toInt (by omega)]; omega)⟩
      match a, ha with
      | 0, _ => rw [show nI 0 = (0 : Int32) from rfl, l0, Int32.add_zero]; exact a0
      | 1, _ => rw [show nI 1 = (1 : Int32) from rfl, l1]; exact a1
      | 2, _ => rw [show nI 2 = (2 : Int32) from rfl, l2]; exact a2
  · rw [if_neg c4, if_neg c4]
    exact eQ.mk rfl rfl
end QS

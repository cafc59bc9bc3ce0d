/-! queries of places: station, track, fits, late, train -/
theorem i3x (s i : Nat) : nI s * 3 + nI i = nI (3 * s + i) := by
  show nI s * nI 3 + _ = _
  rw [nI_mul, nI_add]
  congr 1
  omega
theorem tb_shl {x : Int32} {a c : Nat} (ha : a < 32) (hc : c < 32) : tb (x <<< ((nI a) &&& 31)) c = (decide (a ≤ c) && tb x (c - a)) := by
  unfold tb
  have e : ((nI a &&& 31).toBitVec.smod 32).toNat = a := by
    have : ∀ a : Fin 32, ((nI a.val &&& 31).toBitVec.smod 32).toNat = a.val := by decide +kernel
    exact this ⟨a, ha⟩
  rw [Int32.toBitVec_shiftLeft]
  show (x.toBitVec <<< ((nI a &&& 31).toBitVec.smod 32).toNat).getLsbD c = _
  rw [e, BitVec.getLsbD_shiftLeft, decide_eq_true hc, Bool.true_and]
  congr 1
  by_cases d : a ≤ c
  · rw [decide_eq_true d, decide_eq_false (by omega)]; rfl
  · rw [decide_eq_false d, decide_eq_true (by omega)]; rfl
theorem tb_ones {m c : Nat} (hm : m < 4) (hc : c < 32) : tb ((1 <<< ((nI m) &&& 31)) - 1) c = decide (c < m) := by
  have : ∀ (m : Fin 4) (c : Fin 32), tb ((1 <<< ((nI m.val) &&& 31)) - 1) c.val = decide (c.val < m.val) := by decide +kernel
  exact this ⟨m, hm⟩ ⟨c, hc⟩
theorem and_0 {x y : Int32} : x &&& y = 0 ↔ ∀ c, c < 32 → ¬ (tb x c = true ∧ tb y c = true) := by
  constructor
  · intro h c hc z
    have : tb (x &&& y) c = true := by rw [tb_and, z.1, z.2]; rfl
    rw [h, tb_0] at this
    cases this
  · intro h
    apply tb_ext
    intro c hc
    rw [tb_and, tb_0]
    apply Bool.eq_false_iff.mpr
    intro z
    exact h c hc ((Bool.and_eq_true _ _).mp z)
section QP
variable {n S : Nat} {w ph sp ce ri du cm lf tra len frm tto wei fit way rid lon rk sta he lkd : List Int32} {shu bus cel mi lks sst th sst' : Int32} {t : Nat}
theorem tb_cells (H : wg n S w) (Y : qY n S w tra len frm tto wei fit way rid lon cel) {s c : Nat} (hs : s < S) (hc : c < 32) : tb (x_cellsOf tra (nI s)) c = decide (3 * s ≤ c ∧ c < 3 * s + mN w s) := by
  have hS := H.S7
  have hw := H.St (s := s) (by omega)
  unfold x_cellsOf
  have e : nI s * 3 = nI (3 * s) := by
    show nI s * nI 3 = _
    rw [nI_mul]
    congr 1
    omega
  rw [gA_n (by omega), Y.ptra hs, hw.1, e, tb_shl (by omega) hc, tb_ones (by have := hw.2.1; omega) (by omega)]
  by_cases d : 3 * s ≤ c
  · rw [decide_eq_true d, Bool.true_and]
    by_cases d2 : c - 3 * s < mN w s
    · rw [decide_eq_true d2, decide_eq_true ⟨d, by omega⟩]
    · rw [decide_eq_false d2, decide_eq_false (fun z => d2 (by omega))]
  · rw [decide_eq_false d, Bool.false_and, decide_eq_false (fun z => d z.1)]
theorem doesFit_l (H : wg n S w) (ht : t < n) {s : Nat} (hs : s < S) : ∀ (f i : Nat), i + f ≤ 3 → (m_doesFit_l2 w (nI t) (nI s) f (nI i) = 0 ↔ ∀ k, i ≤ k → k < i + f → fs w s (2 + k) < ft w t 0)
  | 0, i, e => ⟨fun _ k h1 h2 => absurd h2 (by omega), fun _ => rfl⟩
  | f + 1, i, e => by
    have hS := H.S7
    have h5 := H.n5
    unfold m_doesFit_l2
    rw [m_st2 (by omega) (by omega), m_of0 (by omega), nI_1]
    by_cases c : fs w s (2 + i) < ft w t 0
    · rw [if_pos c, doesFit_l H ht hs f (i + 1) (by omega)]
      constructor
      · intro h k h1 h2
        by_cases d : k = i
        · rw [d]; exact c
        · exact h k (by omega) (by omega)
      · intro h k h1 h2
        exact h k (by omega) (by omega)
    · rw [if_neg c]
      exact ⟨fun z => absurd z (by decide), fun h => absurd (h i (by omega) (by omega)) c⟩
theorem doesFit_n (H : wg n S w) (ht : t < n) {s : Nat} (hs : s < S) : m_doesFit w (nI t) (nI s) = 0 ↔ ∀ k, k < mN w s → fs w s (2 + k) < ft w t 0 := by
  have hS := H.S7
  have hw := H.St (s := s) (by omega)
  unfold m_doesFit
  rw [m_st1 (by omega), hw.1, lpN_n0 (by have := hw.2.1; omega)]
  rw [show (0 : Int32) = nI 0 from rfl]
  refine (doesFit_l H ht hs (mN w s) 0 (by have := hw.2.1; omega)).trans ⟨fun h k hk => h k (by omega) (by omega), fun h k h1 h2 => h k (by omega)⟩
theorem fit_n (H : wg n S w) (Y : qY n S w tra len frm tto wei fit way rid lon cel) (ht : t < n) {s : Nat} (hs : s < S) : (gA fit (nI t)) &&& (x_cellsOf tra (nI s)) = 0 ↔ m_doesFit w (nI t) (nI s) = 0 := by
  have hS := H.S7
  have h5 := H.n5
  have hw := (H.St (s := s) (by omega)).2.1
  rw [doesFit_n H ht hs, gA_n (by omega), and_0]
  constructor
  · intro h k hk
    refine Classical.byContradiction (fun z => h (3 * s + k) (by omega) ⟨(Y.pfit ht (by omega)).mpr ?_, ?_⟩)
    · rw [show (3 * s + k) / 3 = s by omega, show (3 * s + k) % 3 = k by omega]
      exact ⟨by omega, hs, hk, z⟩
    · rw [tb_cells H Y hs (by omega)]
      exact decide_eq_true ⟨by omega, by omega⟩
  · rintro h c hc ⟨z1, z2⟩
    rw [tb_cells H Y hs hc, decide_eq_true_iff] at z2
    have z := (Y.pfit ht hc).mp z1
    rw [show c / 3 = s by omega, show c % 3 = c - 3 * s by omega] at z
    exact z.2.2.2 (h (c - 3 * s) (by omega))
theorem eq_fits_l (H : wg n S w) (Y : qY n S w tra len frm tto wei fit way rid lon cel) (ht : t < n) : ∀ (f i : Nat) (v : Int32), i + f = S → eQ (x_qfits_l18 tra fit (nI t) f (nI i) v sst) (m_qfits_l18 w (nI t) f (nI i) v th sst')
  | 0, i, v, e => eQ.mk rfl rfl
  | f + 1, i, v, e => by
    unfold x_qfits_l18 m_qfits_l18
    rw [nI_1]
    by_cases c : m_doesFit w (nI t) (nI i) = 0
    · rw [if_pos c, if_pos ((fit_n H Y ht (by omega)).mpr c), Int32.or_zero]
      exact eq_fits_l H Y ht f (i + 1) v (by omega)
    · rw [if_neg c, if_neg (fun z => c ((fit_n H Y ht (by omega)).mp z))]
      exact eq_fits_l H Y ht f (i + 1) _ (by omega)
theorem eq_fits (H : wg n S w) (Y : qY n S w tra len frm tto wei fit way rid lon cel) (x1 : Int32) : eQ (x_qfits (nI S) (nI n) tra fit sst x1) (m_qfits th sst' w x1) := by
  unfold x_qfits m_qfits
  rw [g_train H, H.gs, lpN_n0 (by have := H.S7; omega)]
  refine eQ.if (fun _ => eQ.mk rfl rfl) (fun c1 => ?_)
  obtain ⟨t, ht, rfl⟩ := (isTrain_n H).mp c1
  exact eq_fits_l H Y ht S 0 0 (Nat.zero_add S)
theorem i67x (t k : Nat) : nI t * 6 + nI k = nI (6 * t + k) := by
  show nI t * nI 6 + _ = _
  rw [nI_mul, nI_add]
  congr 1
  omega
theorem eq_late_l (H : wg n S w) (Y : qY n S w tra len frm tto wei fit way rid lon cel) (ht : t < n) {x2 c : Int32} : ∀ (f i : Nat) (a b v : Int32), i + f < S → b + a = v → (m_qlate_l79 w (nI t) x2 c f (nI i) v th sst').1 = c - (b + x_rideTo_l14 rid (nI t) x2 f (nI i) a) ∧ (m_qlate_l79 w (nI t) x2 c f (nI i) v th sst').2.2 = 0
  | 0, i, a, b, v, e, h => by
    unfold m_qlate_l79 x_rideTo_l14
    rw [h]
    exact ⟨rfl, rfl⟩
  | f + 1, i, a, b, v, e, h => by
    have hS := H.S7
    have h5 := H.n5
    unfold m_qlate_l79 x_rideTo_l14
    rw [nI_1, i67x, gA_n (by omega), Y.prid ht (by omega), m_runOf_n (by omega) (by omega)]
    exact eq_late_l H Y ht f (i + 1) _ b _ (by omega) (by rw [← h, Int32.add_assoc])
theorem eq_late (H : wg n S w) (C : rC n w cm lf) (O : rO n w mi lks rk sta he lkd) (Y : qY n S w tra len frm tto wei fit way rid lon cel) (x1 x2 : Int32) : eQ (x_qlate sta cm (nI S) (nI n) frm rid sst x1 x2) (m_qlate th sst' w x1 x2) := by
  have h5 := H.n5
  have hS := H.S7
  unfold x_qlate m_qlate
  rw [g_train H, g_stat H]
  refine eQ.if (fun _ => eQ.mk rfl rfl) (fun c1 => eQ.if (fun _ => eQ.mk rfl rfl) (fun c2 => ?_))
  obtain ⟨t, ht, rfl⟩ := (isTrain_n H).mp c1
  obtain ⟨s, hs, rfl⟩ := (stat_n H).mp c2
  have hT := H.T ht
  rw [i67, gA_n (by omega), (C.2 t s ht (by omega)).1, m_of13 (by omega) (by omega)]
  refine eQ.if (fun _ => eQ.mk rfl rfl) (fun c3 => ?_)
  rw [gA_n (by omega), gA_n (by omega), Y.pfrm ht, (O.2.2.1 t ht).1, m_of1 (by omega), m_of3 (by omega), hT.1.1]
  unfold x_rideTo
  rw [gA_n (l := frm) (by omega), Y.pfrm ht, hT.1.1, iMx_n (by have := hT.1.2; omega) (by omega), iMn_n (by have := hT.1.2; omega) (by omega), lpN_nn (by have := hT.1.2; omega) (by have := hT.1.2; omega)]
  by_cases d : nI s = nI (fR w t)
  · have d' : s = fR w t := by
      have q := congrArg Int32.toInt d
      rw [nI_toInt (by omega), nI_toInt (by have := hT.1.2; omega)] at q
      omega
    rw [if_pos d, if_pos d, ← d', Nat.max_self, Nat.min_self, Nat.sub_self, Int32.add_zero]
    exact eQ.mk rfl rfl
  · rw [if_neg d, if_neg d]
    obtain ⟨z1, z2⟩ := eq_late_l (th := th) (sst' := sst') H Y ht (x2 := nI s) (c := ft w t (13 + s)) (max (fR w t) s - min (fR w t) s) (min (fR w t) s) 0 (ft w t 3 + 1) (ft w t 3 + 1) (by have := hT.1.2; omega) (Int32.add_zero _)
    refine eQ.mk ?_ ?_
    · rw [z1, Int32.add_assoc]
      rfl
    · rw [z2]
      rfl
end QP

/-! acts: what their blocks keep -/
def kw (n S : Nat) (w' w : List Int32) : Prop := aF w' w ∧ ∀ m D, wX n S w m D → wX n S w' m (D + 99)
section KW
variable {n S : Nat} {w w' : List Int32} {kp : List Int32} {th sst acs : Int32}
theorem wX.mono {m D D' : Nat} (X : wX n S w m D) (h : D ≤ D') : wX n S w m D' := ⟨⟨X.1.1, fun t ht => (X.1.2 t ht).mono h⟩, X.2⟩
theorem kw.rf (hl : w.length = 602) : kw n S w w := ⟨⟨hl, fun _ _ => rfl⟩, fun _ _ X => X.mono (by omega)⟩
theorem kw.of (H : wf n S w) (F : aF w' w) (h3 : ∀ t, t < n → ft w' t 3 = ft w t 3) (h9 : ∀ t, t < n → ft w' t 9 = ft w t 9) : kw n S w' w := ⟨F, fun _ _ X => (X.keep H F h3 h9).mono (by omega)⟩
theorem kw_hold (H : wf n S w) (x1 x2 : Int32) : kw n S (m_hold th sst acs w kp x1 x2).2.2.2.2.2 w := by
  have h5 := H.n5
  unfold m_hold
  dsimp only
  split
  · exact kw.rf H.len
  · split
    · exact kw.rf H.len
    · rename_i c2
      obtain ⟨t, ht, rfl⟩ := (isTrain_n H.g).mp c2
      split
      · exact kw.rf H.len
      · have e : m_puts w (nI t) 10 (gA w 201 + x2) = w.set (56 + 28 * t + 10) (gA w 201 + x2) := m_puts_n (k := 10) (by omega) (by decide)
        show kw n S (m_puts w (nI t) 10 (gA w 201 + x2)) w
        rw [e]
        exact kw.of H (aF.set H.len (Or.inl ⟨t, by omega, by omega⟩)) (fun u hu => gN_ne (by omega)) (fun u hu => gN_ne (by omega))
theorem from199 {x : Int32} (h : ¬ m_isFrom x 0 199 = 0) : ∃ k, k ≤ 199 ∧ x = nI k := by
  unfold m_isFrom at h
  by_cases d1 : x < 0
  · rw [if_pos d1] at h; exact absurd rfl h
  rw [if_neg d1] at h
  by_cases d2 : 199 < x
  · rw [if_pos d2] at h; exact absurd rfl h
  rw [Int32.lt_iff_toInt_lt, show (0 : Int32).toInt = 0 from rfl] at d1
  rw [Int32.lt_iff_toInt_lt, show (199 : Int32).toInt = 199 from rfl] at d2
  exact ⟨x.toInt.toNat, by omega, Int32.toInt_inj.mp (by rw [nI_toInt (by omega)]; omega)⟩
theorem from99 {x : Int32} (h : ¬ m_isFrom x 1 99 = 0) : ∃ k, 1 ≤ k ∧ k ≤ 99 ∧ x = nI k := by
  unfold m_isFrom at h
  by_cases d1 : x < 1
  · rw [if_pos d1] at h; exact absurd rfl h
  rw [if_neg d1] at h
  by_cases d2 : 99 < x
  · rw [if_pos d2] at h; exact absurd rfl h
  rw [Int32.lt_iff_toInt_lt, show (1 : Int32).toInt = 1 from rfl] at d1
  rw [Int32.lt_iff_toInt_lt, show (99 : Int32).toInt = 99 from rfl] at d2
  exact ⟨x.toInt.toNat, by omega, by omega, Int32.toInt_inj.mp (by rw [nI_toInt (by omega)]; omega)⟩
theorem kw_start (H : wf n S w) (x1 x2 : Int32) : kw n S (m_start th sst acs w kp x1 x2).2.2.2.2.2 w := by
  have h5 := H.n5
  unfold m_start
  dsimp only
  split
  · exact kw.rf H.len
  · rename_i c1
    split
    · exact kw.rf H.len
    · rename_i c2
      obtain ⟨t, ht, rfl⟩ := (isTrain_n H.g).mp c2
      split
      · exact kw.rf H.len
      · split
        · rename_i c3
          rw [m_of6 (by omega)] at c3
          obtain ⟨k, hk, rfl⟩ := from199 c1
          have e : m_puts w (nI t) 3 (nI k) = w.set (56 + 28 * t + 3) (nI k) := m_puts_n (k := 3) (by omega) (by decide)
          show kw n S (m_puts w (nI t) 3 (nI k)) w
          rw [e]
          exact ⟨aF.set H.len (Or.inl ⟨t, by omega, by omega⟩), fun m D X => (X.start H ht c3 hk rfl).mono (by omega)⟩
        · exact kw.rf H.len
theorem kw_stall (H : wf n S w) (x1 x2 : Int32) : kw n S (m_stall th sst acs w kp x1 x2).2.2.2.2.2 w := by
  have h5 := H.n5
  unfold m_stall
  dsimp only
  split
  · exact kw.rf H.len
  · rename_i c1
    split
    · exact kw.rf H.len
    · rename_i c2
      obtain ⟨t, ht, rfl⟩ := (isTrain_n H.g).mp c2
      split
      · rename_i c3
        rw [m_of6 (by omega)] at c3
        obtain ⟨k, -, hk, rfl⟩ := from99 c1
        have e : m_puts w (nI t) 9 (m_of w (nI t) 9 + nI k) = w.set (56 + 28 * t + 9) (ft w t 9 + nI k) := by
          rw [m_of9 (by omega)]
          exact m_puts_n (k := 9) (by omega) (by decide)
        show kw n S (m_puts w (nI t) 9 (m_of w (nI t) 9 + nI k)) w
        rw [e]
        exact ⟨aF.set H.len (Or.inl ⟨t, by omega, by omega⟩), fun m D X => X.stall H ht c3 hk rfl⟩
      · exact kw.rf H.len
theorem shut_bl {v1 v2 v3 v4 : Int32} : ∀ (f : Nat) (v6 v5 th sst acs : Int32) (kp w : List Int32), (m_shut_l70 v1 v2 v3 v4 f v6 v5 th sst acs kp w).2.2.2.2.2 = w
  | 0, _, _, _, _, _, _, _ => rfl
  | f + 1, v6, v5, th, sst, acs, kp, w => by
    unfold m_shut_l70
    exact shut_bl f _ _ _ _ _ _ _
theorem kw_shut (H : wf n S w) (x1 x2 x3 : Int32) : kw n S (m_shut th sst acs w kp x1 x2 x3).2.2.2.2.2 w := by
  have h5 := H.n5
  have hS := H.S7
  unfold m_shut
  dsimp only
  generalize (if x3 = 0 then (0 : Int32) else 1) = v
  split
  · exact kw.rf H.len
  · rename_i c1
    obtain ⟨s, k, hs, hk, rfl, rfl⟩ := (track_n H.g).mp c1
    have hm := (H.St (s := s) (by omega)).2.1
    split
    · exact kw.rf H.len
    · rw [shut_bl, sh_i, sA_n (by omega)]
      exact kw.of H (aF.set H.len (Or.inr (Or.inr (Or.inr (by omega))))) (fun u hu => gN_ne (by omega)) (fun u hu => gN_ne (by omega))
theorem kw_link_l (H : wf n S w) {v1 v2 v3 : Int32} : ∀ (f : Nat) (v5 v4 : Int32), kw n S (m_link_l45 v1 v2 v3 f v5 v4 th sst acs kp w).2.2.2.2.2 w
  | 0, v5, v4 => by
    have h5 := H.n5
    have hlw := H.len
    obtain ⟨m, m1, m2, -⟩ := H.L
    unfold m_link_l45
    dsimp only
    split
    · split
      · exact kw.rf H.len
      · rename_i c2
        rw [gA_296, m2] at c2
        have m4 : m < 4 := by
          have : m ≠ 4 := fun z => c2 (by rw [z]; rfl)
          omega
        rw [gA_296 (w := w), m2]
        have i0 : (297 : Int32) + 3 * nI m = nI (297 + 3 * m) := by
          show nI 297 + nI 3 * nI m = _
          rw [nI_mul, nI_add]
        have i1 : nI (297 + 3 * m) + 1 = nI (297 + 3 * m + 1) := nI_1 _
        have i2 : nI (297 + 3 * m) + 2 = nI (297 + 3 * m + 2) := nI_add _ 2
        rw [i0, i1, i2, sA_n (by omega), sA_n (by omega), sA_n (by omega)]
        generalize hx : gA (((w.set (297 + 3 * m) v1).set (297 + 3 * m + 1) v2).set (297 + 3 * m + 2) v3) 296 + 1 = x
        show kw n S (sA (((w.set (297 + 3 * m) v1).set (297 + 3 * m + 1) v2).set (297 + 3 * m + 2) v3) 296 x) w
        rw [show sA (((w.set (297 + 3 * m) v1).set (297 + 3 * m + 1) v2).set (297 + 3 * m + 2) v3) 296 x = (((w.set (297 + 3 * m) v1).set (297 + 3 * m + 1) v2).set (297 + 3 * m + 2) v3).set 296 x from sA_n (i := 296) (by decide)]
        have h : ∀ j, ¬ (296 ≤ j ∧ j < 309) → gN ((((w.set (297 + 3 * m) v1).set (297 + 3 * m + 1) v2).set (297 + 3 * m + 2) v3).set 296 x) j = gN w j := fun j hj => by rw [gN_ne (by omega), gN_ne (by omega), gN_ne (by omega), gN_ne (by omega)]
        exact kw.of H ⟨by rw [List.length_set, List.length_set, List.length_set, List.length_set]; exact hlw, fun j hj => h j (fun z => hj (Or.inr (Or.inr (Or.inl z))))⟩ (fun u hu => h _ (by omega)) (fun u hu => h _ (by omega))
    · exact kw.rf H.len
  | f + 1, v5, v4 => by
    unfold m_link_l45
    exact kw_link_l H f _ _
theorem kw_link (H : wf n S w) (x1 x2 x3 : Int32) : kw n S (m_link th sst acs w kp x1 x2 x3).2.2.2.2.2 w := by
  unfold m_link
  dsimp only
  split
  · exact kw.rf H.len
  · split
    · exact kw.rf H.len
    · split
      · exact kw.rf H.len
      · exact kw_link_l H _ _ _
theorem kw_cut (H : wf n S w) (x1 : Int32) : kw n S (m_cut th sst acs w kp x1).2.2.2.2.2 w := by
  have h5 := H.n5
  have hlw := H.len
  obtain ⟨m, m1, m2, -⟩ := H.L
  unfold m_cut
  dsimp only
  rw [gA_296, m2]
  split
  · exact kw.rf H.len
  · rename_i c1
    split
    · rename_i c2
      obtain ⟨k, hk, rfl⟩ : ∃ k, k < m ∧ x1 = nI k := by
        rw [Int32.lt_iff_toInt_lt, nI_toInt (by omega)] at c2
        rw [Int32.lt_iff_toInt_lt, show (0 : Int32).toInt = 0 from rfl] at c1
        exact ⟨x1.toInt.toNat, by omega, Int32.toInt_inj.mp (by rw [nI_toInt (by omega)]; omega)⟩
      show kw n S (m_dropsLink w (nI k)) w
      rw [drops_n (by omega)]
      generalize gN (shf (9 - 3 * k) (297 + 3 * k) w) 296 - 1 = x
      have h : ∀ j, ¬ (296 ≤ j ∧ j < 309) → gN ((shf (9 - 3 * k) (297 + 3 * k) w).set 296 x) j = gN w j := fun j hj => by
        rw [gN_ne (by omega), shf_gN _ _ _ _ (by omega), if_neg (by omega)]
      exact kw.of H ⟨by rw [List.length_set, shf_len]; exact hlw, fun j hj => h j (fun z => hj (Or.inr (Or.inr (Or.inl z))))⟩ (fun u hu => h _ (by omega)) (fun u hu => h _ (by omega))
    · exact kw.rf H.len
theorem kw_pw {od : List Int32} (H : wf n S w) : kw n S (m_pw od n 0 w) w := by
  have h5 := H.n5
  obtain ⟨a, b⟩ := pw_n (od := od) n 0 w (by omega) H.len
  exact kw.of H (pw_aF h5 H.len) (fun u hu => (b _).trans (if_neg (by omega))) (fun u hu => (b _).trans (if_neg (by omega)))
/-- static facts, for layouts -/
theorem kw.st (K : kw n S w' w) (h5 : n ≤ 5) : (∀ s k, s < 7 → k < 5 → fs w' s k = fs w s k) ∧ ∀ t k, t < n → k < 6 → k ≠ 3 → ft w' t k = ft w t k :=
  ⟨fun s k hs hk => K.1.2 _ (aX_s hs hk), fun t k ht hk h3 => K.1.f (by omega) (by omega) (by omega)⟩
end KW

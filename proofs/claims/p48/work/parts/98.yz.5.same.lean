/-! both texts are the same (for p48, p49) -/
theorem gL_n {l : List Int64} {i : Nat} (h : i < 2 ^ 31) : gL l (nI i) = l.getD i 0 := by
  unfold gL
  rw [nI_clamp h]
theorem lpN_m {m : Nat} (h : m < 2 ^ 31) : lpN (nI m) 0 = m := by
  unfold lpN
  rw [nI_toInt h, show (0 : Int32).toInt = 0 from rfl]
  omega
theorem nI_ad9 (a b : Nat) : nI a + nI b = nI (a + b) := (Int32.ofNat_add a b).symm
theorem nI_m3 (s k : Nat) : nI s * 3 + nI k = nI (3 * s + k) := by
  rw [show nI s * 3 = nI (s * 3) from (Int32.ofNat_mul s 3).symm, nI_ad9]
  congr 1
  omega
section TXE
variable {n S : Nat} {w run tra len siz frm tto slo wei sta : List Int32} {sn tn nm : List Int64}
theorem txS_eq (H : wf n S w) (Ly : lyT n S w run tra len siz frm tto slo wei) (N1 : ∀ i, i < S → wR (sn.getD i 0) (nm.getD i 0)) {s : Nat} (hs : s < S) (T : List Int32) : txS sn run tra len (nI s) T = rtS w nm (nI s) T := by
  have h7 := H.S7
  obtain ⟨a1, a2, a3⟩ := Ly.1 s hs
  obtain ⟨b1, b2, -⟩ := H.St (show s < 7 by omega)
  have e1 : gA run (nI s) = m_st w (nI s) 0 := by rw [gA_n (by omega), a1]; exact (m_st_n (k := 0) (by omega) (by omega)).symm
  have e2 : gA tra (nI s) = nI (mN w s) := by rw [gA_n (by omega), a2, b1]
  have e3 : m_st w (nI s) 1 = nI (mN w s) := (m_st_n (k := 1) (by omega) (by omega)).trans b1
  unfold txS rtS rtN
  rw [wR_0.acc, e1, e2, e3, lpN_m (by omega), gL_n (by omega), gL_n (by omega), (N1 s hs).acc]
  refine congrArg (tpA 59) (tlA_eq (mN w s) 0 _ (fun k T _ hk => ?_))
  unfold txK rtK
  rw [nI_m3, gA_n (by omega), a3 k (by omega), show (2 : Int32) + nI k = nI (2 + k) from nI_ad9 2 k, m_st_n (by omega) (by omega)]
theorem txN_eq (H : wf n S w) (N1 : ∀ i, i < S → wR (sn.getD i 0) (nm.getD i 0)) {f : Nat} (hf : f < S) (T : List Int32) : txN (nI S) sn (nI f) T = rtN nm (nI f) T := by
  have h7 := H.S7
  unfold txN rtN
  rw [if_neg (nI_pos (by omega)), if_pos (nI_lt hf (by omega)), gL_n (by omega), gL_n (by omega), (N1 f hf).acc]
theorem txT_eq (H : wf n S w) (Ly : lyT n S w run tra len siz frm tto slo wei) (N1 : ∀ i, i < S → wR (sn.getD i 0) (nm.getD i 0)) (N2 : ∀ i, i < n → wR (tn.getD i 0) (nm.getD (7 + i) 0)) (hs : ∀ t, t < n → gN sta t = ft w t 3) {t : Nat} (ht : t < n) (T : List Int32) : txT (nI S) sn tn siz frm tto slo wei sta (nI t) T = rtR w nm (nI t) T := by
  have h7 := H.S7
  have h5 := H.n5
  obtain ⟨a0, a1, a2, a4, a5⟩ := Ly.2 t ht
  obtain ⟨⟨b1, b2⟩, ⟨c1, c2⟩, -⟩ := H.T ht
  have mo : ∀ k, k < 100 → m_of w (nI t) (nI k) = ft w t k := fun k hk => m_of_n (by omega) hk
  have e0 : m_of w (nI t) 0 = gA siz (nI t) := (mo 0 (by omega)).trans (by rw [gA_n (by omega), a0])
  have e1 : m_of w (nI t) 1 = nI (fR w t) := (mo 1 (by omega)).trans b1
  have e2 : m_of w (nI t) 2 = nI (tO w t) := (mo 2 (by omega)).trans c1
  have e3 : m_of w (nI t) 3 = gA sta (nI t) := (mo 3 (by omega)).trans (by rw [gA_n (by omega), hs t ht])
  have e4 : m_of w (nI t) 4 = gA slo (nI t) := (mo 4 (by omega)).trans (by rw [gA_n (by omega), a4])
  have e5 : m_of w (nI t) 5 = gA wei (nI t) := (mo 5 (by omega)).trans (by rw [gA_n (by omega), a5])
  have d1 : gA frm (nI t) = nI (fR w t) := by rw [gA_n (by omega), a1, b1]
  have d2 : gA tto (nI t) = nI (tO w t) := by rw [gA_n (by omega), a2, c1]
  unfold txT txR rtR
  rw [e0, e1, e2, e3, e4, e5, d1, d2, wR_1.acc, wR_2.acc, wR_3.acc, txN_eq H N1 b2, txN_eq H N1 c2]
  have e6 : ∀ T, rtN nm (7 + nI t) T = twA (gL tn (nI t)) 8 (tpA 32 T) := fun T => by
    unfold rtN
    rw [show (7 : Int32) + nI t = nI (7 + t) from nI_ad9 7 t, gL_n (by omega), gL_n (by omega), (N2 t ht).acc]
  rw [e6]
theorem tx_eq (H : wf n S w) (Ly : lyT n S w run tra len siz frm tto slo wei) (N1 : ∀ i, i < S → wR (sn.getD i 0) (nm.getD i 0)) (N2 : ∀ i, i < n → wR (tn.getD i 0) (nm.getD (7 + i) 0)) (hs : ∀ t, t < n → gN sta t = ft w t 3) : txW S n sn tn run tra len siz frm tto slo wei sta = rtW S n w nm := by
  unfold txW rtW
  rw [tlA_eq (G := rtS w nm) S 0 [] (fun j T _ hj => txS_eq H Ly N1 (by omega) T)]
  exact tlA_eq n 0 _ (fun j T _ hj => txT_eq H Ly N1 N2 hs (by omega) T)
theorem tx_len (H : wf n S w) (Ly : lyT n S w run tra len siz frm tto slo wei) : (txW S n sn tn run tra len siz frm tto slo wei sta).length ≤ 588 := by
  have h7 := H.S7
  have h5 := H.n5
  unfold txW
  have h1 := tlA_len (F := txT (nI S) sn tn siz frm tto slo wei sta) (c := 70) (fun i T => txR_len) n (nI 0) (tlA (txS sn run tra len) S (nI 0) [])
  have h2 : ∀ (f j : Nat) (T : List Int32), j + f ≤ S → (tlA (txS sn run tra len) f (nI j) T).length ≤ T.length + 34 * f := by
    intro f
    induction f with
    | zero => exact fun j T _ => Nat.le_refl _
    | succ f ih =>
      intro j T hj
      obtain ⟨b1, b2, -⟩ := H.St (show j < 7 by omega)
      have e2 : gA tra (nI j) = nI (mN w j) := by rw [gA_n (by omega), (Ly.1 j (by omega)).2.1, b1]
      have h3 : (txS sn run tra len (nI j) T).length ≤ _ := txS_len
      rw [e2, lpN_m (by omega)] at h3
      rw [tlA_s, nI_s]
      have := ih (j + 1) (txS sn run tra len (nI j) T) (by omega)
      omega
  have h3 := h2 S 0 [] (by omega)
  have h4 : ([] : List Int32).length = 0 := rfl
  omega
end TXE

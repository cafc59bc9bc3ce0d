/-! prices are small and no less than 0 -/
def wW (n : Nat) (w : List Int32) : Prop := ∀ t, t < n → ∃ v, v ≤ 9 ∧ ft w t 5 = nI v
section PRICE
variable {n S m D : Nat} {w : List Int32}
theorem delay_n (X : wX n S w m D) (H : wf n S w) {t : Nat} (ht : t < n) (c : ft w t 6 = 3) : ∃ d, d ≤ m ∧ m_delayOf w (nI t) = nI d := by
  have h5 := H.n5
  obtain ⟨s, s1, s2, -, -, k⟩ := X.1.2 t ht
  obtain ⟨e, e1, e2, e3⟩ := k c
  refine ⟨e - s - loN w t (dis w t (tO w t)), by omega, ?_⟩
  unfold m_delayOf
  rw [m_of11 (by omega), m_of3 (by omega), e1, s2, lone_n X.2.1 h5 H.S7 (H.T ht) ht, sub_nI (by omega), sub_nI (by omega)]
theorem price_l (X : wX n S w m D) (H : wf n S w) (hw : wW n w) (hm : m ≤ 5000) : ∀ f t v, t + f = n → v ≤ 45000 * t → ∃ p, m_price_l4 w f (nI t) (nI v) = nI p ∧ p ≤ 45000 * n
  | 0, t, v, e, h => ⟨v, rfl, by rw [show n = t by omega]; exact h⟩
  | f + 1, t, v, e, h => by
    have h5 := H.n5
    have ht : t < n := by omega
    obtain ⟨a, a1, a2⟩ := hw t ht
    unfold m_price_l4
    have e1 : (nI t) + 1 = nI (t + 1) := nI_add9 t 1
    have key : ∃ q, q ≤ 5000 ∧ (if m_of w (nI t) 6 = 3 then m_delayOf w (nI t) else 1000) = nI q := by
      by_cases c : m_of w (nI t) 6 = 3
      · rw [if_pos c]
        obtain ⟨d, d1, d2⟩ := delay_n X H ht (by rw [← m_of6 (by omega)]; exact c)
        exact ⟨d, by omega, d2⟩
      · rw [if_neg c]; exact ⟨1000, by decide, rfl⟩
    obtain ⟨q, q1, q2⟩ := key
    have em : nI a * nI q = nI (a * q) := (Int32.ofNat_mul a q).symm
    have hq : a * q ≤ 45000 := Nat.le_trans (Nat.mul_le_mul a1 q1) (by decide)
    rw [e1, q2, m_of5 (by omega), a2, em, nI_add9]
    exact price_l X H hw hm f (t + 1) _ (by omega) (by omega)
theorem price_n (X : wX n S w m D) (H : wf n S w) (hw : wW n w) (hm : m ≤ 5000) : ∃ p, m_price w = nI p ∧ p ≤ 225000 := by
  have h5 := H.n5
  unfold m_price
  rw [H.gn, lpN_n0 (by omega)]
  obtain ⟨p, p1, p2⟩ := price_l X H hw hm n 0 0 (by omega) (by omega)
  exact ⟨p, p1, by omega⟩
theorem pE_n (X : wX n S w m D) (H : wf n S w) (hw : wW n w) (hb : D < 2 ^ 30) (hm : m ≤ 4000) (hD : m + 376 ≤ D) : ∃ p, pE n w = nI p ∧ p ≤ 225000 := by
  rw [← pE_adv]
  have hk : wW n (m_adv n 1 true 300 w) := fun t ht => by
    rw [(adv_st (e := true) (care := 1) H 300).2 t 5 ht (by decide) (by decide)]; exact hw t ht
  rw [m_adv_t] at hk ⊢
  obtain ⟨m', h1, h2, X', H'⟩ := wX.tte (care := 1) hb 300 m w X H (by omega)
  exact price_n X' H' hk (by omega)
theorem pE_lt (X : wX n S w m D) (H : wf n S w) (hw : wW n w) (hb : D < 2 ^ 30) (hm : m ≤ 4000) (hD : m + 376 ≤ D) : pE n w < 2147483647 ∧ ¬ pE n w = -1 := by
  obtain ⟨p, e, h⟩ := pE_n X H hw hb hm hD
  rw [e]
  exact ⟨by rw [Int32.lt_iff_toInt_lt, nI_toInt (by omega), show (2147483647 : Int32).toInt = 2147483647 from rfl]; omega, nI_nn (by omega)⟩
theorem wX.addT (X : wX n S w m D) (H : wf n S w) {s : Nat} (hs : s < 7) (hm : mN w s < 3) (x : Int32) : wX n S (m_addTrack w (nI s) x) m D := by
  have h5 := H.n5
  obtain ⟨-, e, -⟩ := H.addTrack hs hm x
  have e0 : ∀ r, r < 7 → fs (m_addTrack w (nI s) x) r 0 = fs w r 0 := fun r hr => by
    rw [addT_n H hs hm x]
    show gN _ (8 * r + 0) = gN w (8 * r + 0)
    rw [gN_ne (by omega), gN_ne (by omega)]
  have ef : ∀ t k, ft (m_addTrack w (nI s) x) t k = ft w t k := fun t k => e _ (by omega)
  refine ⟨⟨(e 201 (by omega)).trans X.1.1, fun t ht => tw.same (X.1.2 t ht) (H.T ht) H.S7 ⟨fun k hk => e0 k hk, fun k _ => ef t k⟩ (fun k _ => ef t k)⟩, ⟨fun r h1 h2 => by rw [e0 r (by have := H.S7; omega)]; exact X.2.1.1 r h1 h2, fun t ht => by rw [ef]; exact X.2.1.2 t ht⟩, X.2.2.same (fun t q _ _ => ⟨e _ (by omega), e _ (by omega), e _ (by omega)⟩)⟩
theorem wX.pw {o : List Int32} (X : wX n S w m D) (H : wf n S w) : wX n S (m_pw o n 0 w) m D := by
  have h5 := H.n5
  obtain ⟨a, b⟩ := pw_n (od := o) n 0 w (by omega) H.len
  have ef : ∀ t k, t < n → k < 28 → ft (m_pw o n 0 w) t k = ft w t k := fun t k ht hk => by
    show gN _ (56 + 28 * t + k) = _
    rw [b, if_neg (by omega)]
    rfl
  exact X.keep H (pw_aF h5 H.len) (fun t ht => ef t 3 ht (by decide)) (fun t ht => ef t 9 ht (by decide))
/-- what band, build, plan want of prices -/
theorem price_band (X : wX n S w m D) (H : wf n S w) (hw : wW n w) (hb : D < 2 ^ 30) (hm : m ≤ 4000) (hD : m + 376 ≤ D) : ∀ t i, t < n → ft w t 6 = 0 → i < 61 → pE n (w.set (56 + 28 * t + 3) (nI i)) < 2147483647 := fun t i ht c hi => by
  have h5 := H.n5
  refine (pE_lt (X.start H ht c (by omega) rfl) (H.sStart ht _) (fun u hu => ?_) hb hm hD).1
  rw [show ft (w.set (56 + 28 * t + 3) (nI i)) u 5 = ft w u 5 from gN_ne (by omega)]; exact hw u hu
theorem price_build (X : wX n S w m D) (H : wf n S w) (hw : wW n w) (hb : D < 2 ^ 30) (hm : m ≤ 4000) (hD : m + 376 ≤ D) : ∀ s, s < S → mN w s < 3 → pE n (m_addTrack w (nI s) 99) < 2147483647 := fun s hs h3 => by
  have h7 := H.S7
  obtain ⟨W, e, -⟩ := H.addTrack (s := s) (by omega) h3 99
  exact (pE_lt (X.addT H (by omega) h3 99) W (fun u hu => by rw [show ft (m_addTrack w (nI s) 99) u 5 = ft w u 5 from e _ (by omega)]; exact hw u hu) hb hm hD).1
theorem price_plan (X : wX n S w m D) (H : wf n S w) (hw : wW n w) (hb : D < 2 ^ 30) (hm : m ≤ 4000) (hD : m + 376 ≤ D) : ∀ o, prm n o → m_pp n w o < 2147483647 ∧ ¬ m_pp n w o = -1 := fun o po => by
  have h5 := H.n5
  obtain ⟨a, b⟩ := pw_n (od := o) n 0 w (by omega) H.len
  refine pE_lt (X.pw H) (H.pw9 po) (fun u hu => ?_) hb hm hD
  rw [show ft (m_pw o n 0 w) u 5 = ft w u 5 from by show gN _ (56 + 28 * u + 5) = _; rw [b, if_neg (by omega)]; rfl]; exact hw u hu
end PRICE

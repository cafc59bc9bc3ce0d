/-! RUNs as numbers; LONE so far -/
/-- static: RUNs 1 to 30, SLOW 0 to 3 -/
def wN (n S : Nat) (w : List Int32) : Prop := (∀ s, 1 ≤ s → s < S → ∃ a, 1 ≤ a ∧ a ≤ 30 ∧ fs w s 0 = nI a) ∧ ∀ t, t < n → ∃ b, b ≤ 3 ∧ ft w t 4 = nI b
def rn (w : List Int32) (t k : Nat) : Nat := nV (rN w t k)
/-- LONE over the first d SECTIONs of its way -/
def loN (w : List Int32) (t : Nat) : Nat → Nat
  | 0 => 0
  | d + 1 => loN w t d + rn w t (if fR w t < tO w t then fR w t + d else fR w t - (d + 1))
def dis (w : List Int32) (t a : Nat) : Nat := if fR w t < tO w t then a - fR w t else fR w t - a
theorem run_num {a b : Nat} (ha : a < 31) (hb : b < 4) : (nI a * (2 + nI b) + 1) / 2 = nI ((a * (2 + b) + 1) / 2) := by
  have : ∀ (a : Fin 31) (b : Fin 4), (nI a.val * (2 + nI b.val) + 1) / 2 = nI ((a.val * (2 + b.val) + 1) / 2) := by decide +kernel
  exact this ⟨a, ha⟩ ⟨b, hb⟩
section LO
variable {n S : Nat} {w : List Int32} {t : Nat}
theorem rn_n (N : wN n S w) (ht : t < n) {k : Nat} (hk : k + 1 < S) : rN w t k = nI (rn w t k) ∧ 1 ≤ rn w t k ∧ rn w t k ≤ 76 := by
  obtain ⟨a, a1, a2, a3⟩ := N.1 (k + 1) (by omega) hk
  obtain ⟨b, b1, b2⟩ := N.2 t ht
  have e : rN w t k = nI ((a * (2 + b) + 1) / 2) := by
    unfold rN
    rw [a3, b2, run_num (by omega) (by omega)]
  have h1 : a * 2 ≤ a * (2 + b) := Nat.mul_le_mul_left a (by omega)
  have h2 : a * (2 + b) ≤ 30 * 5 := Nat.mul_le_mul a2 (by omega)
  have e2 : rn w t k = (a * (2 + b) + 1) / 2 := by
    unfold rn
    rw [e, nV_n (by omega)]
  rw [e2]
  exact ⟨e, by omega, by omega⟩
theorem lo_next (h : wTr S w t) (h6 : ft w t 6 = 1 ∨ ft w t 6 = 2) : loN w t (dis w t (nxT w t)) = loN w t (dis w t (atT w t)) + rn w t (sC w t) := by
  have hw := h.2.2.2.2.2.1 h6
  unfold onW at hw
  unfold dis nxT sC
  by_cases c : fR w t < tO w t
  · rw [if_pos c, if_pos c, if_pos c, if_pos c, show atT w t + 1 - fR w t = (atT w t - fR w t) + 1 by omega]
    show loN w t (atT w t - fR w t) + rn w t (if fR w t < tO w t then fR w t + (atT w t - fR w t) else _) = _
    rw [if_pos c, show fR w t + (atT w t - fR w t) = atT w t by omega]
  · rw [if_neg c, if_neg c, if_neg c, if_neg c, show fR w t - (atT w t - 1) = (fR w t - atT w t) + 1 by omega]
    show loN w t (fR w t - atT w t) + rn w t (if fR w t < tO w t then _ else fR w t - ((fR w t - atT w t) + 1)) = _
    rw [if_neg c, show fR w t - ((fR w t - atT w t) + 1) = atT w t - 1 by omega]
theorem lo_le (N : wN n S w) (h : wTr S w t) (ht : t < n) : ∀ d, d ≤ dis w t (tO w t) → loN w t d ≤ 76 * d
  | 0, _ => Nat.le_refl _
  | d + 1, hd => by
    have ih := lo_le N h ht d (by omega)
    unfold loN
    unfold dis at hd
    have hk : (if fR w t < tO w t then fR w t + d else fR w t - (d + 1)) + 1 < S := by
      have := h.1.2
      have := h.2.1.2
      by_cases c : fR w t < tO w t
      · rw [if_pos c] at hd ⊢; omega
      · rw [if_neg c] at hd ⊢; omega
    have := (rn_n N ht hk).2.2
    omega
theorem lone_up (N : wN n S w) (h5 : n ≤ 5) (hS : S ≤ 7) (ht : t < n) (c : fR w t < tO w t) : ∀ (f d : Nat), fR w t + d + f < S → m_loneOf_l18 w (nI t) f (nI (fR w t + d)) (nI (loN w t d)) = nI (loN w t (d + f))
  | 0, d, e => rfl
  | f + 1, d, e => by
    unfold m_loneOf_l18
    rw [m_runOf_n (by omega) (by omega), (rn_n N ht (k := fR w t + d) (by omega)).1, nI_add, nI_1]
    have e1 : loN w t d + rn w t (fR w t + d) = loN w t (d + 1) := by
      show _ = loN w t d + rn w t (if fR w t < tO w t then fR w t + d else _)
      rw [if_pos c]
    rw [e1, show fR w t + d + 1 = fR w t + (d + 1) by omega, lone_up N h5 hS ht c f (d + 1) (by omega), show d + 1 + f = d + (f + 1) by omega]
theorem lone_dn (N : wN n S w) (h5 : n ≤ 5) (hS : S ≤ 7) (ht : t < n) (hF : fR w t < S) (c : ¬ fR w t < tO w t) : ∀ (f v : Nat), f ≤ fR w t → m_loneOf_l18 w (nI t) f (nI (fR w t - f)) (nI v) = nI (v + loN w t f)
  | 0, v, e => rfl
  | f + 1, v, e => by
    unfold m_loneOf_l18
    rw [m_runOf_n (by omega) (by omega), (rn_n N ht (k := fR w t - (f + 1)) (by omega)).1, nI_add, nI_1, show fR w t - (f + 1) + 1 = fR w t - f by omega, lone_dn N h5 hS ht hF c f _ (by omega)]
    congr 1
    show _ = v + (loN w t f + rn w t (if fR w t < tO w t then _ else fR w t - (f + 1)))
    rw [if_neg c]
    omega
theorem lone_n (N : wN n S w) (h5 : n ≤ 5) (hS : S ≤ 7) (h : wTr S w t) (ht : t < n) : m_loneOf w (nI t) = nI (loN w t (dis w t (tO w t))) := by
  have h1 := h.1.2
  have h2 := h.2.1.2
  rw [h.lone hS (by omega)]
  unfold dis
  by_cases c : fR w t < tO w t
  · rw [if_pos c, Nat.max_eq_right (by omega), Nat.min_eq_left (by omega)]
    have := lone_up N h5 hS ht c (tO w t - fR w t) 0 (by omega)
    rw [Nat.zero_add] at this
    exact this
  · rw [if_neg c, Nat.max_eq_left (by omega), Nat.min_eq_right (by omega)]
    have := lone_dn N h5 hS ht h1 c (fR w t - tO w t) 0 (by omega)
    rw [Nat.zero_add, show fR w t - (fR w t - tO w t) = tO w t by omega] at this
    exact this
end LO

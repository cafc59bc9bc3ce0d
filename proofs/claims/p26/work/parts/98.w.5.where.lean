/-! WHERE and WHEN, PASSES: what stays so over the end of a minute -/
def wM (w : List Int32) : Prop := ∀ t q, t < 5 → q < 5 → (gN w (246 + (5 * t + q)) = -1 ↔ gN w (271 + (5 * t + q)) = -1) ∧ ∀ c, c < 32 → tb (gN w (570 + (5 * t + q))) c = true → c < 7
section WM
variable {n S : Nat} {w w' : List Int32}
theorem wM.same (M : wM w) (h : ∀ t q, t < 5 → q < 5 → pU w' w t q) : wM w' := fun t q ht hq => by
  obtain ⟨a, b, c⟩ := h t q ht hq
  rw [a, b, c]
  exact M t q ht hq
theorem wM.pD (M : wM w) {t q : Nat} (ht : t < 5) (hq : q < 5) (h7 : atT w t < 7) (h201 : ¬ gN w 201 = -1) (D : pD w' w t q) : (gN w' (246 + (5 * t + q)) = -1 ↔ gN w' (271 + (5 * t + q)) = -1) ∧ ∀ c, c < 32 → tb (gN w' (570 + (5 * t + q))) c = true → c < 7 := by
  obtain ⟨a, b, c⟩ := D
  obtain ⟨m1, m2⟩ := M t q ht hq
  rw [a, b, c]
  refine ⟨?_, fun c hc z => ?_⟩
  · by_cases d : gN w (246 + (5 * t + q)) = -1
    · rw [if_pos d, if_pos d]
      exact ⟨fun z => absurd z (nI_nn (by omega)), fun z => absurd z h201⟩
    · rw [if_neg d, if_neg d]
      exact m1
  · rw [tb_or, tb_one (by omega) hc, Bool.or_eq_true, decide_eq_true_iff] at z
    rcases z with z | z
    · exact m2 c hc z
    · omega
end WM
section WM2
variable {n S : Nat} {w w0 : List Int32}
/-- over minutes' ends in which all stand as they stood -/
theorem wM.R (M : wM w0) (H : wf n S w0) {d : Nat} (E : eR n d w w0) (h201 : ¬ gN w0 201 = -1) : wM w := fun t q ht hq => by
  have hS := H.S7
  have e := E.2.2.2.2.2 t q ht hq
  by_cases c : (decide (0 < d) && met n w0 t q) = true
  · rw [if_pos c] at e
    have m := met_n.mp ((Bool.and_eq_true _ _).mp c).2
    have h7 : atT w0 t < 7 := by
      have := ((H.T m.1.1).2.2.2.2.1 (by rw [m.2.2.1]; decide)).2
      omega
    exact M.pD ht hq h7 h201 e
  · rw [if_neg c] at e
    obtain ⟨a, b, c⟩ := e
    rw [a, b, c]
    exact M t q ht hq
theorem wM.end (M : wM w) (H : wf n S w) (h201 : ¬ gN w 201 = -1) : wM (m_end n w) :=
  M.R H (eR.step H (eR.rf H.len) H).2 h201
end WM2
section WM3
variable {n S : Nat} {w : List Int32} {care : Int32} {t : Nat}
theorem mA1_mF (H : wf n S w) (ht : t < n) : mF n (m_mA1 w (nI t)) w := by
  rw [mA1_n H ht]
  by_cases c : ft w t 6 = 2
  · rw [if_pos c]
    by_cases d : gN w 201 < ft w t 9
    · rw [if_pos d]; exact mF.rf
    · rw [if_neg d]; exact H.arr_mF ht c
  · rw [if_neg c]; exact mF.rf
theorem mA_mF : ∀ (f i : Nat) (w : List Int32), i + f = n → wf n S w → mF n (m_mA f i w) w ∧ wf n S (m_mA f i w)
  | 0, i, w, e, H => ⟨mF.rf, H⟩
  | f + 1, i, w, e, H => by
    have W := H.mA1 (t := i) (by omega)
    obtain ⟨a, b⟩ := mA_mF f (i + 1) (m_mA1 w (nI i)) (by omega) W
    exact ⟨(mA1_mF H (by omega)).tr a, b⟩
theorem tr_mF (H : wf n S w) (ht : t < n) : mF n (m_tr n w care t) w := by
  by_cases hm : mv n w care t
  · rw [m_tr_mv hm]
    exact H.sets_mF ht hm.2.2.1
  · rw [m_tr_no hm]; exact mF.rf
theorem mM_mF : ∀ (f k : Nat) (w : List Int32), k + f = n → wf n S w → mF n (m_mM n care f k w) w ∧ wf n S (m_mM n care f k w)
  | 0, k, w, e, H => ⟨mF.rf, H⟩
  | f + 1, k, w, e, H => by
    have W := H.mM1 (k := k) (by omega) care
    obtain ⟨a, b⟩ := mM_mF f (k + 1) (m_mM1 w n care (nI k)) (by omega) W
    obtain ⟨t, ht, e⟩ := H.R.1 k (by omega)
    refine ⟨mF.tr ?_ a, b⟩
    rw [mM1_n H (by omega) e]
    exact tr_mF H ht
/-- over a whole minute -/
theorem wM.minute (M : wM w) (H : wf n S w) (h201 : ¬ gN w 201 = -1) : wM (m_minute n w care) := by
  obtain ⟨a, b⟩ := mA_mF n 0 w (Nat.zero_add n) H
  obtain ⟨c, d⟩ := mM_mF (care := care) n 0 (m_mA n 0 w) (Nat.zero_add n) b
  have F := a.tr c
  have e0 : m_minute n w care = m_end n (m_mM n care n 0 (m_mA n 0 w)) := rfl
  rw [e0]
  refine wM.end (M.same fun t q ht hq => ⟨F.2.2.2.1 _ (by omega), F.2.2.1 _ (by omega) (by omega), F.2.2.1 _ (by omega) (by omega)⟩) d ?_
  rw [F.2.1 201 (by omega) (by omega)]
  exact h201
end WM3

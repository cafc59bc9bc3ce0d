/-! PASSES below 128; minutes one behind the other -/
theorem bits7 {x : Int32} (h : ∀ c, c < 32 → tb x c = true → c < 7) : ∃ v, v < 128 ∧ x = nI v := by
  have e : x = nI x.toBitVec.toNat := Int32.toBitVec_inj.mp (by
    show x.toBitVec = BitVec.ofNat 32 x.toBitVec.toNat
    rw [BitVec.ofNat_toNat, BitVec.setWidth_eq])
  refine ⟨x.toBitVec.toNat, Nat.lt_pow_two_of_testBit (n := 7) _ (fun i hi => ?_), e⟩
  by_cases c : i < 32
  · rw [← tb_nI c, ← e]
    apply Bool.eq_false_iff.mpr
    intro z
    have := h i c z
    omega
  · exact Nat.testBit_lt_two_pow (Nat.lt_of_lt_of_le x.toBitVec.isLt (Nat.pow_le_pow_right (by decide) (by omega)))
theorem wM.p128 {w : List Int32} (M : wM w) {k : Nat} (hk : k < 25) : ∃ v, v < 128 ∧ gN w (570 + k) = nI v := by
  have := (M (k / 5) (k % 5) (by omega) (by omega)).2
  rw [show 5 * (k / 5) + k % 5 = k by omega] at this
  exact bits7 this
theorem wM.ww {w : List Int32} (M : wM w) {k : Nat} (hk : k < 25) : gN w (246 + k) = -1 ↔ gN w (271 + k) = -1 := by
  have := (M (k / 5) (k % 5) (by omega) (by omega)).1
  rw [show 5 * (k / 5) + k % 5 = k by omega] at this
  exact this
/-- all that a minute keeps besides wf -/
def wX (n S : Nat) (w : List Int32) (m D : Nat) : Prop := wT n w m D (fun _ => 0) ∧ wN n S w ∧ wM w
theorem wX.minute {n S : Nat} {w : List Int32} {m D : Nat} {care : Int32} (X : wX n S w m D) (H : wf n S w) (hb : D < 2 ^ 30) (hD : m + 76 ≤ D) : wX n S (m_minute n w care) (m + 1) D ∧ wf n S (m_minute n w care) := by
  obtain ⟨a, b, c⟩ := X.1.minute (care := care) X.2.1 H hb hD
  exact ⟨⟨a, b, X.2.2.minute H (by rw [X.1.1]; exact nI_nn (by omega))⟩, c⟩
theorem wX.wZ {n S : Nat} {w : List Int32} {m D : Nat} (X : wX n S w m D) (H : wf n S w) (hb : m < 2 ^ 30 ∧ D < 2 ^ 30) : wZ n w := X.1.wZ X.2.1 H hb (fun _ hk => X.2.2.p128 hk)
section WX
variable {n S : Nat} {care : Int32} {D : Nat}
theorem wX.mins (hb : D < 2 ^ 30) : ∀ (f m : Nat) (w : List Int32), wX n S w m D → wf n S w → m + f + 76 ≤ D → wX n S (m_mins n care f w) (m + f) D ∧ wf n S (m_mins n care f w)
  | 0, m, w, X, H, e => ⟨X, H⟩
  | f + 1, m, w, X, H, e => by
    obtain ⟨a, b⟩ := X.minute (care := care) H hb (by omega)
    have := wX.mins hb f (m + 1) (m_minute n w care) a b (by omega)
    rw [show m + 1 + f = m + (f + 1) by omega] at this
    exact this
theorem wX.tte (hb : D < 2 ^ 30) : ∀ (f m : Nat) (w : List Int32), wX n S w m D → wf n S w → m + f + 76 ≤ D → ∃ m', m ≤ m' ∧ m' ≤ m + f ∧ wX n S (m_tte n care f w) m' D ∧ wf n S (m_tte n care f w)
  | 0, m, w, X, H, e => ⟨m, by omega, by omega, X, H⟩
  | f + 1, m, w, X, H, e => by
    unfold m_tte
    by_cases c : m_howMany w 3 < gA w 203
    · rw [if_pos c]
      by_cases d : m_isStuck w = 0
      · rw [if_pos d]
        obtain ⟨a, b⟩ := X.minute (care := care) H hb (by omega)
        obtain ⟨m', h1, h2, h3⟩ := wX.tte hb f (m + 1) (m_minute n w care) a b (by omega)
        exact ⟨m', by omega, by omega, h3⟩
      · rw [if_neg d]; exact ⟨m, by omega, by omega, X, H⟩
    · rw [if_neg c]; exact ⟨m, by omega, by omega, X, H⟩
end WX

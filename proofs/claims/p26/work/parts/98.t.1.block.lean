/-! the reference's block at numbers; what holds of it -/
def ft (w : List Int32) (t k : Nat) : Int32 := gN w (56 + 28 * t + k)
def fs (w : List Int32) (s k : Nat) : Int32 := gN w (8 * s + k)
def fR (w : List Int32) (t : Nat) : Nat := nV (ft w t 1)
def tO (w : List Int32) (t : Nat) : Nat := nV (ft w t 2)
def atT (w : List Int32) (t : Nat) : Nat := nV (ft w t 7)
def kT (w : List Int32) (t : Nat) : Nat := nV (ft w t 8)
def mN (w : List Int32) (s : Nat) : Nat := nV (fs w s 1)
/-- the next station, the section ahead -/
def nxT (w : List Int32) (t : Nat) : Nat := if fR w t < tO w t then atT w t + 1 else atT w t - 1
def sC (w : List Int32) (t : Nat) : Nat := if fR w t < tO w t then atT w t else atT w t - 1
/-- the cell of a train: 3 a station; 99: none -/
def cL (w : List Int32) (t : Nat) : Nat := if ft w t 6 = 1 then 3 * atT w t + kT w t else if ft w t 6 = 2 then (if nxT w t = tO w t then 99 else 3 * nxT w t + kT w t) else 99
theorem m_at_n (t k : Nat) : m_at (nI t) (nI k) = nI (56 + 28 * t + k) := by
  show nI 56 + nI 28 * nI t + nI k = _
  rw [nI_mul, nI_add, nI_add]
theorem m_of_n {w : List Int32} {t k : Nat} (ht : t < 100) (hk : k < 100) : m_of w (nI t) (nI k) = ft w t k := by
  unfold m_of ft
  rw [m_at_n, gA_n (by omega)]
theorem m_puts_n {w : List Int32} {t k : Nat} {v : Int32} (ht : t < 100) (hk : k < 100) : m_puts w (nI t) (nI k) v = w.set (56 + 28 * t + k) v := by
  show sA w (m_at (nI t) (nI k)) v = _
  rw [m_at_n, sA_n (by omega)]
theorem m_st_n {w : List Int32} {s k : Nat} (hs : s < 100) (hk : k < 100) : m_st w (nI s) (nI k) = fs w s k := by
  show gA w (nI 8 * nI s + nI k) = _
  rw [nI_mul, nI_add, gA_n (by omega)]
  rfl
section OF
variable {w : List Int32} {t : Nat}
theorem m_of0 (h : t < 100) : m_of w (nI t) 0 = ft w t 0 := m_of_n (k := 0) h (by decide)
theorem m_of1 (h : t < 100) : m_of w (nI t) 1 = ft w t 1 := m_of_n (k := 1) h (by decide)
theorem m_of2 (h : t < 100) : m_of w (nI t) 2 = ft w t 2 := m_of_n (k := 2) h (by decide)
theorem m_of3 (h : t < 100) : m_of w (nI t) 3 = ft w t 3 := m_of_n (k := 3) h (by decide)
theorem m_of4 (h : t < 100) : m_of w (nI t) 4 = ft w t 4 := m_of_n (k := 4) h (by decide)
theorem m_of5 (h : t < 100) : m_of w (nI t) 5 = ft w t 5 := m_of_n (k := 5) h (by decide)
theorem m_of6 (h : t < 100) : m_of w (nI t) 6 = ft w t 6 := m_of_n (k := 6) h (by decide)
theorem m_of7 (h : t < 100) : m_of w (nI t) 7 = ft w t 7 := m_of_n (k := 7) h (by decide)
theorem m_of8 (h : t < 100) : m_of w (nI t) 8 = ft w t 8 := m_of_n (k := 8) h (by decide)
theorem m_of9 (h : t < 100) : m_of w (nI t) 9 = ft w t 9 := m_of_n (k := 9) h (by decide)
theorem m_of10 (h : t < 100) : m_of w (nI t) 10 = ft w t 10 := m_of_n (k := 10) h (by decide)
theorem m_of11 (h : t < 100) : m_of w (nI t) 11 = ft w t 11 := m_of_n (k := 11) h (by decide)
theorem m_of12 (h : t < 100) : m_of w (nI t) 12 = ft w t 12 := m_of_n (k := 12) h (by decide)
theorem m_of13 (h : t < 100) {s : Nat} (hs : s < 7) : m_of w (nI t) (13 + nI s) = ft w t (13 + s) := by
  rw [show (13 : Int32) + nI s = nI (13 + s) from nI_add 13 s, m_of_n h (by omega)]
theorem m_of20 (h : t < 100) {s : Nat} (hs : s < 7) : m_of w (nI t) (20 + nI s) = ft w t (20 + s) := by
  rw [show (20 : Int32) + nI s = nI (20 + s) from nI_add 20 s, m_of_n h (by omega)]
theorem m_st0 (h : t < 100) : m_st w (nI t) 0 = fs w t 0 := m_st_n (k := 0) h (by decide)
theorem m_st1 (h : t < 100) : m_st w (nI t) 1 = fs w t 1 := m_st_n (k := 1) h (by decide)
theorem m_st2 (h : t < 100) {k : Nat} (hk : k < 7) : m_st w (nI t) (2 + nI k) = fs w t (2 + k) := by
  rw [show (2 : Int32) + nI k = nI (2 + k) from nI_add 2 k, m_st_n h (by omega)]
theorem m_st5 (h : t < 100) {k : Nat} (hk : k < 7) : m_st w (nI t) (5 + nI k) = fs w t (5 + k) := by
  rw [show (5 : Int32) + nI k = nI (5 + k) from nI_add 5 k, m_st_n h (by omega)]
theorem gA_201 : gA w 201 = gN w 201 := gA_n (i := 201) (by decide)
theorem gA_202 : gA w 202 = gN w 202 := gA_n (i := 202) (by decide)
theorem gA_203 : gA w 203 = gN w 203 := gA_n (i := 203) (by decide)
theorem gA_296 : gA w 296 = gN w 296 := gA_n (i := 296) (by decide)
theorem gA_309 : gA w 309 = gN w 309 := gA_n (i := 309) (by decide)
theorem gA_rank {k : Nat} (h : k < 100) : gA w (196 + nI k) = gN w (196 + k) := by
  rw [show (196 : Int32) + nI k = nI (196 + k) from nI_add 196 k, gA_n (by omega)]
end OF
/-- on its way, TO still ahead -/
def onW (w : List Int32) (t : Nat) : Prop := fR w t ≤ atT w t ∧ atT w t < tO w t ∨ tO w t < atT w t ∧ atT w t ≤ fR w t
/-- of a train: FROM, TO; HOW; where -/
def wTr (S : Nat) (w : List Int32) (t : Nat) : Prop :=
  (ft w t 1 = nI (fR w t) ∧ fR w t < S) ∧ (ft w t 2 = nI (tO w t) ∧ tO w t < S) ∧ fR w t ≠ tO w t ∧
  (ft w t 6 = 0 ∨ ft w t 6 = 1 ∨ ft w t 6 = 2 ∨ ft w t 6 = 3) ∧
  (¬ ft w t 6 = 0 → ft w t 7 = nI (atT w t) ∧ atT w t < S) ∧
  (ft w t 6 = 1 ∨ ft w t 6 = 2 → onW w t) ∧
  (ft w t 6 = 3 → atT w t = tO w t) ∧
  (ft w t 6 = 1 → ft w t 8 = nI (kT w t) ∧ kT w t < mN w (atT w t)) ∧
  (ft w t 6 = 2 → nxT w t = tO w t ∧ ft w t 8 = -1 ∨ nxT w t ≠ tO w t ∧ ft w t 8 = nI (kT w t) ∧ kT w t < mN w (nxT w t))
/-- of a station: MANY, SHUT -/
def wSt (w : List Int32) (s : Nat) : Prop := fs w s 1 = nI (mN w s) ∧ mN w s ≤ 3 ∧ ∀ k, k < 3 → fs w s (5 + k) = 0 ∨ fs w s (5 + k) = 1
def sumN (f : Nat → Nat) : Nat → Nat
  | 0 => 0
  | n + 1 => sumN f n + f n
/-- how many events a train has had; whether it has gone on a section -/
def eV (w : List Int32) (t : Nat) : Nat := if ft w t 6 = 0 then 0 else (if ft w t 6 = 2 then 2 else 1) + 2 * ((atT w t - fR w t) + (fR w t - atT w t))
def gV (w : List Int32) (k t : Nat) : Nat := if ft w t 6 = 0 then 0 else if fR w t < tO w t then (if fR w t ≤ k ∧ k < atT w t + (if ft w t 6 = 2 then 1 else 0) then 1 else 0) else (if k < fR w t ∧ atT w t ≤ k + (if ft w t 6 = 2 then 1 else 0) then 1 else 0)
def wAl (n S : Nat) (w : List Int32) : Prop := w.length = 602 ∧ gN w 203 = nI n ∧ n ≤ 5 ∧ gN w 202 = nI S ∧ S ≤ 7
def wD (n : Nat) (w : List Int32) : Prop := (∀ t u, t < n → u < n → t ≠ u → cL w t < 21 → cL w t ≠ cL w u) ∧ ∀ t u, t < n → u < n → t ≠ u → ft w t 6 = 2 → ft w u 6 = 2 → sC w t ≠ sC w u
def wRk (n : Nat) (w : List Int32) : Prop := (∀ k, k < n → ∃ t, t < n ∧ gN w (196 + k) = nI t) ∧ (∀ t, t < n → ∃ k, k < n ∧ gN w (196 + k) = nI t) ∧ ∀ j k, j < n → k < n → gN w (196 + j) = gN w (196 + k) → j = k
def wE (n : Nat) (w : List Int32) : Prop := gN w 309 = nI (sumN (eV w) n) ∧ ∀ k, k < 6 → gN w (210 + k) = nI (sumN (gV w k) n)
def wL (n S : Nat) (w : List Int32) : Prop := ∃ m, m ≤ 4 ∧ gN w 296 = nI m ∧ ∀ k, k < m → ∃ t s q, t < n ∧ s < S ∧ q < n ∧ t ≠ q ∧ gN w (297 + 3 * k) = nI t ∧ gN w (297 + 3 * k + 1) = nI s ∧ gN w (297 + 3 * k + 2) = nI q
def wPs (n : Nat) (w : List Int32) : Prop := ∀ k, k < 25 → 0 < n → (gN w (570 + k) = 0 ↔ gN w (246 + k) = -1)
/-- what the questions of where all stand want -/
def wg (n S : Nat) (w : List Int32) : Prop := wAl n S w ∧ (∀ s, s < 7 → wSt w s) ∧ ∀ t, t < n → wTr S w t
def wf (n S : Nat) (w : List Int32) : Prop := wAl n S w ∧ (∀ s, s < 7 → wSt w s) ∧ (∀ t, t < n → wTr S w t) ∧ wD n w ∧ wRk n w ∧ wE n w ∧ wL n S w ∧ wPs n w
section WF
variable {n S : Nat} {w : List Int32}
theorem wf.A (h : wf n S w) : wAl n S w := h.1
theorem wf.St (h : wf n S w) {s : Nat} (hs : s < 7) : wSt w s := h.2.1 s hs
theorem wf.T (h : wf n S w) {t : Nat} (ht : t < n) : wTr S w t := h.2.2.1 t ht
theorem wf.D (h : wf n S w) : wD n w := h.2.2.2.1
theorem wf.R (h : wf n S w) : wRk n w := h.2.2.2.2.1
theorem wf.E (h : wf n S w) : wE n w := h.2.2.2.2.2.1
theorem wf.L (h : wf n S w) : wL n S w := h.2.2.2.2.2.2.1
theorem wf.P (h : wf n S w) : wPs n w := h.2.2.2.2.2.2.2
theorem wf.len (h : wf n S w) : w.length = 602 := h.1.1
theorem wf.n5 (h : wf n S w) : n ≤ 5 := h.1.2.2.1
theorem wf.S7 (h : wf n S w) : S ≤ 7 := h.1.2.2.2.2
theorem wf.gn (h : wf n S w) : gA w 203 = nI n := gA_203.trans h.1.2.1
theorem wf.gs (h : wf n S w) : gA w 202 = nI S := gA_202.trans h.1.2.2.2.1
theorem wf.g (h : wf n S w) : wg n S w := ⟨h.A, fun _ hs => h.St hs, fun _ ht => h.T ht⟩
theorem wg.A (h : wg n S w) : wAl n S w := h.1
theorem wg.St (h : wg n S w) {s : Nat} (hs : s < 7) : wSt w s := h.2.1 s hs
theorem wg.T (h : wg n S w) {t : Nat} (ht : t < n) : wTr S w t := h.2.2 t ht
theorem wg.len (h : wg n S w) : w.length = 602 := h.1.1
theorem wg.n5 (h : wg n S w) : n ≤ 5 := h.1.2.2.1
theorem wg.S7 (h : wg n S w) : S ≤ 7 := h.1.2.2.2.2
theorem wg.gn (h : wg n S w) : gA w 203 = nI n := gA_203.trans h.1.2.1
theorem wg.gs (h : wg n S w) : gA w 202 = nI S := gA_202.trans h.1.2.2.2.1
end WF
section TR
variable {S : Nat} {w : List Int32} {t : Nat}
theorem wTr.step (h : wTr S w t) (hS : S ≤ 7) (ht : t < 100) : m_step w (nI t) = if fR w t < tO w t then 1 else -1 := by
  unfold m_step
  obtain ⟨⟨h1, h2⟩, ⟨h3, h4⟩, -⟩ := h
  rw [m_of1 ht, m_of2 ht]
  have e : ft w t 1 < ft w t 2 ↔ fR w t < tO w t := by
    rw [h1, h3, nI_ltI (by omega) (by omega)]
  by_cases c : fR w t < tO w t
  · rw [if_pos c, if_pos (e.mpr c)]
  · rw [if_neg c, if_neg (fun z => c (e.mp z))]
/-- of a train that is IN or ON -/
theorem wTr.next (h : wTr S w t) (hS : S ≤ 7) (ht : t < 100) (h6 : ft w t 6 = 1 ∨ ft w t 6 = 2) : m_next w (nI t) = nI (nxT w t) ∧ m_sectionOf w (nI t) = nI (sC w t) ∧ nxT w t < S ∧ sC w t < 6 ∧ sC w t + 1 < S := by
  have hst := h.step hS ht
  obtain ⟨⟨h1, h2⟩, ⟨h3, h4⟩, h5, -, h7, h8, -⟩ := h
  have h7 := h7 (by rcases h6 with e | e <;> rw [e] <;> decide)
  have h8 := h8 h6
  have en : m_next w (nI t) = nI (nxT w t) := by
    unfold m_next
    rw [hst, m_of7 ht, h7.1]
    unfold nxT
    by_cases c : fR w t < tO w t
    · rw [if_pos c, if_pos c, nI_1]
    · rw [if_neg c, if_neg c, nI_addn1]
      unfold onW at h8
      omega
  unfold onW at h8
  refine ⟨en, ?_, ?_, ?_, ?_⟩
  · unfold m_sectionOf
    rw [en, m_of7 ht, h7.1, iMn_n (by omega) (by unfold nxT; split <;> omega)]
    unfold nxT sC
    by_cases c : fR w t < tO w t
    · rw [if_pos c, if_pos c, Nat.min_eq_left (by omega)]
    · rw [if_neg c, if_neg c, Nat.min_eq_right (by omega)]
  · unfold nxT; split <;> omega
  · unfold sC; split <;> omega
  · unfold sC; split <;> omega
end TR
section TR2
variable {n S : Nat} {w : List Int32} {t : Nat}
/-- of a train that has a track: its cell; else none -/
theorem wTr.place (h : wTr S w t) (hS : S ≤ 7) (hs : ∀ s, s < 7 → wSt w s) (ht : t < 100) : (m_placeOf w (nI t) = -1 ∧ cL w t = 99) ∨ (m_placeOf w (nI t) = nI (cL w t / 3) ∧ m_of w (nI t) 8 = nI (cL w t % 3) ∧ cL w t < 21 ∧ cL w t / 3 < S ∧ cL w t % 3 = kT w t ∧ kT w t < mN w (cL w t / 3)) := by
  have hx := fun h6 => h.next hS ht h6
  obtain ⟨⟨h1, h2⟩, ⟨h3, h4⟩, h5, h6, h7, h8, h9, h10, h11⟩ := h
  unfold m_placeOf
  rw [m_of6 ht, m_of7 ht, m_of8 ht]
  rcases h6 with e | e | e | e
  · rw [e, if_neg (by decide), if_neg (by decide)]
    refine Or.inl ⟨rfl, ?_⟩
    unfold cL
    rw [e, if_neg (by decide), if_neg (by decide)]
  · rw [e, if_pos rfl]
    have h7 := h7 (by rw [e]; decide)
    have h10 := h10 e
    have hm := (hs (atT w t) (by omega)).2.1
    have ec : cL w t = 3 * atT w t + kT w t := by unfold cL; rw [if_pos e]
    have ed : cL w t / 3 = atT w t := by omega
    have em : cL w t % 3 = kT w t := by omega
    rw [ed, em]
    exact Or.inr ⟨h7.1, h10.1, by omega, h7.2, rfl, h10.2⟩
  · rw [e, if_neg (by decide), if_pos rfl]
    have hx := hx (Or.inr e)
    rcases h11 e with ⟨g1, g2⟩ | ⟨g1, g2, g3⟩
    · rw [g2, if_pos rfl]
      refine Or.inl ⟨rfl, ?_⟩
      unfold cL
      rw [e, if_neg (by decide), if_pos rfl, if_pos g1]
    · have hm := (hs (nxT w t) (by omega)).2.1
      have ec : cL w t = 3 * nxT w t + kT w t := by unfold cL; rw [e, if_neg (by decide), if_pos rfl, if_neg g1]
      have ed : cL w t / 3 = nxT w t := by omega
      have em : cL w t % 3 = kT w t := by omega
      rw [ed, em, g2, if_neg (nI_nn (by omega))]
      exact Or.inr ⟨hx.1, rfl, by omega, hx.2.2.1, rfl, g3⟩
  · rw [e, if_neg (by decide), if_neg (by decide)]
    refine Or.inl ⟨rfl, ?_⟩
    unfold cL
    rw [e, if_neg (by decide), if_neg (by decide)]
theorem wg.place (H : wg n S w) (ht : t < n) : (m_placeOf w (nI t) = -1 ∧ cL w t = 99) ∨ (m_placeOf w (nI t) = nI (cL w t / 3) ∧ m_of w (nI t) 8 = nI (cL w t % 3) ∧ cL w t < 21 ∧ cL w t / 3 < S ∧ cL w t % 3 = kT w t ∧ kT w t < mN w (cL w t / 3)) :=
  (H.T ht).place H.S7 (fun _ h => H.St h) (by have := H.n5; omega)
theorem wg.cl (H : wg n S w) (ht : t < n) : cL w t = 99 ∨ cL w t < 21 := by
  rcases H.place ht with h | h
  · exact Or.inl h.2
  · exact Or.inr h.2.2.1
/-- who has a cell -/
def atC (w : List Int32) (c t : Nat) : Bool := Nat.beq (cL w t) c
def onS (w : List Int32) (k t : Nat) : Bool := decide (ft w t 6 = 2) && Nat.beq (sC w t) k
theorem wg.at (H : wg n S w) (ht : t < n) {s k : Nat} (hs : s < 7) (hk : k < 3) : (if m_placeOf w (nI t) = nI s then (if m_of w (nI t) 8 = nI k then true else false) else false) = atC w (3 * s + k) t := by
  unfold atC
  rcases H.place ht with ⟨h1, h2⟩ | ⟨h1, h2, h3, h4, h5, h6⟩
  · rw [h1, h2, if_neg (fun z => nI_nn (by omega) z.symm)]
    exact (Bool.eq_false_iff.mpr (fun z => by have := Nat.beq_eq.mp z; omega)).symm
  · rw [h1, h2]
    by_cases e1 : cL w t / 3 = s
    · rw [e1, if_pos rfl]
      by_cases e2 : cL w t % 3 = k
      · rw [e2, if_pos rfl]
        exact (Nat.beq_eq.mpr (by omega)).symm
      · rw [if_neg (fun z => e2 ((nI_eq (by omega) (by omega)).mp z))]
        exact (Bool.eq_false_iff.mpr (fun z => by have := Nat.beq_eq.mp z; omega)).symm
    · rw [if_neg (fun z => e1 ((nI_eq (by omega) (by omega)).mp z))]
      exact (Bool.eq_false_iff.mpr (fun z => by have := Nat.beq_eq.mp z; omega)).symm
theorem wg.whoAt_l (H : wg n S w) {s k : Nat} (hs : s < 7) (hk : k < 3) : ∀ (f i : Nat), i + f = n → m_whoAt_l2 w (nI s) (nI k) f (nI i) = fnd (atC w (3 * s + k)) f i
  | 0, _, _ => rfl
  | f + 1, i, e => by
    unfold m_whoAt_l2 fnd
    rw [nI_1, H.whoAt_l hs hk f (i + 1) (by omega), ← H.at (t := i) (by omega) hs hk]
    by_cases c1 : m_placeOf w (nI i) = nI s
    · rw [if_pos c1, if_pos c1]
      by_cases c2 : m_of w (nI i) 8 = nI k
      · rw [if_pos c2, if_pos c2, if_pos rfl]
      · rw [if_neg c2, if_neg c2, if_neg (by decide)]
    · rw [if_neg c1, if_neg c1, if_neg (by decide)]
theorem wg.whoAt (H : wg n S w) {s k : Nat} (hs : s < 7) (hk : k < 3) : m_whoAt w (nI s) (nI k) = fnd (atC w (3 * s + k)) n 0 := by
  unfold m_whoAt
  have := H.n5
  rw [H.gn, lpN_n0 (by omega)]
  exact H.whoAt_l hs hk n 0 (Nat.zero_add n)
theorem wg.whoOn_l (H : wg n S w) {k : Nat} (hk : k < 7) : ∀ (f i : Nat), i + f = n → m_whoOn_l2 w (nI k) f (nI i) = fnd (onS w k) f i
  | 0, _, _ => rfl
  | f + 1, i, e => by
    have := H.n5
    have := H.S7
    unfold m_whoOn_l2 fnd
    rw [nI_1, H.whoOn_l hk f (i + 1) (by omega), m_of6 (by omega)]
    unfold onS
    by_cases c1 : ft w i 6 = 2
    · have hx := (H.T (t := i) (by omega)).next H.S7 (by omega) (Or.inr c1)
      rw [if_pos c1, hx.2.1, decide_eq_true c1, Bool.true_and]
      by_cases c2 : sC w i = k
      · rw [c2, if_pos rfl, if_pos (Nat.beq_eq.mpr rfl)]
      · rw [if_neg (fun z => c2 ((nI_eq (by omega) (by omega)).mp z)), if_neg (fun z => c2 (Nat.beq_eq.mp z))]
    · rw [if_neg c1, decide_eq_false c1, Bool.false_and, if_neg (by decide)]
theorem wg.whoOn (H : wg n S w) {k : Nat} (hk : k < 7) : m_whoOn w (nI k) = fnd (onS w k) n 0 := by
  unfold m_whoOn
  have := H.n5
  rw [H.gn, lpN_n0 (by omega)]
  exact H.whoOn_l hk n 0 (Nat.zero_add n)
/-- which tracks of a station one may take; the best -/
def okT (n : Nat) (w : List Int32) (t s k : Nat) : Bool := decide (fs w s (5 + k) = 0) && (decide (fnd (atC w (3 * s + k)) n 0 = -1) && decide (¬ fs w s (2 + k) < ft w t 0))
def tF (n : Nat) (w : List Int32) (t s : Nat) : Nat := bst (okT n w t s) (fun k => fs w s (2 + k)) (mN w s) 0 9
def eb (b : Nat) : Int32 := if b = 9 then -1 else nI b
theorem wg.isFree (H : wg n S w) {s k : Nat} (hs : s < 7) (hk : k < 3) : m_isFree w (nI s) (nI k) = if fs w s (5 + k) = 0 then (if fnd (atC w (3 * s + k)) n 0 = -1 then 1 else 0) else 0 := by
  unfold m_isFree
  rw [m_st5 (by omega) (by omega), H.whoAt hs hk]
theorem wg.trackFor_l (H : wg n S w) (ht : t < n) {s : Nat} (hs : s < 7) : ∀ (f i b : Nat), i + f ≤ 3 → (b = 9 ∨ b < i) → m_trackFor_l5 w (nI t) (nI s) f (nI i) (eb b) = eb (bst (okT n w t s) (fun k => fs w s (2 + k)) f i b)
  | 0, _, _, _, _ => rfl
  | f + 1, i, b, e, hb => by
    have := H.n5
    unfold m_trackFor_l5 bst
    rw [nI_1, H.isFree hs (by omega), m_st2 (by omega) (by omega), m_of0 (by omega)]
    have e2 : ((if (if fs w s (5 + i) = 0 then (if fnd (atC w (3 * s + i)) n 0 = -1 then 1 else 0) else 0 : Int32) = 0 then eb b else (if fs w s (2 + i) < ft w t 0 then eb b else (if eb b = (-1) then nI i else (if fs w s (2 + i) < m_st w (nI s) (2 + eb b) then nI i else eb b)))) : Int32) = eb (if okT n w t s i = true then (if b = 9 then i else if fs w s (2 + i) < fs w s (2 + b) then i else b) else b) := by
      unfold okT
      by_cases c1 : fs w s (5 + i) = 0
      · rw [if_pos c1, decide_eq_true c1, Bool.true_and]
        by_cases c2 : fnd (atC w (3 * s + i)) n 0 = -1
        · rw [if_pos c2, decide_eq_true c2, Bool.true_and, if_neg (by decide)]
          by_cases c3 : fs w s (2 + i) < ft w t 0
          · rw [if_pos c3, if_neg (by rw [decide_eq_false (fun z => z c3)]; decide)]
          · rw [if_neg c3, if_pos (decide_eq_true c3)]
            by_cases c4 : b = 9
            · rw [c4, if_pos rfl, show eb 9 = -1 from rfl, if_pos rfl]
              unfold eb
              rw [if_neg (by omega)]
            · have hb : b < i := by omega
              have eb1 : eb b = nI b := by unfold eb; rw [if_neg c4]
              rw [if_neg c4, eb1, if_neg (nI_nn (by omega)), m_st2 (by omega) (by omega)]
              by_cases c5 : fs w s (2 + i) < fs w s (2 + b)
              · rw [if_pos c5, if_pos c5]
                unfold eb
                rw [if_neg (by omega)]
              · rw [if_neg c5, if_neg c5, eb1]
        · rw [if_neg c2, decide_eq_false c2, Bool.false_and, if_pos rfl, if_neg (by decide)]
      · rw [if_neg c1, decide_eq_false c1, Bool.false_and, if_pos rfl, if_neg (by decide)]
    rw [e2]
    refine H.trackFor_l ht hs f (i + 1) _ (by omega) ?_
    split
    · split
      · omega
      · split <;> omega
    · omega
theorem wg.trackFor (H : wg n S w) (ht : t < n) {s : Nat} (hs : s < 7) : m_trackFor w (nI t) (nI s) = eb (tF n w t s) := by
  unfold m_trackFor
  have hs1 := H.St hs
  rw [m_st1 (by omega), hs1.1, lpN_n0 (by have := hs1.2.1; omega)]
  exact H.trackFor_l ht hs _ 0 9 (by have := hs1.2.1; omega) (Or.inl rfl)
theorem tF_or (n : Nat) (w : List Int32) (t s : Nat) : tF n w t s = 9 ∨ tF n w t s < mN w s ∧ okT n w t s (tF n w t s) = true := by
  have := bst_or (ok := okT n w t s) (L := fun k => fs w s (2 + k)) (mN w s) 0 9 (Or.inl rfl)
  rw [Nat.zero_add] at this
  exact this
theorem eb_n {b : Nat} (h : b < 2 ^ 31) : eb b = -1 ↔ b = 9 := by
  unfold eb
  by_cases c : b = 9
  · rw [if_pos c]; exact ⟨fun _ => c, fun _ => rfl⟩
  · rw [if_neg c]; exact ⟨fun z => absurd z (nI_nn h), fun z => absurd z c⟩
theorem wg.tF9 (H : wg n S w) {s : Nat} (hs : s < 7) : tF n w t s < 10 := by
  have := (H.St hs).2.1
  rcases tF_or n w t s with h | h <;> omega
/-- why not, at numbers -/
theorem wg.whyNot (H : wg n S w) (ht : t < n) : m_whyNot w (nI t) = if ft w t 6 = 3 then 1 else if ft w t 6 = 2 then 2 else if ft w t 6 = 0 then (if tF n w t (fR w t) = 9 then 3 else 0) else if fnd (onS w (sC w t)) n 0 = -1 then (if nxT w t = tO w t then 0 else if tF n w t (nxT w t) = 9 then 3 else 0) else 4 := by
  have h5 := H.n5
  have hS := H.S7
  have hT := H.T ht
  unfold m_whyNot
  rw [m_of6 (by omega), m_of1 (by omega), m_of2 (by omega)]
  by_cases c3 : ft w t 6 = 3
  · rw [if_pos c3, if_pos c3]
  rw [if_neg c3, if_neg c3]
  by_cases c2 : ft w t 6 = 2
  · rw [if_pos c2, if_pos c2]
  rw [if_neg c2, if_neg c2]
  by_cases c0 : ft w t 6 = 0
  · rw [if_pos c0, if_pos c0, hT.1.1, H.trackFor ht (by have := hT.1.2; omega)]
    by_cases c : tF n w t (fR w t) = 9
    · rw [if_pos c, if_pos ((eb_n (by omega)).mpr c)]
    · rw [if_neg c, if_neg (fun z => c ((eb_n (by have := H.tF9 (t := t) (s := fR w t) (by have := hT.1.2; omega); omega)).mp z))]
  rw [if_neg c0, if_neg c0]
  have h6 : ft w t 6 = 1 := by rcases hT.2.2.2.1 with e | e | e | e <;> first | exact e | contradiction
  obtain ⟨x1, x2, x3, x4, x5⟩ := hT.next hS (by omega) (Or.inl h6)
  rw [x1, x2, H.whoOn (by omega)]
  by_cases c1 : fnd (onS w (sC w t)) n 0 = -1
  · rw [if_pos c1, if_pos c1, hT.2.1.1]
    by_cases c4 : nxT w t = tO w t
    · rw [if_pos c4, c4, if_pos rfl]
    · rw [if_neg c4, if_neg (fun z => c4 ((nI_eq (by omega) (by have := hT.2.1.2; omega)).mp z)), H.trackFor ht (by omega)]
      by_cases c : tF n w t (nxT w t) = 9
      · rw [if_pos c, if_pos ((eb_n (by omega)).mpr c)]
      · rw [if_neg c, if_neg (fun z => c ((eb_n (by have := H.tF9 (t := t) (s := nxT w t) (by omega); omega)).mp z))]
  · rw [if_neg c1, if_neg c1]
end TR2

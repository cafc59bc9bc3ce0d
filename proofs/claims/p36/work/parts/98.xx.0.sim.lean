/-! a train that is DONE, and the same line without it: both go on alike -/
def sg (t u : Nat) : Nat := if u < t then u else u + 1
theorem sg_lt {m t u : Nat} (hu : u < m) : sg t u < m + 1 := by unfold sg; split <;> omega
theorem sg_ne (t u : Nat) : sg t u ≠ t := by unfold sg; split <;> omega
theorem sg_inj {t u u' : Nat} (h : sg t u = sg t u') : u = u' := by
  unfold sg at h
  split at h <;> split at h <;> omega
theorem sg_on {m t r : Nat} (hr : r < m + 1) (ht : t ≤ m) (hne : r ≠ t) : ∃ u, u < m ∧ sg t u = r := by
  by_cases c : r < t
  · exact ⟨r, by omega, if_pos c⟩
  · exact ⟨r - 1, by omega, by unfold sg; rw [if_neg (by omega)]; omega⟩
/-- a loop over numbers -/
def lq {X : Type} (F : Nat → X → X) : Nat → Nat → X → X
  | 0, _, x => x
  | f + 1, i, x => lq F f (i + 1) (F i x)
theorem lq_add {X : Type} {F : Nat → X → X} : ∀ (a b i : Nat) (x : X), lq F (a + b) i x = lq F b (i + a) (lq F a i x)
  | 0, b, i, x => by rw [Nat.zero_add]; rfl
  | a + 1, b, i, x => by
    rw [show a + 1 + b = (a + b) + 1 by omega]
    show lq F (a + b) (i + 1) (F i x) = lq F b (i + (a + 1)) (lq F a (i + 1) (F i x))
    rw [lq_add a b (i + 1) (F i x), show i + 1 + a = i + (a + 1) by omega]
/-- a loop over m + 1 numbers, of which p does nothing, and one over m -/
theorem lq_sim {X Y : Type} {F : Nat → X → X} {G : Nat → Y → Y} {R : X → Y → Prop} {m p : Nat} (hp : p ≤ m) (h1 : ∀ u x y, u < m → R x y → R (F (sg p u) x) (G u y)) (h2 : ∀ x y, R x y → R (F p x) y) {x : X} {y : Y} (h : R x y) : R (lq F (m + 1) 0 x) (lq G m 0 y) := by
  have A : ∀ (f i : Nat) (x : X) (y : Y), i + f ≤ p → R x y → R (lq F f i x) (lq G f i y) := by
    intro f
    induction f with
    | zero => exact fun _ _ _ _ h => h
    | succ f ih =>
      intro i x y e h
      have := h1 i x y (by omega) h
      rw [show sg p i = i from if_pos (by omega)] at this
      exact ih (i + 1) _ _ (by omega) this
  have B : ∀ (f i : Nat) (x : X) (y : Y), p ≤ i → i + f ≤ m → R x y → R (lq F f (i + 1) x) (lq G f i y) := by
    intro f
    induction f with
    | zero => exact fun _ _ _ _ _ h => h
    | succ f ih =>
      intro i x y e e2 h
      have := h1 i x y (by omega) h
      rw [show sg p i = i + 1 from if_neg (by omega)] at this
      exact ih (i + 1) _ _ (by omega) (by omega) this
  have a := A p 0 x y (by omega) h
  have b := h2 _ _ a
  have c := B (m - p) p _ _ (Nat.le_refl p) (by omega) b
  have e1 : lq F (m + 1) 0 x = lq F (m - p) (p + 1) (F p (lq F p 0 x)) := by
    rw [show m + 1 = p + (1 + (m - p)) by omega, lq_add, lq_add, Nat.zero_add]
    rfl
  have e2 : lq G m 0 y = lq G (m - p) p (lq G p 0 y) := by
    rw [show m = p + (m - p) by omega, lq_add, Nat.zero_add, show p + (m - p) - p = m - p by omega]
  rw [e1, e2]
  exact c
theorem mA_lq : ∀ (f i : Nat) (w : List Int32), m_mA f i w = lq (fun i w => m_mA1 w (nI i)) f i w
  | 0, _, _ => rfl
  | f + 1, i, w => mA_lq f (i + 1) (m_mA1 w (nI i))
theorem mM_lq (n : Nat) (care : Int32) : ∀ (f i : Nat) (w : List Int32), m_mM n care f i w = lq (fun i w => m_mM1 w n care (nI i)) f i w
  | 0, _, _ => rfl
  | f + 1, i, w => mM_lq n care f (i + 1) (m_mM1 w n care (nI i))
/-- link k of a block -/
def lkI (w : List Int32) (k a s q : Nat) : Prop := k < nV (gN w 296) ∧ gN w (297 + 3 * k) = nI a ∧ gN w (297 + 3 * k + 1) = nI s ∧ gN w (297 + 3 * k + 2) = nI q
/-- v: with train t, which is DONE (at place p in the ranks); w: without it -/
def dS (m S t p : Nat) (v w : List Int32) : Prop :=
  wf (m + 1) S v ∧ wf m S w ∧ (t ≤ m ∧ p ≤ m) ∧ ft v t 6 = 3 ∧ (∀ j, j < 56 → gN w j = gN v j) ∧ (∀ u k, u < m → k < 28 → k ≠ 12 → ft w u k = ft v (sg t u) k) ∧ gN w 201 = gN v 201 ∧
  (gN v (196 + p) = nI t ∧ ∀ k, k < m → ∃ u, u < m ∧ gN w (196 + k) = nI u ∧ gN v (196 + sg p k) = nI (sg t u)) ∧
  ∀ a s q, a < m → s < 7 → q < m → ((∃ k, lkI w k a s q) ↔ ∃ k, lkI v k (sg t a) s (sg t q))
section DS
variable {m S t p : Nat} {v w : List Int32} {u : Nat}
theorem dS.V (D : dS m S t p v w) : wf (m + 1) S v := D.1
theorem dS.W (D : dS m S t p v w) : wf m S w := D.2.1
theorem dS.tm (D : dS m S t p v w) : t ≤ m := D.2.2.1.1
theorem dS.pm (D : dS m S t p v w) : p ≤ m := D.2.2.1.2
theorem dS.d3 (D : dS m S t p v w) : ft v t 6 = 3 := D.2.2.2.1
theorem dS.lo (D : dS m S t p v w) {j : Nat} (hj : j < 56) : gN w j = gN v j := D.2.2.2.2.1 j hj
theorem dS.T (D : dS m S t p v w) (hu : u < m) {k : Nat} (hk : k < 28) (h12 : k ≠ 12) : ft w u k = ft v (sg t u) k := D.2.2.2.2.2.1 u k hu hk h12
theorem dS.now (D : dS m S t p v w) : gN w 201 = gN v 201 := D.2.2.2.2.2.2.1
theorem dS.rk (D : dS m S t p v w) : gN v (196 + p) = nI t ∧ ∀ k, k < m → ∃ u, u < m ∧ gN w (196 + k) = nI u ∧ gN v (196 + sg p k) = nI (sg t u) := D.2.2.2.2.2.2.2.1
theorem dS.L (D : dS m S t p v w) : ∀ a s q, a < m → s < 7 → q < m → ((∃ k, lkI w k a s q) ↔ ∃ k, lkI v k (sg t a) s (sg t q)) := D.2.2.2.2.2.2.2.2
theorem dS.n5 (D : dS m S t p v w) : m + 1 ≤ 5 := D.V.n5
theorem dS.st (D : dS m S t p v w) {s k : Nat} (hs : s < 7) (hk : k < 8) : fs w s k = fs v s k := D.lo (by omega)
theorem dS.qfR (D : dS m S t p v w) (hu : u < m) : fR w u = fR v (sg t u) := congrArg nV (D.T hu (by decide) (by decide))
theorem dS.qtO (D : dS m S t p v w) (hu : u < m) : tO w u = tO v (sg t u) := congrArg nV (D.T hu (by decide) (by decide))
theorem dS.qaT (D : dS m S t p v w) (hu : u < m) : atT w u = atT v (sg t u) := congrArg nV (D.T hu (by decide) (by decide))
theorem dS.qkT (D : dS m S t p v w) (hu : u < m) : kT w u = kT v (sg t u) := congrArg nV (D.T hu (by decide) (by decide))
theorem dS.qnX (D : dS m S t p v w) (hu : u < m) : nxT w u = nxT v (sg t u) := by unfold nxT; rw [D.qfR hu, D.qtO hu, D.qaT hu]
theorem dS.qsC (D : dS m S t p v w) (hu : u < m) : sC w u = sC v (sg t u) := by unfold sC; rw [D.qfR hu, D.qtO hu, D.qaT hu]
theorem dS.qcL (D : dS m S t p v w) (hu : u < m) : cL w u = cL v (sg t u) := by unfold cL; rw [D.qnX hu, D.qtO hu, D.qaT hu, D.qkT hu, D.T hu (k := 6) (by decide) (by decide)]
theorem dS.cLt (D : dS m S t p v w) : cL v t = 99 := by unfold cL; rw [D.d3, if_neg (by decide), if_neg (by decide)]
theorem dS.qmN (D : dS m S t p v w) {s : Nat} (hs : s < 7) : mN w s = mN v s := congrArg nV (D.st hs (by decide))
theorem dS.qrN (D : dS m S t p v w) (hu : u < m) {k : Nat} (hk : k < 6) : rN w u k = rN v (sg t u) k := by unfold rN; rw [D.T hu (k := 4) (by decide) (by decide), D.st (s := k + 1) (k := 0) (by omega) (by decide)]
/-- a property of all trains, of both -/
theorem dS.all (D : dS m S t p v w) {P Q : Nat → Prop} (h : ∀ u, u < m → (P u ↔ Q (sg t u))) (ht : Q t) : (∀ u, u < m → P u) ↔ ∀ r, r < m + 1 → Q r := by
  constructor
  · intro a r hr
    by_cases c : r = t
    · rw [c]; exact ht
    · obtain ⟨u, h1, h2⟩ := sg_on hr D.tm c
      rw [← h2]; exact (h u h1).mp (a u h1)
  · exact fun a u hu => (h u hu).mpr (a _ (sg_lt hu))
theorem dS.fndC (D : dS m S t p v w) {c : Nat} (hc : c < 21) : fnd (atC w c) m 0 = -1 ↔ fnd (atC v c) (m + 1) 0 = -1 := by
  have h5 := D.n5
  rw [fnd_n (by omega), fnd_n (by omega)]
  refine D.all (fun u hu => ?_) ?_
  · unfold atC; rw [D.qcL hu]
  · unfold atC
    rw [D.cLt]
    exact Bool.eq_false_iff.mpr (fun z => by have := Nat.beq_eq.mp z; omega)
theorem dS.fndS (D : dS m S t p v w) (k : Nat) : fnd (onS w k) m 0 = -1 ↔ fnd (onS v k) (m + 1) 0 = -1 := by
  have h5 := D.n5
  rw [fnd_n (by omega), fnd_n (by omega)]
  refine D.all (fun u hu => ?_) ?_
  · unfold onS; rw [D.qsC hu, D.T hu (k := 6) (by decide) (by decide)]
  · unfold onS
    rw [D.d3]
    rfl
theorem dS.qtF (D : dS m S t p v w) (hu : u < m) {s : Nat} (hs : s < 7) : tF m w u s = tF (m + 1) v (sg t u) s := by
  have h3 := (D.W.St hs).2.1
  unfold tF
  rw [← D.qmN hs]
  refine bst_congr (fun k _ hk => ?_) (fun k hk h2 => D.st hs (by omega)) (Or.inl rfl)
  unfold okT
  rw [D.st hs (by omega), D.st (k := 2 + k) hs (by omega), D.T hu (k := 0) (by decide) (by decide)]
  congr 2
  exact decide_eq_decide.mpr (D.fndC (by omega))
theorem dS.why (D : dS m S t p v w) (hu : u < m) : m_whyNot w (nI u) = m_whyNot v (nI (sg t u)) := by
  have hS := D.W.S7
  have hT := D.W.T hu
  rw [D.W.g.whyNot hu, D.V.g.whyNot (sg_lt hu), ← D.T hu (k := 6) (by decide) (by decide), ← D.qfR hu, ← D.qsC hu, ← D.qnX hu, ← D.qtO hu]
  by_cases c3 : ft w u 6 = 3
  · rw [if_pos c3, if_pos c3]
  rw [if_neg c3, if_neg c3]
  by_cases c2 : ft w u 6 = 2
  · rw [if_pos c2, if_pos c2]
  rw [if_neg c2, if_neg c2]
  by_cases c0 : ft w u 6 = 0
  · rw [if_pos c0, if_pos c0, D.qtF hu (by have := hT.1.2; omega)]
  rw [if_neg c0, if_neg c0]
  have h6 : ft w u 6 = 1 := by rcases hT.2.2.2.1 with e | e | e | e <;> first | exact e | contradiction
  have hn := (hT.next hS (by have := D.n5; omega) (Or.inl h6)).2.2.1
  by_cases c1 : fnd (onS w (sC w u)) m 0 = -1
  · rw [if_pos c1, if_pos ((D.fndS _).mp c1), D.qtF hu (by omega)]
  · rw [if_neg c1, if_neg (fun z => c1 ((D.fndS _).mpr z))]
theorem dS.whyt (D : dS m S t p v w) : m_whyNot v (nI t) = 1 := by
  rw [D.V.g.whyNot (by have := D.tm; omega), D.d3, if_pos rfl]
theorem dS.held (D : dS m S t p v w) (hu : u < m) : m_isHeld w (nI u) = m_isHeld v (nI (sg t u)) := by
  have h5 := D.n5
  have := sg_lt (t := t) hu
  unfold m_isHeld
  rw [gA_201, gA_201, m_of10 (by omega), m_of10 (by omega), D.now, D.T hu (k := 10) (by decide) (by decide)]
/-! links -/
def kpP (w : List Int32) (a s q : Nat) : Prop := ft w a 6 = 1 ∧ ft w a 7 = nI s ∧ ¬ ft w q 6 = 3 ∧ ft w q (13 + s) = -1
theorem isKept_l {n : Nat} (H : wf n S w) (ht : t < n) {l : Nat} (hl : l ≤ 4) (hw : gN w 296 = nI l) (hlk : ∀ k, k < l → ∃ t s q, t < n ∧ s < S ∧ q < n ∧ t ≠ q ∧ gN w (297 + 3 * k) = nI t ∧ gN w (297 + 3 * k + 1) = nI s ∧ gN w (297 + 3 * k + 2) = nI q) : ∀ (f i : Nat), i + f = l → (m_isKept_l2 w (nI t) f (nI i) = 0 ↔ ∀ k s q, i ≤ k → lkI w k t s q → s < 7 → q < n → ¬ kpP w t s q)
  | 0, i, e => by
    refine ⟨fun _ k s q hk z => ?_, fun _ => rfl⟩
    have := z.1
    rw [hw, nV_n (by omega)] at this
    omega
  | f + 1, i, e => by
    have h5 := H.n5
    have hS := H.S7
    obtain ⟨a, s, q, g1, g2, g3, g4, g5, g6, g7⟩ := hlk i (by omega)
    have ih := isKept_l H ht hl hw hlk f (i + 1) (by omega)
    have i0 : (297 : Int32) + 3 * nI i = nI (297 + 3 * i) := by rw [show (3 : Int32) * nI i = nI (3 * i) from nI_mul 3 i]; exact nI_add 297 _
    have l0 : m_link0 w (nI i) 0 = nI a := by
      unfold m_link0
      rw [i0]
      show gA w (nI (297 + 3 * i) + nI 0) = _
      rw [nI_add, gA_n (by omega)]; exact g5
    have l1 : m_link0 w (nI i) 1 = nI s := by
      unfold m_link0
      rw [i0]
      show gA w (nI (297 + 3 * i) + nI 1) = _
      rw [nI_add, gA_n (by omega)]; exact g6
    have l2 : m_link0 w (nI i) 2 = nI q := by
      unfold m_link0
      rw [i0]
      show gA w (nI (297 + 3 * i) + nI 2) = _
      rw [nI_add, gA_n (by omega)]; exact g7
    have hi : lkI w i a s q := ⟨by rw [hw, nV_n (by omega)]; omega, g5, g6, g7⟩
    have uniq : ∀ a' s' q', lkI w i a' s' q' → a' < 100 → s' < 100 → q' < 100 → a' = a ∧ s' = s ∧ q' = q := fun a' s' q' z y1 y2 y3 =>
      ⟨(nI_eq (by omega) (by omega)).mp (z.2.1.symm.trans g5), (nI_eq (by omega) (by omega)).mp (z.2.2.1.symm.trans g6), (nI_eq (by omega) (by omega)).mp (z.2.2.2.symm.trans g7)⟩
    have kp : m_keepsIt w (nI i) = 0 ↔ ¬ kpP w a s q := by
      unfold m_keepsIt kpP
      rw [l0, l1, l2, m_of6 (by omega), m_of6 (by omega), m_of7 (by omega), m_of13 (by omega) (by omega)]
      by_cases c1 : ft w a 6 = 1
      · rw [if_pos c1]
        by_cases c2 : ft w a 7 = nI s
        · rw [if_pos c2]
          by_cases c3 : ft w q 6 = 3
          · rw [if_pos c3]; exact ⟨fun _ z => z.2.2.1 c3, fun _ => rfl⟩
          · rw [if_neg c3]
            by_cases c4 : ft w q (13 + s) = -1
            · rw [if_pos c4]; exact ⟨fun z => absurd z (by decide), fun z => absurd ⟨c1, c2, c3, c4⟩ z⟩
            · rw [if_neg c4]; exact ⟨fun _ z => c4 z.2.2.2, fun _ => rfl⟩
        · rw [if_neg c2]; exact ⟨fun _ z => c2 z.2.1, fun _ => rfl⟩
      · rw [if_neg c1]; exact ⟨fun _ z => c1 z.1, fun _ => rfl⟩
    unfold m_isKept_l2
    rw [nI_1, l0]
    by_cases c : a = t
    · subst c
      rw [if_pos rfl]
      by_cases d : m_keepsIt w (nI i) = 0
      · rw [if_pos d, ih]
        refine ⟨fun z k s' q' hk y y2 y3 => ?_, fun z k s' q' hk y y2 y3 => z k s' q' (by omega) y y2 y3⟩
        by_cases e2 : k = i
        · subst e2
          obtain ⟨-, e3, e4⟩ := uniq _ _ _ y (by omega) (by omega) (by omega)
          rw [e3, e4]
          exact kp.mp d
        · exact z k s' q' (by omega) y y2 y3
      · rw [if_neg d]
        exact ⟨fun z => absurd z (by decide), fun z => absurd (kp.mpr (z i s q (Nat.le_refl i) hi (by omega) g3)) d⟩
    · rw [if_neg (fun z => c ((nI_eq (by omega) (by omega)).mp z)), ih]
      refine ⟨fun z k s' q' hk y y2 y3 => ?_, fun z k s' q' hk y y2 y3 => z k s' q' (by omega) y y2 y3⟩
      by_cases e2 : k = i
      · subst e2
        obtain ⟨e3, -, -⟩ := uniq _ _ _ y (by omega) (by omega) (by omega)
        exact absurd e3.symm c
      · exact z k s' q' (by omega) y y2 y3
theorem isKept_n {n : Nat} (H : wf n S w) (ht : t < n) : m_isKept w (nI t) = 0 ↔ ∀ k s q, lkI w k t s q → s < 7 → q < n → ¬ kpP w t s q := by
  obtain ⟨l, hl, hw, hlk⟩ := H.L
  unfold m_isKept
  rw [gA_296, hw, lpN_n0 (by omega)]
  refine (isKept_l H ht hl hw hlk l 0 (Nat.zero_add l)).trans ⟨fun z k s q => z k s q (Nat.zero_le k), fun z k s q _ => z k s q⟩
theorem dS.kept (D : dS m S t p v w) (hu : u < m) : m_isKept w (nI u) = 0 ↔ m_isKept v (nI (sg t u)) = 0 := by
  have h5 := D.n5
  rw [isKept_n D.W hu, isKept_n D.V (sg_lt hu)]
  have kk : ∀ s q, s < 7 → q < m → (kpP w u s q ↔ kpP v (sg t u) s (sg t q)) := fun s q hs hq => by
    unfold kpP
    rw [D.T hu (k := 6) (by decide) (by decide), D.T hu (k := 7) (by decide) (by decide), D.T hq (k := 6) (by decide) (by decide), D.T hq (k := 13 + s) (by omega) (by omega)]
  constructor
  · intro z k s q y hs hq
    by_cases c : q = t
    · rw [c]; exact fun x => x.2.2.1 D.d3
    · obtain ⟨q', h1, h2⟩ := sg_on hq D.tm c
      rw [← h2] at y ⊢
      obtain ⟨k', y'⟩ := (D.L u s q' hu hs h1).mpr ⟨k, y⟩
      exact fun x => z k' s q' y' hs h1 ((kk s q' hs h1).mpr x)
  · intro z k s q y hs hq
    obtain ⟨k', y'⟩ := (D.L u s q hu hs hq).mp ⟨k, y⟩
    exact fun x => z k' s (sg t q) y' hs (sg_lt hq) ((kk s q hs hq).mp x)
theorem dS.may (D : dS m S t p v w) (hu : u < m) : m_may w (nI u) = 0 ↔ m_may v (nI (sg t u)) = 0 := by
  have h5 := D.n5
  have hS := D.W.S7
  have hT := D.W.T hu
  have hf : fR w u < 7 := by have := hT.1.2; omega
  have hsu := sg_lt (t := t) hu
  unfold m_may
  rw [m_of6 (by omega), m_of6 (by omega), m_of3 (by omega), m_of3 (by omega), m_of7 (by omega), m_of7 (by omega), m_of1 (by omega), m_of1 (by omega), gA_201, gA_201, ← D.T hu (k := 6) (by decide) (by decide), ← D.T hu (k := 3) (by decide) (by decide), ← D.T hu (k := 7) (by decide) (by decide), ← D.T hu (k := 1) (by decide) (by decide), ← D.now]
  rw [hT.1.1, m_of13 (by omega) hf, m_of13 (by omega) hf, ← D.T hu (k := 13 + fR w u) (by omega) (by omega)]
  by_cases c0 : ft w u 6 = 0
  · rw [if_pos c0, if_pos c0]
  rw [if_neg c0, if_neg c0]
  by_cases c1 : ft w u 6 = 1
  · rw [if_pos c1, if_pos c1]
    by_cases c2 : m_isKept w (nI u) = 0
    · rw [if_pos c2, if_pos ((D.kept hu).mp c2)]
    · rw [if_neg c2, if_neg (fun z => c2 ((D.kept hu).mpr z))]
  · rw [if_neg c1, if_neg c1]
end DS
/-! may all get through -/
theorem rm_sim {m S t p : Nat} {v w : List Int32} (D : dS m S t p v w) {pv pw : Nat → Bool} (hp : ∀ u, u < m → pw u = pv (sg t u)) (ht : pv t = false) {u b : Nat} (hu : u < m) (hb : b < 7) : rm m w pw u b ↔ rm (m + 1) v pv (sg t u) b := by
  have h3 := (D.W.St hb).2.1
  unfold rm
  rw [← D.qmN hb, ← D.T hu (k := 0) (by decide) (by decide)]
  have e : ∀ k, (∀ u, u < m → pw u = true → cL w u ≠ 3 * b + k) ↔ ∀ r, r < m + 1 → pv r = true → cL v r ≠ 3 * b + k := fun k =>
    D.all (fun u hu => by rw [hp u hu, D.qcL hu]) (fun z => by rw [ht] at z; cases z)
  constructor
  · rintro ⟨k, g1, g2, g3, g4⟩
    exact ⟨k, g1, by rw [← D.st hb (by omega)]; exact g2, by rw [← D.st (k := 2 + k) hb (by omega)]; exact g3, (e k).mp g4⟩
  · rintro ⟨k, g1, g2, g3, g4⟩
    exact ⟨k, g1, by rw [D.st hb (by omega)]; exact g2, by rw [D.st (k := 2 + k) hb (by omega)]; exact g3, (e k).mpr g4⟩
theorem cgo_sim {m S t p : Nat} {v w : List Int32} (D : dS m S t p v w) {pv pw : Nat → Bool} (hp : ∀ u, u < m → pw u = pv (sg t u)) (ht : pv t = false) {u : Nat} (hu : u < m) (hc : cL w u < 21) : m_cgo w pw u = m_cgo v pv (sg t u) := by
  have hS := D.W.S7
  have hT := D.W.T hu
  have a := cgo_n (p := pw) D.W.g D.W.D.1 hu hc
  have b := cgo_n (p := pv) D.V.g D.V.D.1 (sg_lt hu) (by rw [← D.qcL hu]; exact hc)
  rw [← D.qcL hu, ← D.qtO hu] at b
  have e : (m_cgo w pw u = true) ↔ (m_cgo v pv (sg t u) = true) := by
    rw [a, b]
    have h1 := hT.2.1.2
    exact ⟨fun z x x1 x2 => (rm_sim D hp ht hu (by omega)).mp (z x x1 x2), fun z x x1 x2 => (rm_sim D hp ht hu (by omega)).mpr (z x x1 x2)⟩
  cases h1 : m_cgo w pw u with
  | true => rw [e.mp h1]
  | false =>
    cases h2 : m_cgo v pv (sg t u) with
    | false => rfl
    | true => rw [e.mpr h2] at h1; cases h1
/-- the first that may go: by numbers -/
theorem sfF_some_l {w : List Int32} {q : Nat → Bool} {s : Nat} : ∀ (f i : Nat), m_sfF w q f i = some s ↔ (i ≤ s ∧ s < i + f) ∧ (q s = true ∧ m_cgo w q s = true) ∧ ∀ r, i ≤ r → r < s → ¬ (q r = true ∧ m_cgo w q r = true)
  | 0, i => ⟨fun z => absurd z (by intro y; cases y), fun z => absurd z.1 (by omega)⟩
  | f + 1, i => by
    unfold m_sfF
    have ih := sfF_some_l (w := w) (q := q) (s := s) f (i + 1)
    by_cases c : q i = true ∧ m_cgo w q i = true
    · rw [if_pos c.1, if_pos c.2]
      constructor
      · intro z
        cases z
        exact ⟨⟨Nat.le_refl _, by omega⟩, c, fun r h1 h2 => absurd h2 (by omega)⟩
      · rintro ⟨z1, z2, z3⟩
        by_cases e : i = s
        · rw [e]
        · exact absurd c (z3 i (Nat.le_refl i) (by omega))
    · have e0 : (if q i = true then (if m_cgo w q i = true then some i else m_sfF w q f (i + 1)) else m_sfF w q f (i + 1)) = m_sfF w q f (i + 1) := by
        by_cases c1 : q i = true
        · rw [if_pos c1, if_neg (fun z => c ⟨c1, z⟩)]
        · rw [if_neg c1]
      rw [e0, ih]
      constructor
      · rintro ⟨z1, z2, z3⟩
        refine ⟨⟨by omega, by omega⟩, z2, fun r h1 h2 => ?_⟩
        by_cases e : r = i
        · rw [e]; exact c
        · exact z3 r (by omega) h2
      · rintro ⟨z1, z2, z3⟩
        have : i ≠ s := fun e => c (by rw [e]; exact z2)
        exact ⟨⟨by omega, by omega⟩, z2, fun r h1 h2 => z3 r (by omega) h2⟩
theorem sfF_some {w : List Int32} {q : Nat → Bool} {s f i : Nat} : m_sfF w q f i = some s ↔ (i ≤ s ∧ s < i + f) ∧ (q s = true ∧ m_cgo w q s = true) ∧ ∀ r, i ≤ r → r < s → ¬ (q r = true ∧ m_cgo w q r = true) := sfF_some_l f i
theorem sfF_no {w : List Int32} {q : Nat → Bool} : ∀ {f i : Nat}, m_sfF w q f i = none ↔ ∀ r, i ≤ r → r < i + f → ¬ (q r = true ∧ m_cgo w q r = true) := by
  intro f i
  constructor
  · intro h r h1 h2 z
    -- the least of them
    have key : ∀ d, ∀ r, r ≤ i + d → i ≤ r → r < i + f → (q r = true ∧ m_cgo w q r = true) → ∃ s, m_sfF w q f i = some s := by
      intro d
      induction d with
      | zero =>
        intro r a1 a2 a3 a4
        exact ⟨r, sfF_some.mpr ⟨⟨a2, a3⟩, a4, fun x b1 b2 => absurd b2 (by omega)⟩⟩
      | succ d ih =>
        intro r a1 a2 a3 a4
        by_cases c : ∃ x, i ≤ x ∧ x < r ∧ (q x = true ∧ m_cgo w q x = true)
        · obtain ⟨x, b1, b2, b3⟩ := c
          exact ih x (by omega) b1 (by omega) b3
        · exact ⟨r, sfF_some.mpr ⟨⟨a2, a3⟩, a4, fun x b1 b2 b3 => c ⟨x, b1, b2, b3⟩⟩⟩
    obtain ⟨s, hs⟩ := key (r - i) r (by omega) h1 h2 z
    rw [h] at hs
    cases hs
  · intro h
    cases e : m_sfF w q f i with
    | none => rfl
    | some s =>
      obtain ⟨a, b, c⟩ := sfF_some.mp e
      exact absurd b (h s a.1 a.2)
theorem sg_mono {t a b : Nat} : sg t a < sg t b ↔ a < b := by
  unfold sg
  split <;> split <;> omega
theorem sfO_sim {m S t p : Nat} {v w : List Int32} (D : dS m S t p v w) {tv tw : List Int32} {xv xw : Int32} : ∀ (f : Nat) (pv pw : Nat → Bool) (tv tw : List Int32) (xv xw : Int32), (∀ u, u < m → pw u = pv (sg t u)) → pv t = false → (∀ u, u < m → pw u = true → cL w u < 21) → (∀ u, u < m → (m_sfO w m f pw tw xw).1 u = (m_sfO v (m + 1) f pv tv xv).1 (sg t u)) ∧ (m_sfO v (m + 1) f pv tv xv).1 t = false
  | 0, pv, pw, tv, tw, xv, xw, h1, h2, h3 => ⟨h1, h2⟩
  | f + 1, pv, pw, tv, tw, xv, xw, h1, h2, h3 => by
    unfold m_sfO
    have hq : ∀ u, u < m → ((pw u = true ∧ m_cgo w pw u = true) ↔ (pv (sg t u) = true ∧ m_cgo v pv (sg t u) = true)) := fun u hu => by
      rw [← h1 u hu]
      exact ⟨fun z => ⟨z.1, by rw [← cgo_sim D h1 h2 hu (h3 u hu z.1)]; exact z.2⟩, fun z => ⟨z.1, by rw [cgo_sim D h1 h2 hu (h3 u hu z.1)]; exact z.2⟩⟩
    cases e : m_sfF w pw m 0 with
    | none =>
      have e2 : m_sfF v pv (m + 1) 0 = none := sfF_no.mpr (fun r _ hr => by
        by_cases c : r = t
        · rw [c, h2]; exact fun z => nomatch z.1
        · obtain ⟨u, a, b⟩ := sg_on (show r < m + 1 by omega) D.tm c
          rw [← b]
          exact fun z => sfF_no.mp e u (Nat.zero_le u) (by omega) ((hq u a).mpr z))
      rw [e2]
      exact ⟨h1, h2⟩
    | some s =>
      obtain ⟨a, b, c⟩ := sfF_some.mp e
      have hs : s < m := by omega
      have e2 : m_sfF v pv (m + 1) 0 = some (sg t s) := sfF_some.mpr ⟨⟨Nat.zero_le _, by have := sg_lt (t := t) hs; omega⟩, (hq s hs).mp b, fun r _ hr => by
        by_cases d : r = t
        · rw [d, h2]; exact fun z => nomatch z.1
        · obtain ⟨u, y1, y2⟩ := sg_on (show r < m + 1 by have := sg_lt (t := t) hs; omega) D.tm d
          rw [← y2] at hr ⊢
          exact fun z => c u (Nat.zero_le u) (sg_mono.mp hr) ((hq u y1).mpr z)⟩
      rw [e2]
      refine sfO_sim D (tv := tv) (tw := tw) (xv := xv) (xw := xw) f _ _ _ _ _ _ (fun u hu => ?_) (by show (pv t && _) = false; rw [h2]; rfl) (fun u hu z => h3 u hu (Bool.and_eq_true_iff.mp z).1)
      show (pw u && !Nat.beq u s) = (pv (sg t u) && !Nat.beq (sg t u) (sg t s))
      rw [h1 u hu]
      congr 2
      by_cases d : u = s
      · rw [d, Nat.beq_refl, Nat.beq_refl]
      · have d2 : sg t u ≠ sg t s := fun z => d (sg_inj z)
        rw [Bool.eq_false_iff.mpr (fun z => d (Nat.beq_eq.mp z)), Bool.eq_false_iff.mpr (fun z => d2 (Nat.beq_eq.mp z))]
theorem sfO_sub {w : List Int32} {n : Nat} {r : Nat} : ∀ (f : Nat) (q : Nat → Bool) (tk : List Int32) (tm : Int32), q r = false → (m_sfO w n f q tk tm).1 r = false
  | 0, _, _, _, h => h
  | f + 1, q, tk, tm, h => by
    unfold m_sfO
    cases m_sfF w q n 0 with
    | none => exact h
    | some s => exact sfO_sub f _ _ _ (by show (q r && _) = false; rw [h]; rfl)
theorem sf_out {w : List Int32} {n : Nat} (r : Nat) (hr : n ≤ r) : (m_sf w n []).1 r = false := by
  refine sfO_sub 6 _ _ _ ?_
  rw [sfL_eq, decide_eq_false (show ¬ r < 0 + n by omega)]
  simp
theorem dS.safe {m S t p : Nat} {v w : List Int32} (D : dS m S t p v w) : m_isSafe w m = 0 ↔ m_isSafe v (m + 1) = 0 := by
  have h5 := D.n5
  have hs := sfO_sim D (tv := []) (tw := []) (xv := 0) (xw := 0) 6 (m_sfL v (m + 1) 0 (fun _ => false)) (m_sfL w m 0 (fun _ => false)) [] [] 0 0 (fun u hu => ?_) ?_ (fun u hu z => ?_)
  · have key : mk5 (m_sf w m []).1 = 0 ↔ mk5 (m_sf v (m + 1) []).1 = 0 := by
      rw [mk5_0, mk5_0]
      constructor
      · intro z r hr
        by_cases c1 : r < m + 1
        · by_cases c : r = t
          · rw [c]; exact hs.2
          · obtain ⟨u, a, b⟩ := sg_on c1 D.tm c
            rw [← b]
            exact (hs.1 u a).symm.trans (z u (by omega))
        · exact sf_out r (by omega)
      · intro z r hr
        by_cases c1 : r < m
        · exact (hs.1 r c1).trans (z _ (by have := sg_lt (t := t) c1; omega))
        · exact sf_out r (by omega)
    unfold m_isSafe
    by_cases c : mk5 (m_sf w m []).1 = 0
    · rw [if_pos c, if_pos (key.mp c)]
    · rw [if_neg c, if_neg (fun z => c (key.mpr z))]
  · rw [sfL_eq, sfL_eq, Bool.false_or, Bool.false_or, plc_n D.W.g hu, plc_n D.V.g (sg_lt hu), D.qcL hu]
    have h1 : u < 0 + m := by omega
    have h2 : sg t u < 0 + (m + 1) := by have := sg_lt (t := t) hu; omega
    rw [decide_eq_true h1, decide_eq_true h2]
    rfl
  · rw [sfL_eq, plc_n D.V.g (by have := D.tm; omega), D.cLt]
    simp
  · rw [sfL_eq, plc_n D.W.g hu] at z
    simp only [Bool.false_or, Bool.and_eq_true_iff, decide_eq_true_eq] at z
    exact z.2

/-! the reference's drops: a train is no more -/
def dg (t a : Nat) : Nat := if t < a then a - 1 else a
theorem sg_dg {t a : Nat} (h : a ≠ t) : sg t (dg t a) = a := by
  unfold sg dg
  split <;> split <;> omega
theorem dg_sg {t u : Nat} : dg t (sg t u) = u := by
  unfold sg dg
  split <;> split <;> omega
theorem dg_lt {t a m : Nat} (h : a ≠ t) (ht : t ≤ m) (ha : a < m + 1) : dg t a < m := by unfold dg; split <;> omega
/-- a number less 1, if it is greater -/
def dcI (x y : Int32) : Int32 := y - (if x < y then 1 else 0)
theorem dgI {t a : Nat} (ht : t < 100) (ha : a < 100) : dcI (nI t) (nI a) = nI (dg t a) := by
  unfold dg dcI
  by_cases c : t < a
  · rw [if_pos ((nI_ltI (by omega) (by omega)).mpr c), if_pos c, nI_sub1 (by omega)]
  · rw [if_neg (fun z => c ((nI_ltI (by omega) (by omega)).mp z)), if_neg c, Int32.sub_zero]
theorem m_link0_n {w : List Int32} {k c : Nat} (hk : k < 100) (hc : c < 3) : m_link0 w (nI k) (nI c) = gN w (297 + 3 * k + c) := by
  unfold m_link0
  rw [show (3 : Int32) * nI k = nI (3 * k) from nI_mul 3 k, show (297 : Int32) + nI (3 * k) = nI (297 + 3 * k) from nI_add 297 _, nI_add, gA_n (by omega)]
theorem drE_n : ∀ (f j : Nat) (w : List Int32), j + f + 28 ≤ 602 → w.length = 602 → (m_drE f (nI j) w).length = 602 ∧ ∀ i, gN (m_drE f (nI j) w) i = if j ≤ i ∧ i < j + f then gN w (i + 28) else gN w i
  | 0, j, w, e, hl => ⟨hl, fun i => by rw [if_neg (by omega)]; rfl⟩
  | f + 1, j, w, e, hl => by
    unfold m_drE
    rw [nI_1, show nI j + 28 = nI (j + 28) from nI_add j 28, sA_n (by omega), gA_n (by omega)]
    obtain ⟨h1, h2⟩ := drE_n f (j + 1) (w.set j (gN w (j + 28))) (by omega) (by rw [List.length_set]; exact hl)
    refine ⟨h1, fun i => ?_⟩
    rw [h2 i]
    by_cases c : j + 1 ≤ i ∧ i < j + 1 + f
    · rw [if_pos c, if_pos (by omega), gN_ne (by omega)]
    · rw [if_neg c]
      by_cases d : i = j
      · rw [if_pos (by omega), d, gN_eq (by omega)]
      · rw [if_neg (by omega), gN_ne (fun z => d z.symm)]
theorem drC_n : ∀ (f k : Nat) (w : List Int32), k + f ≤ 10 → w.length = 602 → (m_drC f (nI k) w).length = 602 ∧ ∀ i, gN (m_drC f (nI k) w) i = if 196 + k ≤ i ∧ i < 196 + k + f then gN w (i + 1) else gN w i
  | 0, j, w, e, hl => ⟨hl, fun i => by rw [if_neg (by omega)]; rfl⟩
  | f + 1, k, w, e, hl => by
    unfold m_drC
    rw [nI_1, show (196 : Int32) + nI k = nI (196 + k) from nI_add 196 k, show nI (196 + k) + 1 = nI (196 + k + 1) from nI_add _ 1, sA_n (by omega), gA_n (by omega)]
    obtain ⟨h1, h2⟩ := drC_n f (k + 1) (w.set (196 + k) (gN w (196 + k + 1))) (by omega) (by rw [List.length_set]; exact hl)
    refine ⟨h1, fun i => ?_⟩
    rw [h2 i]
    by_cases c : 196 + (k + 1) ≤ i ∧ i < 196 + (k + 1) + f
    · rw [if_pos c, if_pos (by omega), gN_ne (by omega)]
    · rw [if_neg c]
      by_cases d : i = 196 + k
      · rw [if_pos (by omega), d, gN_eq (by omega)]
      · rw [if_neg (by omega), gN_ne (fun z => d z.symm)]
theorem drD_n {x : Int32} : ∀ (f k : Nat) (w : List Int32), k + f ≤ 10 → w.length = 602 → (m_drD x f (nI k) w).length = 602 ∧ ∀ i, gN (m_drD x f (nI k) w) i = if 196 + k ≤ i ∧ i < 196 + k + f then dcI x (gN w i) else gN w i
  | 0, j, w, e, hl => ⟨hl, fun i => by rw [if_neg (by omega)]; rfl⟩
  | f + 1, k, w, e, hl => by
    unfold m_drD
    rw [nI_1, show (196 : Int32) + nI k = nI (196 + k) from nI_add 196 k, sA_n (by omega), gA_n (by omega)]
    show (m_drD x f (nI (k + 1)) (w.set (196 + k) (dcI x (gN w (196 + k))))).length = 602 ∧ ∀ i, gN (m_drD x f (nI (k + 1)) (w.set (196 + k) (dcI x (gN w (196 + k))))) i = _
    obtain ⟨h1, h2⟩ := drD_n (x := x) f (k + 1) (w.set (196 + k) (dcI x (gN w (196 + k)))) (by omega) (by rw [List.length_set]; exact hl)
    refine ⟨h1, fun i => ?_⟩
    rw [h2 i]
    by_cases c : 196 + (k + 1) ≤ i ∧ i < 196 + (k + 1) + f
    · rw [if_pos c, if_pos (by omega), gN_ne (by omega)]
    · rw [if_neg c]
      by_cases d : i = 196 + k
      · rw [if_pos (by omega), d, gN_eq (by omega)]
      · rw [if_neg (by omega), gN_ne (fun z => d z.symm)]
/-- one link's trains come up -/
def dbW (x : Int32) (w : List Int32) (i : Nat) : List Int32 := (w.set (297 + 3 * i) (dcI x (gN w (297 + 3 * i)))).set (297 + 3 * i + 2) (dcI x (gN w (297 + 3 * i + 2)))
theorem dbW_e {x : Int32} {w : List Int32} {i : Nat} (hi : i < 100) : (sA (sA w (297 + (3 * (nI i))) ((gA w (297 + (3 * (nI i)))) - ((if x < (m_link0 w (nI i) 0) then 1 else 0) : Int32))) ((297 + (3 * (nI i))) + 2) ((gA (sA w (297 + (3 * (nI i))) ((gA w (297 + (3 * (nI i)))) - ((if x < (m_link0 w (nI i) 0) then 1 else 0) : Int32))) ((297 + (3 * (nI i))) + 2)) - ((if x < (m_link0 (sA w (297 + (3 * (nI i))) ((gA w (297 + (3 * (nI i)))) - ((if x < (m_link0 w (nI i) 0) then 1 else 0) : Int32))) (nI i) 2) then 1 else 0) : Int32))) = dbW x w i := by
  have l0 : ∀ w : List Int32, m_link0 w (nI i) 0 = gN w (297 + 3 * i) := fun w => m_link0_n (c := 0) hi (by decide)
  have l2 : ∀ w : List Int32, m_link0 w (nI i) 2 = gN w (297 + 3 * i + 2) := fun w => m_link0_n (c := 2) hi (by decide)
  rw [l0, l2, show (3 : Int32) * nI i = nI (3 * i) from nI_mul 3 i, show (297 : Int32) + nI (3 * i) = nI (297 + 3 * i) from nI_add 297 _, show nI (297 + 3 * i) + 2 = nI (297 + 3 * i + 2) from nI_add _ 2, sA_n (by omega), sA_n (by omega), gA_n (by omega), gA_n (by omega), gN_ne (by omega)]
  rfl
theorem drB_n {x : Int32} : ∀ (f k : Nat) (w : List Int32), k + f ≤ 4 → w.length = 602 → (m_drB x f k w).length = 602 ∧ ∀ i, gN (m_drB x f k w) i = if 297 + 3 * k ≤ i ∧ i < 297 + 3 * (k + f) ∧ (i - 297) % 3 ≠ 1 then dcI x (gN w i) else gN w i
  | 0, j, w, e, hl => ⟨hl, fun i => by rw [if_neg (by omega)]; rfl⟩
  | f + 1, k, w, e, hl => by
    unfold m_drB
    rw [dbW_e (by omega)]
    obtain ⟨h1, h2⟩ := drB_n (x := x) f (k + 1) (dbW x w k) (by omega) (by unfold dbW; rw [List.length_set, List.length_set]; exact hl)
    refine ⟨h1, fun i => ?_⟩
    rw [h2 i]
    unfold dbW
    by_cases c : 297 + 3 * (k + 1) ≤ i ∧ i < 297 + 3 * (k + 1 + f) ∧ (i - 297) % 3 ≠ 1
    · rw [if_pos c, if_pos (by omega), gN_ne (by omega), gN_ne (by omega)]
    · rw [if_neg c]
      by_cases d : i = 297 + 3 * k + 2
      · rw [if_pos (by omega), d, gN_eq (by rw [List.length_set]; omega)]
      · rw [gN_ne (fun z => d z.symm)]
        by_cases d2 : i = 297 + 3 * k
        · rw [if_pos (by omega), d2, gN_eq (by omega)]
        · rw [if_neg (by omega), gN_ne (fun z => d2 z.symm)]
/-- link k -/
def lk3 (w : List Int32) (k a s q : Nat) : Prop := gN w (297 + 3 * k) = nI a ∧ gN w (297 + 3 * k + 1) = nI s ∧ gN w (297 + 3 * k + 2) = nI q
theorem lk3_u {w : List Int32} {k a s q a' s' q' : Nat} (h : lk3 w k a s q) (h' : lk3 w k a' s' q') (h1 : a < 100 ∧ s < 100 ∧ q < 100) (h2 : a' < 100 ∧ s' < 100 ∧ q' < 100) : a = a' ∧ s = s' ∧ q = q' :=
  ⟨(nI_eq (by omega) (by omega)).mp (h.1.symm.trans h'.1), (nI_eq (by omega) (by omega)).mp (h.2.1.symm.trans h'.2.1), (nI_eq (by omega) (by omega)).mp (h.2.2.symm.trans h'.2.2)⟩
def lkV (n S : Nat) (w : List Int32) (l : Nat) : Prop := ∀ k, k < l → ∃ a s q, (a < n ∧ s < S ∧ q < n) ∧ a ≠ q ∧ lk3 w k a s q
theorem drA_n {n S t : Nat} (hn : n ≤ 5) (hS : S ≤ 7) (ht : t < n) : ∀ (f : Nat) (w : List Int32) (l : Nat), w.length = 602 → gN w 296 = nI l → l ≤ 4 → f ≤ l → lkV n S w l → (∀ k a s q, f ≤ k → k < l → lk3 w k a s q → a < n → q < n → s < S → a ≠ t ∧ q ≠ t) →
    ∃ l', l' ≤ 4 ∧ (m_drA (nI t) f w).length = 602 ∧ gN (m_drA (nI t) f w) 296 = nI l' ∧ lkV n S (m_drA (nI t) f w) l' ∧ (∀ k a s q, k < l' → lk3 (m_drA (nI t) f w) k a s q → a < n → q < n → s < S → a ≠ t ∧ q ≠ t) ∧ (∀ a s q, a < n → s < S → q < n → a ≠ t → q ≠ t → ((∃ k, k < l' ∧ lk3 (m_drA (nI t) f w) k a s q) ↔ ∃ k, k < l ∧ lk3 w k a s q)) ∧ ∀ j, j < 296 ∨ 309 ≤ j → gN (m_drA (nI t) f w) j = gN w j
  | 0, w, l, hl, h296, l4, fl, hV, hN => ⟨l, l4, hl, h296, hV, fun k a s q hk => hN k a s q (Nat.zero_le k) hk, fun a s q _ _ _ _ _ => Iff.rfl, fun _ _ => rfl⟩
  | f + 1, w, l, hl, h296, l4, fl, hV, hN => by
    obtain ⟨a, s, q, ⟨ha, hs, hq⟩, haq, L⟩ := hV f (by omega)
    have l0 : m_link0 w (nI f) 0 = nI a := (m_link0_n (c := 0) (by omega) (by decide)).trans L.1
    have l2 : m_link0 w (nI f) 2 = nI q := (m_link0_n (c := 2) (by omega) (by decide)).trans L.2.2
    -- a link goes
    have go : (a = t ∨ q = t) → ∃ l', l' ≤ 4 ∧ (m_drA (nI t) f (m_dropsLink w (nI f))).length = 602 ∧ gN (m_drA (nI t) f (m_dropsLink w (nI f))) 296 = nI l' ∧ lkV n S (m_drA (nI t) f (m_dropsLink w (nI f))) l' ∧ (∀ k a s q, k < l' → lk3 (m_drA (nI t) f (m_dropsLink w (nI f))) k a s q → a < n → q < n → s < S → a ≠ t ∧ q ≠ t) ∧ (∀ a s q, a < n → s < S → q < n → a ≠ t → q ≠ t → ((∃ k, k < l' ∧ lk3 (m_drA (nI t) f (m_dropsLink w (nI f))) k a s q) ↔ ∃ k, k < l ∧ lk3 w k a s q)) ∧ ∀ j, j < 296 ∨ 309 ≤ j → gN (m_drA (nI t) f (m_dropsLink w (nI f))) j = gN w j := by
      intro hat
      have e1 : m_dropsLink w (nI f) = (shf (9 - 3 * f) (297 + 3 * f) w).set 296 (gN (shf (9 - 3 * f) (297 + 3 * f) w) 296 - 1) := drops_n (by omega)
      rw [e1]
      have z := fun j => shf_gN (9 - 3 * f) (297 + 3 * f) w j (by omega)
      have g : ∀ j, j ≠ 296 → gN ((shf (9 - 3 * f) (297 + 3 * f) w).set 296 (gN (shf (9 - 3 * f) (297 + 3 * f) w) 296 - 1)) j = if 297 + 3 * f ≤ j ∧ j < 306 then gN w (j + 3) else gN w j := fun j hj => by
        rw [gN_ne (fun y => hj y.symm), z j, show 297 + 3 * f + (9 - 3 * f) = 306 by omega]
      have g296 : gN ((shf (9 - 3 * f) (297 + 3 * f) w).set 296 (gN (shf (9 - 3 * f) (297 + 3 * f) w) 296 - 1)) 296 = nI (l - 1) := by
        rw [gN_eq (by rw [shf_len]; omega), z 296, if_neg (by omega), h296, nI_sub1 (by omega)]
      have gl : ((shf (9 - 3 * f) (297 + 3 * f) w).set 296 (gN (shf (9 - 3 * f) (297 + 3 * f) w) 296 - 1)).length = 602 := by rw [List.length_set, shf_len]; exact hl
      generalize (shf (9 - 3 * f) (297 + 3 * f) w).set 296 (gN (shf (9 - 3 * f) (297 + 3 * f) w) 296 - 1) = w1 at *
      have k1 : ∀ k a s q, k < f → (lk3 w1 k a s q ↔ lk3 w k a s q) := fun k a s q hk => by
        unfold lk3
        rw [g _ (by omega), g _ (by omega), g _ (by omega), if_neg (by omega), if_neg (by omega), if_neg (by omega)]
      have k2 : ∀ k a s q, f ≤ k → k < 3 → (lk3 w1 k a s q ↔ lk3 w (k + 1) a s q) := fun k a s q h1 h2 => by
        unfold lk3
        rw [g _ (by omega), g _ (by omega), g _ (by omega), if_pos (by omega), if_pos (by omega), if_pos (by omega), show 297 + 3 * k + 3 = 297 + 3 * (k + 1) by omega, show 297 + 3 * k + 1 + 3 = 297 + 3 * (k + 1) + 1 by omega, show 297 + 3 * k + 2 + 3 = 297 + 3 * (k + 1) + 2 by omega]
      have V1 : lkV n S w1 (l - 1) := fun k hk => by
        by_cases c : k < f
        · obtain ⟨a, s, q, h1, h2, h3⟩ := hV k (by omega)
          exact ⟨a, s, q, h1, h2, (k1 k a s q c).mpr h3⟩
        · obtain ⟨a, s, q, h1, h2, h3⟩ := hV (k + 1) (by omega)
          exact ⟨a, s, q, h1, h2, (k2 k a s q (by omega) (by omega)).mpr h3⟩
      obtain ⟨l', r1, r2, r3, r4, r5, r6, r7⟩ := drA_n hn hS ht f w1 (l - 1) gl g296 (by omega) (by omega) V1 (fun k a s q h1 h2 h3 => hN (k + 1) a s q (by omega) (by omega) ((k2 k a s q h1 (by omega)).mp h3))
      refine ⟨l', r1, r2, r3, r4, r5, fun a' s' q' b1 b2 b3 b4 b5 => (r6 a' s' q' b1 b2 b3 b4 b5).trans ?_, fun j hj => (r7 j hj).trans (by rw [g j (by omega), if_neg (by omega)])⟩
      constructor
      · rintro ⟨k, h1, h2⟩
        by_cases c : k < f
        · exact ⟨k, by omega, (k1 _ _ _ _ c).mp h2⟩
        · exact ⟨k + 1, by omega, (k2 _ _ _ _ (by omega) (by omega)).mp h2⟩
      · rintro ⟨k, h1, h2⟩
        by_cases c : k < f
        · exact ⟨k, by omega, (k1 _ _ _ _ c).mpr h2⟩
        · by_cases d : k = f
          · rw [d] at h2
            obtain ⟨y1, y2, y3⟩ := lk3_u L h2 ⟨by omega, by omega, by omega⟩ ⟨by omega, by omega, by omega⟩
            rcases hat with y | y <;> omega
          · exact ⟨k - 1, by omega, (k2 _ _ _ _ (by omega) (by omega)).mpr (by rw [show k - 1 + 1 = k by omega]; exact h2)⟩
    unfold m_drA
    rw [l0, l2]
    by_cases c1 : a = t
    · rw [if_pos (by rw [c1])]
      exact go (Or.inl c1)
    rw [if_neg (fun z => c1 ((nI_eq (by omega) (by omega)).mp z))]
    by_cases c2 : q = t
    · rw [if_pos (by rw [c2])]
      exact go (Or.inr c2)
    rw [if_neg (fun z => c2 ((nI_eq (by omega) (by omega)).mp z))]
    refine drA_n hn hS ht f w l hl h296 l4 (by omega) hV (fun k a' s' q' h1 h2 h3 b1 b2 b3 => ?_)
    by_cases d : k = f
    · rw [d] at h3
      obtain ⟨y1, y2, y3⟩ := lk3_u L h3 ⟨by omega, by omega, by omega⟩ ⟨by omega, by omega, by omega⟩
      exact ⟨by omega, by omega⟩
    · exact hN k a' s' q' (by omega) h2 h3 b1 b2 b3
theorem rkl_congr {w w' : List Int32} {x : Int32} (h : ∀ j, 196 ≤ j → j < 201 → gN w' j = gN w j) : ∀ (f i : Nat), i + f = 4 → m_rkl w' x f (nI i) = m_rkl w x f (nI i) ∧ (m_rk w' x f (nI i) ↔ m_rk w x f (nI i))
  | 0, i, e => by
    refine ⟨rfl, ?_⟩
    unfold m_rk
    rw [gA_rank (by omega), gA_rank (by omega), h _ (by omega) (by omega)]
  | f + 1, i, e => by
    obtain ⟨a, b⟩ := rkl_congr h f (i + 1) (by omega)
    unfold m_rkl m_rk
    rw [nI_1, a, b, gA_rank (by omega), gA_rank (by omega), h _ (by omega) (by omega)]
    exact ⟨rfl, Iff.rfl⟩
/-- all that drops leaves -/
def drP (m S t p : Nat) (w x : List Int32) : Prop := x.length = 602 ∧ (∀ j, (j < 56 ∨ 201 ≤ j ∧ j < 296 ∧ j ≠ 203 ∨ 309 ≤ j) → gN x j = gN w j) ∧ gN x 203 = nI m ∧ (∀ u k, u < m → k < 28 → ft x u k = ft w (sg t u) k) ∧ (∀ k, k < m → ∃ u, u < m ∧ gN x (196 + k) = nI u ∧ gN w (196 + sg p k) = nI (sg t u)) ∧ ∃ l, l ≤ 4 ∧ gN x 296 = nI l ∧ lkV m S x l ∧ ∀ a s q, a < m → s < S → q < m → ((∃ k, k < l ∧ lk3 x k a s q) ↔ ∃ k, k < nV (gN w 296) ∧ lk3 w k (sg t a) s (sg t q))
section DRP
variable {m S t : Nat} {w : List Int32}
theorem drops_P (H : wf (m + 1) S w) (ht : t < m + 1) : m_dok w (nI t) ∧ ∃ p, p ≤ m ∧ gN w (196 + p) = nI t ∧ drP m S t p w (m_drops w (nI t)) := by
  have h5 := H.n5
  have hS := H.S7
  have hl := H.len
  obtain ⟨l, l4, h296, hL⟩ := H.L
  have hV : lkV (m + 1) S w l := fun k hk => by
    obtain ⟨a, s, q, g1, g2, g3, g4, g5, g6, g7⟩ := hL k hk
    exact ⟨a, s, q, ⟨g1, g2, g3⟩, g4, g5, g6, g7⟩
  obtain ⟨lA, a1, a2, a3, a4, a5, a6, a7⟩ := drA_n h5 hS ht l w l hl h296 l4 (Nat.le_refl l) hV (fun k a s q h1 h2 => absurd h2 (by omega))
  have eA : m_drWA w (nI t) = m_drA (nI t) l w := by unfold m_drWA; rw [gA_296, h296, lpN_n0 (by omega)]
  have eA6 : gA (m_drWA w (nI t)) 296 = nI lA := by rw [eA, gA_296]; exact a3
  have eB : m_drWB w (nI t) = m_drB (nI t) lA 0 (m_drA (nI t) l w) := by
    unfold m_drWB
    rw [eA6, lpN_n0 (by omega), eA]
  obtain ⟨b1, b2⟩ := drB_n (x := nI t) lA 0 (m_drA (nI t) l w) (by omega) a2
  rw [← eB] at b1 b2
  rw [← eA] at a2 a3 a4 a5 a6 a7 b2
  obtain ⟨wA, ewA⟩ : ∃ z, z = m_drWA w (nI t) := ⟨_, rfl⟩
  rw [← ewA] at a2 a3 a4 a5 a6 a7 b2 eA6
  have bo : ∀ j, j < 296 ∨ 309 ≤ j → gN (m_drWB w (nI t)) j = gN w j := fun j hj => by rw [b2 j, if_neg (by omega)]; exact a7 j hj
  have b296 : gN (m_drWB w (nI t)) 296 = nI lA := by rw [b2, if_neg (by omega)]; exact a3
  obtain ⟨c1, c2⟩ := rkl_congr (w := w) (w' := m_drWB w (nI t)) (x := nI t) (fun j x y => bo j (by omega)) 4 0 rfl
  obtain ⟨p, hp, hp1, hp2⟩ := rank_at H ht
  refine ⟨⟨by rw [gA_296, h296, lpN_n0 (by omega)]; omega, by rw [gA_296, h296, lpN_n0 (by omega)], ?_, c2.mpr (H.rk ht), fun w' => w'.length = 602 ∧ gA w' 296 = nI lA, ?_⟩, p, by omega, hp2, ?_⟩
  · rw [← ewA, eA6, lpN_n0 (by omega)]; omega
  · rw [← ewA, eA6, lpN_n0 (by omega)]
    refine ⟨⟨a2, by rw [gA_296]; exact a3⟩, fun w' z => z.2, fun w' i hi z => ?_⟩
    rw [dbW_e (by omega)]
    unfold dbW
    refine ⟨by rw [List.length_set, List.length_set]; exact z.1, ?_⟩
    rw [gA_296, gN_ne (by omega), gN_ne (by omega), ← gA_296]
    exact z.2
  have erk : m_rankOf (m_drWB w (nI t)) (nI t) = nI p := by
    unfold m_rankOf at hp1 ⊢
    exact c1.trans hp1
  have e203 : gA (m_drWB w (nI t)) 203 = nI (m + 1) := by rw [gA_203, bo 203 (by omega)]; exact H.A.2.1
  obtain ⟨R, eR⟩ : ∃ z, z = m_drops w (nI t) := ⟨_, rfl⟩
  have eD := eR
  unfold m_drops at eD
  rw [erk, e203, show nI p + 1 = nI (p + 1) from nI_add p 1, show (0 : Int32) + 1 = nI 1 from rfl, lpN_nn (n := m + 1) (i := p + 1) (by omega) (by omega), lpN_nn (n := m + 1) (i := 1) (by omega) (by decide), show m + 1 - (p + 1) = m - p by omega, show m + 1 - 1 = m by omega, show (0 : Int32) = nI 0 from rfl, m_at_n t 0, show m_at 5 (nI 0) = nI 196 from rfl, show nI (56 + 28 * t + 0) + 28 = nI (56 + 28 * t + 0 + 28) from nI_add _ 28, lpN_nn (by omega) (by omega), show 196 - (56 + 28 * t + 0 + 28) = 112 - 28 * t by omega, show 56 + 28 * t + 0 = 56 + 28 * t by omega] at eD
  obtain ⟨d1, d2⟩ := drC_n (m - p) p (m_drWB w (nI t)) (by omega) b1
  generalize m_drWB w (nI t) = wB at *
  generalize m_drC (m - p) (nI p) wB = wC at *
  obtain ⟨e1, e2⟩ := drD_n (x := nI t) m 0 wC (by omega) d1
  generalize m_drD (nI t) m (nI 0) wC = wD at *
  obtain ⟨f1, f2⟩ := drE_n (112 - 28 * t) (56 + 28 * t) wD (by omega) e1
  generalize m_drE (112 - 28 * t) (nI (56 + 28 * t)) wD = wE' at *
  rw [show sA wE' 203 (gA wE' 203 - 1) = wE'.set 203 (gN wE' 203 - 1) by rw [gA_203]; exact sA_n (i := 203) (by decide)] at eD
  rw [← eR, eD]
  -- cells that are not ranks, trains, links
  have dd : ∀ j, (j < 196 ∨ 201 ≤ j) → gN wD j = gN wB j := fun j hj => by rw [e2 j, if_neg (by omega), d2 j, if_neg (by omega)]
  have ee : ∀ j, (j < 56 ∨ 196 ≤ j) → gN wE' j = gN wD j := fun j hj => by rw [f2 j, if_neg (by omega)]
  have x203 : gN wE' 203 = nI (m + 1) := by rw [ee 203 (by omega), dd 203 (by omega), bo 203 (by omega)]; exact H.A.2.1
  have oth : ∀ j, (j < 56 ∨ 201 ≤ j) → j ≠ 203 → gN (wE'.set 203 (gN wE' 203 - 1)) j = gN wB j := fun j h1 h2 => by
    rw [gN_ne (fun z => h2 z.symm), ee j (by omega), dd j (by omega)]
  have rnk : ∀ k, k < m → gN (wE'.set 203 (gN wE' 203 - 1)) (196 + k) = dcI (nI t) (gN w (196 + sg p k)) := fun k hk => by
    rw [gN_ne (by omega), ee _ (by omega), e2 _, if_pos (by omega)]
    have : gN wC (196 + k) = gN w (196 + sg p k) := by
      rw [d2 _]
      unfold sg
      by_cases c : k < p
      · rw [if_neg (by omega), if_pos c, bo _ (by omega)]
      · rw [if_pos (by omega), if_neg c, bo _ (by omega), show 196 + k + 1 = 196 + (k + 1) by omega]
    rw [this]
  refine ⟨by rw [List.length_set]; exact f1, fun j hj => ?_, ?_, fun u k hu hk => ?_, fun k hk => ?_, lA, a1, ?_, fun k hk => ?_, fun a s q h1 h2 h3 => ?_⟩
  · rw [oth j (by omega) (by omega)]; exact bo j (by omega)
  · rw [gN_eq (by omega), x203, nI_sub1 (by omega), show m + 1 - 1 = m by omega]
  · unfold ft
    rw [gN_ne (by omega), f2 _]
    unfold sg
    by_cases c : u < t
    · rw [if_neg (by omega), if_pos c, dd _ (by omega), bo _ (by omega)]
    · rw [if_pos (by omega), if_neg c, dd _ (by omega), bo _ (by omega), show 56 + 28 * u + k + 28 = 56 + 28 * (u + 1) + k by omega]
  · obtain ⟨r, hr, er⟩ := H.R.1 (sg p k) (sg_lt hk)
    have hne : r ≠ t := fun z => by
      rw [z, ← hp2] at er
      exact sg_ne p k (H.R.2.2 _ _ (sg_lt hk) (by omega) er)
    exact ⟨dg t r, dg_lt hne (by omega) hr, by rw [rnk k hk, er]; exact dgI (by omega) (by omega), by rw [er, sg_dg hne]⟩
  · rw [oth 296 (by omega) (by omega)]; exact b296
  · obtain ⟨a, s, q, ⟨g1, g2, g3⟩, g4, g5⟩ := a4 k hk
    obtain ⟨n1, n2⟩ := a5 k a s q hk g5 g1 g3 g2
    refine ⟨dg t a, s, dg t q, ⟨dg_lt n1 (by omega) g1, g2, dg_lt n2 (by omega) g3⟩, fun z => g4 (by rw [← sg_dg n1, z, sg_dg n2]), ?_, ?_, ?_⟩
    · rw [oth _ (by omega) (by omega), b2, if_pos (by omega), g5.1]; exact dgI (by omega) (by omega)
    · rw [oth _ (by omega) (by omega), b2, if_neg (by omega)]; exact g5.2.1
    · rw [oth _ (by omega) (by omega), b2, if_pos (by omega), g5.2.2]; exact dgI (by omega) (by omega)
  · have key : ∀ k, k < lA → (lk3 (wE'.set 203 (gN wE' 203 - 1)) k a s q ↔ lk3 wA k (sg t a) s (sg t q)) := fun k hk => by
      obtain ⟨a', s', q', ⟨g1, g2, g3⟩, g4, g5⟩ := a4 k hk
      obtain ⟨n1, n2⟩ := a5 k a' s' q' hk g5 g1 g3 g2
      have z : lk3 (wE'.set 203 (gN wE' 203 - 1)) k (dg t a') s' (dg t q') := by
        refine ⟨?_, ?_, ?_⟩
        · rw [oth _ (by omega) (by omega), b2, if_pos (by omega), g5.1]; exact dgI (by omega) (by omega)
        · rw [oth _ (by omega) (by omega), b2, if_neg (by omega)]; exact g5.2.1
        · rw [oth _ (by omega) (by omega), b2, if_pos (by omega), g5.2.2]; exact dgI (by omega) (by omega)
      have y1 := dg_lt n1 (show t ≤ m by omega) g1
      have y2 := dg_lt n2 (show t ≤ m by omega) g3
      have y3 := sg_lt (t := t) h1
      have y4 := sg_lt (t := t) h3
      constructor
      · intro x
        obtain ⟨x1, x2, x3⟩ := lk3_u z x ⟨by omega, by omega, by omega⟩ ⟨by omega, by omega, by omega⟩
        rw [← x1, ← x2, ← x3, sg_dg n1, sg_dg n2]
        exact g5
      · intro x
        obtain ⟨x1, x2, x3⟩ := lk3_u g5 x ⟨by omega, by omega, by omega⟩ ⟨by omega, by omega, by omega⟩
        rw [x1, x2, x3, dg_sg, dg_sg] at z
        exact z
    have e := a6 (sg t a) s (sg t q) (sg_lt h1) h2 (sg_lt h3) (sg_ne t a) (sg_ne t q)
    rw [show nV (gN w 296) = l by rw [h296]; exact nV_n (by omega), ← e]
    exact ⟨fun ⟨k, x, y⟩ => ⟨k, x, (key k x).mp y⟩, fun ⟨k, x, y⟩ => ⟨k, x, (key k x).mpr y⟩⟩
theorem sT_x {S : Nat} {w' w : List Int32} {u r : Nat} (h : ∀ k, k < 28 → ft w' u k = ft w r k) (hs : sS w' w) (hS : S ≤ 7) (H : wTr S w r) : wTr S w' u ∧ cL w' u = cL w r ∧ sC w' u = sC w r ∧ eV w' u = eV w r ∧ ∀ k, gV w' k u = gV w k r := by
  have e1 : fR w' u = fR w r := congrArg nV (h 1 (by decide))
  have e2 : tO w' u = tO w r := congrArg nV (h 2 (by decide))
  have e7 : atT w' u = atT w r := congrArg nV (h 7 (by decide))
  have e8 : kT w' u = kT w r := congrArg nV (h 8 (by decide))
  have eX : nxT w' u = nxT w r := by unfold nxT; rw [e1, e2, e7]
  have eS : sC w' u = sC w r := by unfold sC; rw [e1, e2, e7]
  refine ⟨?_, by unfold cL; rw [eX, e2, e7, e8, h 6 (by decide)], eS, by unfold eV; rw [e1, e7, h 6 (by decide)], fun k => by unfold gV; rw [e1, e2, e7, h 6 (by decide)]⟩
  have hn : ft w r 6 = 2 → nxT w r < 7 := fun e => by
    obtain ⟨⟨h1, h2⟩, ⟨h3, h4⟩, h5, h6, h7, h8, h9, h10, h11⟩ := H
    have h7 := h7 (by rw [e]; decide)
    have h8 := h8 (Or.inr e)
    unfold onW at h8
    unfold nxT
    split <;> omega
  obtain ⟨⟨h1, h2⟩, ⟨h3, h4⟩, h5, h6, h7, h8, h9, h10, h11⟩ := H
  unfold wTr
  have eO : onW w' u ↔ onW w r := by unfold onW; rw [e1, e2, e7]
  rw [e1, e2, e7, e8, eX, eO, h 1 (by decide), h 2 (by decide), h 6 (by decide), h 7 (by decide), h 8 (by decide)]
  refine ⟨⟨h1, h2⟩, ⟨h3, h4⟩, h5, h6, h7, h8, h9, fun e => ?_, fun e => ?_⟩
  · rw [hs.qmN (by have := (h7 (by rw [e]; decide)).2; omega)]; exact h10 e
  · rcases h11 e with g | ⟨g1, g2, g3⟩
    · exact Or.inl g
    · exact Or.inr ⟨g1, g2, by rw [hs.qmN (hn e)]; exact g3⟩
/-- a line without one train is one -/
theorem drP.qwf {x : List Int32} {p : Nat} (D : drP m S t p w x) (H : wf (m + 1) S w) (ht : t < m + 1) (hp : p ≤ m) (hpt : gN w (196 + p) = nI t) : wf m S x := by
  have h5 := H.n5
  have hS := H.S7
  obtain ⟨d1, d2, d3, d4, d5, l, l4, d6, d7, d8⟩ := D
  have hs : sS x w := sS_of fun j hj => d2 j (by omega)
  have z := fun u (hu : u < m) => sT_x (fun k hk => d4 u k hu hk) hs hS (H.T (sg_lt hu))
  refine ⟨⟨d1, d3, by omega, (d2 202 (by omega)).trans H.A.2.2.2.1, hS⟩, fun s h => hs.qwS h (H.St h), fun u hu => (z u hu).1, ⟨fun a b ha hb hab hc => ?_, fun a b ha hb hab h1 h2 => ?_⟩, ⟨fun k hk => ?_, fun u hu => ?_, fun j k hj hk e => ?_⟩, ?_, ⟨l, l4, d6, fun k hk => ?_⟩, fun k hk _ => ?_⟩
  · rw [(z a ha).2.1] at hc ⊢
    rw [(z b hb).2.1]
    exact H.D.1 _ _ (sg_lt ha) (sg_lt hb) (fun y => hab (sg_inj y)) hc
  · rw [d4 a 6 ha (by decide)] at h1
    rw [d4 b 6 hb (by decide)] at h2
    rw [(z a ha).2.2.1, (z b hb).2.2.1]
    exact H.D.2 _ _ (sg_lt ha) (sg_lt hb) (fun y => hab (sg_inj y)) h1 h2
  · obtain ⟨u, a, b, -⟩ := d5 k hk
    exact ⟨u, a, b⟩
  · obtain ⟨k, a, b⟩ := H.R.2.1 (sg t u) (sg_lt hu)
    have hk : k ≠ p := fun y => by
      rw [y, hpt] at b
      exact sg_ne t u ((nI_eq (by omega) (by have := sg_lt (t := t) hu; omega)).mp b).symm
    obtain ⟨k', a', b'⟩ := sg_on a hp hk
    obtain ⟨u', x1, x2, x3⟩ := d5 k' a'
    rw [b', b] at x3
    have := sg_lt (t := t) hu
    have := sg_lt (t := t) x1
    have := sg_inj ((nI_eq (by omega) (by omega)).mp x3)
    exact ⟨k', a', by rw [x2, this]⟩
  · obtain ⟨u, x1, x2, x3⟩ := d5 j hj
    obtain ⟨u', y1, y2, y3⟩ := d5 k hk
    have : u = u' := (nI_eq (by omega) (by omega)).mp (by rw [← x2, e, y2])
    exact sg_inj (H.R.2.2 _ _ (sg_lt hj) (sg_lt hk) (by rw [x3, y3, this]))
  · have e1 : eN x = eN w := congrArg nV (d2 309 (by omega))
    have g1 : ∀ k, k < 6 → gM x k = gM w k := fun k hk => congrArg nV (d2 _ (by omega))
    refine ⟨by rw [e1, d2 309 (by omega)]; exact H.E.1, fun k hk => by rw [g1 k hk, d2 _ (by omega)]; exact H.E.2.1 k hk, ?_, fun k hk => ?_⟩
    · have a := H.E.2.2.1
      rw [sumN_sg (show t ≤ m by omega), ← sumN_congr (f' := eV x) (fun u hu => (z u hu).2.2.2.1)] at a
      have b := ((H.T ht).qeV hS).1
      rw [e1]
      omega
    · have a := H.E.2.2.2 k hk
      rw [sumN_sg (show t ≤ m by omega), ← sumN_congr (f' := gV x k) (fun u hu => (z u hu).2.2.2.2 k)] at a
      have b := gV_le w k t
      rw [g1 k hk]
      omega
  · obtain ⟨a, s, q, ⟨a1, a2, a3⟩, a4, a5, a6, a7⟩ := d7 k hk
    exact ⟨a, s, q, a1, a2, a3, a4, a5, a6, a7⟩
  · rw [d2 _ (by omega), d2 _ (by omega)]
    exact H.P k hk (by omega)
/-- both sides of a burden: the class's line with t DONE, the reference's without it -/
theorem drops_dS (H : wf (m + 1) S w) (ht : t < m + 1) : ∃ p, dS m S t p (rmW w t) (m_drops w (nI t)) := by
  have h5 := H.n5
  have hl := H.len
  obtain ⟨-, p, hp, hp1, D⟩ := drops_P H ht
  have W := D.qwf H ht hp hp1
  obtain ⟨d1, d2, d3, d4, d5, l, l4, d6, d7, d8⟩ := D
  have ro : ∀ j, (j < 56 ∨ 196 ≤ j) → gN (rmW w t) j = gN w j := fun j h => rmW_o (by omega)
  refine ⟨p, H.rmV ht, W, ⟨by omega, hp⟩, rmW_6 hl (by omega), fun j hj => ?_, fun u k hu hk _ => ?_, ?_, ⟨?_, fun k hk => ?_⟩, fun a s q h1 h2 h3 => ?_⟩
  · rw [ro j (by omega)]; exact d2 j (by omega)
  · rw [rmW_u (sg_ne t u) k hk]; exact d4 u k hu hk
  · rw [ro 201 (by omega)]; exact d2 201 (by omega)
  · rw [ro _ (by omega)]; exact hp1
  · obtain ⟨u, x1, x2, x3⟩ := d5 k hk
    exact ⟨u, x1, x2, by rw [ro _ (by omega)]; exact x3⟩
  · have hS := H.S7
    have e : ∀ k, lkI (rmW w t) k (sg t a) s (sg t q) ↔ lkI w k (sg t a) s (sg t q) := fun k => lkI_congr H.lk4 (fun j x y => ro j (by omega))
    by_cases hs : s < S
    · have d := d8 a s q h1 hs h3
      constructor
      · rintro ⟨k, x1, x2⟩
        rw [d6, nV_n (by omega)] at x1
        obtain ⟨k', y1, y2⟩ := d.mp ⟨k, x1, x2⟩
        exact ⟨k', (e k').mpr ⟨y1, y2⟩⟩
      · rintro ⟨k, y⟩
        obtain ⟨y1, y2⟩ := (e k).mp y
        obtain ⟨k', x1, x2⟩ := d.mpr ⟨k, y1, y2⟩
        exact ⟨k', by rw [d6, nV_n (by omega)]; exact x1, x2⟩
    · -- no link speaks of such a station
      obtain ⟨l0, b1, b2, b3⟩ := H.L
      constructor
      · rintro ⟨k, x1, x2⟩
        rw [d6, nV_n (by omega)] at x1
        obtain ⟨a', s', q', ⟨y1, y2, y3⟩, y4, y5⟩ := d7 k x1
        have := lk3_u y5 x2 ⟨by omega, by omega, by omega⟩ ⟨by omega, by omega, by omega⟩
        omega
      · rintro ⟨k, y⟩
        obtain ⟨y1, y2, y3, y4⟩ := (e k).mp y
        rw [b2, nV_n (by omega)] at y1
        obtain ⟨a', s', q', g1, g2, g3, g4, g5, g6, g7⟩ := b3 k y1
        have := (nI_eq (a := s) (b := s') (by omega) (by omega)).mp (y3.symm.trans g6)
        omega
/-- the price of the others to the end -/
theorem burden_price (H : wf (m + 1) S w) (ht : t < m + 1) : m_price (m_toTheEnd (m + 1 - 1) (m_drops w (nI t)) 1) = prX (m + 1) (m_tte (m + 1) 1 300 (rmW w t)) t := by
  obtain ⟨p, D⟩ := drops_dS H ht
  exact (D.tte 1 300).price
end DRP

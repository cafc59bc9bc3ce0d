/-! queries: blocks, ring -/
section QC
variable {n S : Nat} {w ph sp ce ri tra len frm tto wei fit way rid lon : List Int32} {shu bus cel sst th sst' : Int32} {t : Nat}
theorem wait_l (H : wg n S w) (P : rP n w ph sp ce) (Y : qY n S w tra len frm tto wei fit way rid lon cel) (ht : t < n) {b : Nat} (hb : b < S) (hn : m_next w (nI t) = nI b) {v1 v2 v1' : Int32} : ∀ (f i : Nat) (v : Int32), i + f = n → x_waitsFor_l69 ce v1 v2 ((gA fit (nI t)) &&& (x_cellsOf tra (nI b))) f (nI i) v = m_waitsFor_l45 w (nI t) v1' f (nI i) v
  | 0, i, v, e => rfl
  | f + 1, i, v, e => by
    have h5 := H.n5
    have hS := H.S7
    have hw := (H.St (s := b) (by omega)).2.1
    unfold x_waitsFor_l69 m_waitsFor_l45
    rw [nI_1, gA_n (l := ce) (by omega), P.pce (t := i) (by omega), hn]
    have key : (if cI (cL w i) = -1 then v else (if (((gA fit (nI t)) &&& (x_cellsOf tra (nI b))) >>> ((cI (cL w i)) &&& 31)) &&& 1 = 0 then v else (v ||| (1 <<< ((nI i) &&& 31))))) = (v ||| (if m_placeOf w (nI i) = nI b then (if m_st w (nI b) (2 + m_of w (nI i) 8) < m_of w (nI t) 0 then (0 : Int32) else (1 <<< ((nI i) &&& 31))) else (0 : Int32))) := by
      rcases H.place (t := i) (by omega) with ⟨g1, g2⟩ | ⟨g1, g2, g3, g4, g5, g6⟩
      · rw [g1, g2, show cI 99 = -1 from rfl, if_pos rfl, if_neg (show ¬ (-1 : Int32) = nI b from fun z => nI_nn (a := b) (by omega) z.symm), Int32.or_zero]
      · have e2 : cI (cL w i) = nI (cL w i) := if_pos g3
        rw [g1, g2, e2, if_neg (nI_nn (by omega)), m_st2 (by omega) (by omega), m_of0 (by omega)]
        by_cases c : cL w i / 3 = b
        · rw [if_pos (congrArg nI c)]
          by_cases d : fs w b (2 + cL w i % 3) < ft w t 0
          · rw [if_pos d, if_pos, Int32.or_zero]
            rw [tb_b0 (by omega), tb_and, gA_n (by omega)]
            apply Bool.eq_false_iff.mpr
            intro z
            have z1 := ((Bool.and_eq_true _ _).mp z).1
            rw [Y.pfit ht (by omega), c] at z1
            exact z1.2.2.2 d
          · rw [if_neg d, if_neg]
            rw [tb_b0 (by omega), tb_and, gA_n (by omega), tb_cells H Y hb (by omega)]
            rw [(Y.pfit ht (c := cL w i) (by omega)).mpr ⟨by omega, g4, by rw [g5]; exact g6, by rw [c]; exact d⟩, decide_eq_true ⟨by omega, by rw [c] at g6; omega⟩]
            decide
        · rw [if_neg (fun z => c ((nI_eq (by omega) (by omega)).mp z)), if_pos, Int32.or_zero]
          rw [tb_b0 (by omega), tb_and, tb_cells H Y hb (by omega)]
          rw [decide_eq_false (fun z => c (by omega)), Bool.and_false]
    rw [key]
    exact wait_l H P Y ht hb hn f (i + 1) _ (by omega)
theorem x_wait (H : wg n S w) (P : rP n w ph sp ce) (B : qB n w bus) (U : rU w shu) (I : rI n w ri) (Y : qY n S w tra len frm tto wei fit way rid lon cel) (ht : t < n) : x_waitsFor shu bus ph sp ce ri (nI n) tra len frm tto fit (nI t) = m_waitsFor w (nI t) := by
  have h5 := H.n5
  have hS := H.S7
  have hT := H.T ht
  unfold x_waitsFor m_waitsFor
  rw [gA_n (l := ph) (by omega), P.pph ht, m_of6 (by omega), x_can H P B U I Y ht]
  by_cases c1 : ft w t 6 = 1
  · rw [if_pos c1, if_pos c1]
    by_cases c2 : m_whyNot w (nI t) = 0
    · rw [if_pos c2, if_pos c2, if_neg (show ¬ (1 : Int32) = 0 by decide)]
    · rw [if_neg c2, if_neg c2, if_pos rfl]
      obtain ⟨a1, a2, a3, a4, a5⟩ := hT.next hS (by omega) (Or.inl c1)
      obtain ⟨b1, b2⟩ := x_next H P Y ht (Or.inl c1)
      rw [a2, b1, b2, gA_n (l := ri) (by omega), I.2 _ a4, H.whoOn (by omega)]
      by_cases c3 : fnd (onS w (sC w t)) n 0 = -1
      · rw [if_pos c3, if_pos c3, H.gn, lpN_n0 (by omega)]
        exact wait_l H P Y ht a3 a1 n 0 0 (Nat.zero_add n)
      · rw [if_neg c3, if_neg c3]
  · rw [if_neg c1, if_neg c1]
theorem eq_blocks (H : wg n S w) (P : rP n w ph sp ce) (B : qB n w bus) (U : rU w shu) (I : rI n w ri) (Y : qY n S w tra len frm tto wei fit way rid lon cel) (x1 : Int32) : eQ (x_qblocks shu bus ph sp ce ri (nI n) tra len frm tto fit sst x1) (m_qblocks th sst' w x1) := by
  have h5 := H.n5
  unfold x_qblocks m_qblocks
  rw [g_train H]
  refine eQ.if (fun _ => eQ.mk rfl rfl) (fun c1 => ?_)
  obtain ⟨t, ht, rfl⟩ := (isTrain_n H).mp c1
  rw [gA_n (by omega), P.pph ht, m_of6 (by omega)]
  refine eQ.if (fun c2 => ?_) (fun _ => eQ.mk rfl rfl)
  rw [x_can H P B U I Y ht, x_wait H P B U I Y ht]
  by_cases c : m_whyNot w (nI t) = 0
  · rw [if_pos c, if_pos c, if_neg (show ¬ (1 : Int32) = 0 by decide)]
    exact eQ.mk rfl rfl
  · rw [if_neg c, if_neg c, if_pos rfl]
    exact eQ.ans rfl
/-- one round of who waits for whom -/
theorem ring_i (H : wg n S w) (P : rP n w ph sp ce) (B : qB n w bus) (U : rU w shu) (I : rI n w ri) (Y : qY n S w tra len frm tto wei fit way rid lon cel) : ∀ (f i : Nat) (v : Int32), i + f = n → x_isInRing_l22 shu bus ph sp ce ri (nI n) tra len frm tto fit f (nI i) v = m_ring_l34 w f i v
  | 0, i, v, e => rfl
  | f + 1, i, v, e => by
    have h5 := H.n5
    unfold x_isInRing_l22 m_ring_l34
    rw [nI_1, x_wait H P B U I Y (t := i) (by omega), tb_bit (by omega)]
    by_cases c : tb v i = true
    · rw [if_pos c, if_neg (show ¬ (1 : Int32) = 0 by decide), if_pos rfl]
      exact ring_i H P B U I Y f (i + 1) _ (by omega)
    · rw [if_neg c, if_pos rfl, if_neg (show ¬ (0 : Int32) = 1 by decide), Int32.or_zero]
      exact ring_i H P B U I Y f (i + 1) _ (by omega)
theorem ring_o (H : wg n S w) (P : rP n w ph sp ce) (B : qB n w bus) (U : rU w shu) (I : rI n w ri) (Y : qY n S w tra len frm tto wei fit way rid lon cel) : ∀ (f i : Nat) (j : Nat) (v : Int32), x_isInRing_l8 shu bus ph sp ce ri (nI n) tra len frm tto fit f (nI i) v = m_ring_l25 n w f j v
  | 0, i, j, v => rfl
  | f + 1, i, j, v => by
    unfold x_isInRing_l8 m_ring_l25
    rw [nI_1, lpN_n0 (by have := H.n5; omega), show (0 : Int32) = nI 0 from rfl, ring_i H P B U I Y n 0 v (Nat.zero_add n)]
    exact ring_o H P B U I Y f (i + 1) (j + 1) _
/-- a round only adds, and what it adds are trains -/
def sub5 (n : Nat) (x y : Int32) : Prop := (∀ c, c < 32 → tb x c = true → tb y c = true) ∧ ∀ c, c < 32 → tb y c = true → tb x c = true ∨ c < n
theorem sub5.rf {x : Int32} : sub5 n x x := ⟨fun _ _ h => h, fun _ _ h => Or.inl h⟩
theorem sub5.tr {x y z : Int32} (h1 : sub5 n x y) (h2 : sub5 n y z) : sub5 n x z := ⟨fun c hc h => h2.1 c hc (h1.1 c hc h), fun c hc h => (h2.2 c hc h).elim (fun q => h1.2 c hc q) Or.inr⟩
theorem tb_or1 {x : Int32} {i : Nat} (hi : i < n) (h5 : n ≤ 5) : sub5 n x (x ||| (1 <<< ((nI i) &&& 31))) := by
  refine ⟨fun c hc h => by rw [tb_or, h, Bool.true_or], fun c hc h => ?_⟩
  rw [tb_or, tb_one (by omega) hc, Bool.or_eq_true, decide_eq_true_iff] at h
  rcases h with h | h
  · exact Or.inl h
  · exact Or.inr (by omega)
theorem wait_sub_l (H : wg n S w) {v1 v2 : Int32} : ∀ (f i : Nat) (v : Int32), i + f = n → sub5 n v (m_waitsFor_l45 w v1 v2 f (nI i) v)
  | 0, i, v, e => sub5.rf
  | f + 1, i, v, e => by
    have h5 := H.n5
    unfold m_waitsFor_l45
    rw [nI_1]
    refine sub5.tr ?_ (wait_sub_l H f (i + 1) _ (by omega))
    by_cases c : m_placeOf w (nI i) = m_next w v1
    · rw [if_pos c]
      by_cases d : m_st w (m_next w v1) (2 + m_of w (nI i) 8) < m_of w v1 0
      · rw [if_pos d, Int32.or_zero]; exact sub5.rf
      · rw [if_neg d]; exact tb_or1 (by omega) h5
    · rw [if_neg c, Int32.or_zero]; exact sub5.rf
theorem wait_sub (H : wg n S w) (ht : t < n) : sub5 n 0 (m_waitsFor w (nI t)) := by
  have h5 := H.n5
  have hS := H.S7
  unfold m_waitsFor
  rw [m_of6 (by omega)]
  by_cases c1 : ft w t 6 = 1
  · rw [if_pos c1]
    by_cases c2 : m_whyNot w (nI t) = 0
    · rw [if_pos c2]; exact sub5.rf
    · rw [if_neg c2]
      obtain ⟨a1, a2, a3, a4, a5⟩ := (H.T ht).next hS (by omega) (Or.inl c1)
      rw [a2, H.whoOn (by omega)]
      rcases fnd_or (p := onS w (sC w t)) n 0 with ⟨q, -⟩ | ⟨s, g1, g2, g3, -, -⟩
      · rw [q, if_pos rfl, H.gn, lpN_n0 (by omega)]
        exact wait_sub_l H n 0 0 (Nat.zero_add n)
      · rw [g3, if_neg (nI_nn (by omega))]
        have := tb_or1 (n := n) (x := 0) (i := s) (by omega) h5
        rw [Int32.zero_or] at this
        exact this
  · rw [if_neg c1]; exact sub5.rf
theorem sub5.or {x y : Int32} (h : sub5 n 0 y) : sub5 n x (x ||| y) := by
  refine ⟨fun c hc z => by rw [tb_or, z, Bool.true_or], fun c hc z => ?_⟩
  rw [tb_or, Bool.or_eq_true] at z
  rcases z with z | z
  · exact Or.inl z
  · rcases h.2 c hc z with q | q
    · rw [tb_0] at q; cases q
    · exact Or.inr q
theorem round_sub (H : wg n S w) : ∀ (f i : Nat) (v : Int32), i + f = n → sub5 n v (m_ring_l34 w f i v)
  | 0, i, v, e => sub5.rf
  | f + 1, i, v, e => by
    unfold m_ring_l34
    by_cases c : ((v >>> ((nI i) &&& 31)) &&& 1) = 1
    · rw [if_pos c]
      exact sub5.tr (sub5.or (wait_sub H (by omega))) (round_sub H f (i + 1) _ (by omega))
    · rw [if_neg c, Int32.or_zero]
      exact round_sub H f (i + 1) _ (by omega)
def c5 (x : Int32) : Nat := (if tb x 0 then 1 else 0) + (if tb x 1 then 1 else 0) + (if tb x 2 then 1 else 0) + (if tb x 3 then 1 else 0) + (if tb x 4 then 1 else 0)
theorem c5_or {x y : Int32} (h5 : n ≤ 5) (h : sub5 n x y) : x = y ∨ c5 x < c5 y := by
  by_cases q : ∀ c, c < 5 → tb x c = tb y c
  · left
    apply tb_ext
    intro c hc
    by_cases d : c < 5
    · exact q c d
    · apply Bool.eq_iff_iff.mpr
      exact ⟨h.1 c hc, fun z => (h.2 c hc z).elim id (fun z => absurd z (by omega))⟩
  · right
    have m : ∀ c, c < 5 → tb x c = true → tb y c = true := fun c hc => h.1 c (by omega)
    have m0 := m 0 (by decide)
    have m1 := m 1 (by decide)
    have m2 := m 2 (by decide)
    have m3 := m 3 (by decide)
    have m4 := m 4 (by decide)
    have q' : ¬ (tb x 0 = tb y 0 ∧ tb x 1 = tb y 1 ∧ tb x 2 = tb y 2 ∧ tb x 3 = tb y 3 ∧ tb x 4 = tb y 4) := fun z => q (fun c hc => by
      match c, hc with
      | 0, _ => exact z.1
      | 1, _ => exact z.2.1
      | 2, _ => exact z.2.2.1
      | 3, _ => exact z.2.2.2.1
      | 4, _ => exact z.2.2.2.2)
    unfold c5
    generalize tb x 0 = a0 at *
    generalize tb x 1 = a1 at *
    generalize tb x 2 = a2 at *
    generalize tb x 3 = a3 at *
    generalize tb x 4 = a4 at *
    generalize tb y 0 = b0 at *
    generalize tb y 1 = b1 at *
    generalize tb y 2 = b2 at *
    generalize tb y 3 = b3 at *
    generalize tb y 4 = b4 at *
    clear q m h
    have : ∀ a0 a1 a2 a3 a4 b0 b1 b2 b3 b4 : Bool, (a0 = true → b0 = true) → (a1 = true → b1 = true) → (a2 = true → b2 = true) → (a3 = true → b3 = true) → (a4 = true → b4 = true) → ¬ (a0 = b0 ∧ a1 = b1 ∧ a2 = b2 ∧ a3 = b3 ∧ a4 = b4) → (if a0 = true then 1 else 0) + (if a1 = true then 1 else 0) + (if a2 = true then 1 else 0) + (if a3 = true then 1 else 0) + (if a4 = true then 1 else 0) < (if b0 = true then 1 else 0) + (if b1 = true then 1 else 0) + (if b2 = true then 1 else 0) + (if b3 = true then 1 else 0) + (if b4 = true then 1 else 0) := by decide
    exact this a0 a1 a2 a3 a4 b0 b1 b2 b3 b4 m0 m1 m2 m3 m4 q'
theorem c5_le {x : Int32} (hx : ∀ c, c < 32 → tb x c = true → c < n) (h5 : n ≤ 5) : c5 x ≤ n := by
  have l : ∀ c, c < 5 → (if tb x c = true then 1 else 0) ≤ (if c < n then 1 else 0) := fun c hc => by
    by_cases d : tb x c = true
    · rw [if_pos d, if_pos (hx c (by omega) d)]; exact Nat.le_refl _
    · rw [if_neg d]; exact Nat.zero_le _
  have l0 := l 0 (by decide)
  have l1 := l 1 (by decide)
  have l2 := l 2 (by decide)
  have l3 := l 3 (by decide)
  have l4 := l 4 (by decide)
  have s : ((if 0 < n then 1 else 0) + (if 1 < n then 1 else 0) + (if 2 < n then 1 else 0) + (if 3 < n then 1 else 0) + (if 4 < n then 1 else 0)) = n := by
    rcases (show n = 0 ∨ n = 1 ∨ n = 2 ∨ n = 3 ∨ n = 4 ∨ n = 5 by omega) with h | h | h | h | h | h <;> subst h <;> rfl
  unfold c5
  rw [← s]
  exact Nat.add_le_add (Nat.add_le_add (Nat.add_le_add (Nat.add_le_add l0 l1) l2) l3) l4
/-- k rounds -/
theorem ring_j : ∀ (f j j' : Nat) (v : Int32), m_ring_l25 n w f j v = m_ring_l25 n w f j' v
  | 0, _, _, _ => rfl
  | f + 1, j, j', v => ring_j f (j + 1) (j' + 1) _
theorem ring_fix {v : Int32} (h : m_ring_l34 w n 0 v = v) : ∀ (f j : Nat), m_ring_l25 n w f j v = v
  | 0, _ => rfl
  | f + 1, j => by
    unfold m_ring_l25
    rw [h]
    exact ring_fix h f (j + 1)
theorem ring_more (H : wg n S w) : ∀ (f j g : Nat) (v : Int32), (∀ c, c < 32 → tb v c = true → c < n) → n ≤ c5 v + f → m_ring_l25 n w (f + g) j v = m_ring_l25 n w f j v
  | 0, j, g, v, hv, h => by
    have e : m_ring_l34 w n 0 v = v := by
      have s := round_sub H n 0 v (Nat.zero_add n)
      rcases c5_or H.n5 s with z | z
      · exact z.symm
      · have := c5_le (x := m_ring_l34 w n 0 v) (n := n) (fun c hc q => (s.2 c hc q).elim (hv c hc) id) H.n5
        omega
    rw [Nat.zero_add, ring_fix e]
    rfl
  | f + 1, j, g, v, hv, h => by
    have s := round_sub H n 0 v (Nat.zero_add n)
    rw [show f + 1 + g = (f + g) + 1 by omega]
    unfold m_ring_l25
    rcases c5_or H.n5 s with z | z
    · rw [← z, ring_fix z.symm, ring_fix z.symm]
    · exact ring_more H f (j + 1) g _ (fun c hc q => (s.2 c hc q).elim (hv c hc) id) (by omega)
theorem x_ring1 (H : wg n S w) (P : rP n w ph sp ce) (B : qB n w bus) (U : rU w shu) (I : rI n w ri) (Y : qY n S w tra len frm tto wei fit way rid lon cel) (ht : t < n) : x_isInRing shu bus ph sp ce ri (nI n) tra len frm tto fit (nI t) = (((m_ring_l25 n w 5 0 (m_waitsFor w (nI t))) >>> ((nI t) &&& 31)) &&& 1) := by
  have h5 := H.n5
  have s := wait_sub H ht
  have hv : ∀ c, c < 32 → tb (m_waitsFor w (nI t)) c = true → c < n := fun c hc q => (s.2 c hc q).elim (fun z => by rw [tb_0] at z; cases z) id
  unfold x_isInRing
  rw [lpN_n0 (by omega), x_wait H P B U I Y ht, show (0 : Int32) = nI 0 from rfl, ring_o H P B U I Y n 0 0]
  have e := ring_more H n 0 (5 - n) (m_waitsFor w (nI t)) hv (by omega)
  rw [show n + (5 - n) = 5 by omega] at e
  rw [← e, tb_bit (by omega)]
  by_cases c : tb (m_ring_l25 n w 5 0 (m_waitsFor w (nI t))) t = true
  · rw [if_pos c]; rfl
  · rw [if_neg c]; rfl
theorem eq_ring_l (H : wg n S w) (P : rP n w ph sp ce) (B : qB n w bus) (U : rU w shu) (I : rI n w ri) (Y : qY n S w tra len frm tto wei fit way rid lon cel) : ∀ (f i : Nat) (v : Int32), i + f = n → eQ (x_qring_l4 shu bus ph sp ce ri (nI n) tra len frm tto fit f (nI i) v sst) (m_qring_l4 n th sst' w f i v)
  | 0, i, v, e => eQ.mk rfl rfl
  | f + 1, i, v, e => by
    have h5 := H.n5
    unfold x_qring_l4 m_qring_l4
    rw [nI_1, x_ring1 H P B U I Y (t := i) (by omega), tb_bit (by omega)]
    by_cases c : tb (m_ring_l25 n w 5 0 (m_waitsFor w (nI i))) i = true
    · rw [if_pos c, if_neg (show ¬ (1 : Int32) = 0 by decide)]
      exact eq_ring_l H P B U I Y f (i + 1) _ (by omega)
    · have e0 : (0 : Int32) <<< ((nI i) &&& 31) = 0 := by
        apply tb_ext
        intro c hc
        rw [tb_shl (by omega) hc, tb_0, tb_0, Bool.and_false]
      rw [if_neg c, if_pos rfl, e0, Int32.or_zero]
      exact eq_ring_l H P B U I Y f (i + 1) _ (by omega)
theorem eq_ring (H : wg n S w) (P : rP n w ph sp ce) (B : qB n w bus) (U : rU w shu) (I : rI n w ri) (Y : qY n S w tra len frm tto wei fit way rid lon cel) : eQ (x_qring shu bus ph sp ce ri (nI n) tra len frm tto fit sst) (m_qring n th sst' w) := by
  unfold x_qring m_qring
  rw [lpN_n0 (by have := H.n5; omega)]
  exact eq_ring_l H P B U I Y n 0 0 (Nat.zero_add n)
end QC

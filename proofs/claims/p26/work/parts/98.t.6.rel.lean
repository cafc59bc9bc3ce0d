/-! the class's rows told by the reference's block -/
def cI (c : Nat) : Int32 := if c < 21 then nI c else -1
/-- where all stand -/
def rP (n : Nat) (w ph sp ce : List Int32) : Prop := (ph.length = 5 ∧ sp.length = 5 ∧ ce.length = 5) ∧ ∀ t, t < n → gN ph t = ft w t 6 ∧ (¬ ft w t 6 = 0 → gN sp t = ft w t 7) ∧ gN ce t = cI (cL w t)
def qB (n : Nat) (w : List Int32) (bus : Int32) : Prop := ∀ c, c < 32 → (tb bus c = true ↔ ∃ t, t < n ∧ cL w t = c)
def rU (w : List Int32) (shu : Int32) : Prop := ∀ s k, s < 7 → k < 3 → (tb shu (3 * s + k) = true ↔ fs w s (5 + k) = 1)
def rI (n : Nat) (w ri : List Int32) : Prop := ri.length = 6 ∧ ∀ k, k < 6 → gN ri k = fnd (onS w k) n 0
/-- the layout: its rows -/
def qY (n S : Nat) (w tra len frm tto wei fit way rid lon : List Int32) (cel : Int32) : Prop :=
  (∀ s, s < S → gN tra s = fs w s 1 ∧ ∀ k, k < mN w s → gN len (3 * s + k) = fs w s (2 + k)) ∧
  (∀ t, t < n → gN frm t = ft w t 1 ∧ gN tto t = ft w t 2 ∧ gN wei t = ft w t 5) ∧
  (∀ c, c < 32 → (tb cel c = true ↔ c < 21 ∧ c / 3 < S ∧ c % 3 < mN w (c / 3))) ∧
  (∀ t, t < n → ∀ c, c < 32 → (tb (gN fit t) c = true ↔ c < 21 ∧ c / 3 < S ∧ c % 3 < mN w (c / 3) ∧ ¬ fs w (c / 3) (2 + c % 3) < ft w t 0)) ∧
  (∀ t s, t < n → s < S → ∀ c, c < 32 → (tb (gN way (7 * t + s)) c = true ↔ c < 21 ∧ c % 3 = 0 ∧ min s (tO w t) < c / 3 ∧ c / 3 < max s (tO w t))) ∧
  (∀ t k, t < n → k + 1 < S → gN rid (6 * t + k) = rN w t k) ∧
  (∀ t, t < n → gN lon t = m_loneOf w (nI t))
section RY
variable {n S : Nat} {w tra len frm tto wei fit way rid lon : List Int32} {cel : Int32}
theorem qY.ptra (h : qY n S w tra len frm tto wei fit way rid lon cel) {s : Nat} (hs : s < S) : gN tra s = fs w s 1 := (h.1 s hs).1
theorem qY.plen (h : qY n S w tra len frm tto wei fit way rid lon cel) {s k : Nat} (hs : s < S) (hk : k < mN w s) : gN len (3 * s + k) = fs w s (2 + k) := (h.1 s hs).2 k hk
theorem qY.pfrm (h : qY n S w tra len frm tto wei fit way rid lon cel) {t : Nat} (ht : t < n) : gN frm t = ft w t 1 := (h.2.1 t ht).1
theorem qY.ptto (h : qY n S w tra len frm tto wei fit way rid lon cel) {t : Nat} (ht : t < n) : gN tto t = ft w t 2 := (h.2.1 t ht).2.1
theorem qY.pwei (h : qY n S w tra len frm tto wei fit way rid lon cel) {t : Nat} (ht : t < n) : gN wei t = ft w t 5 := (h.2.1 t ht).2.2
theorem qY.pcel (h : qY n S w tra len frm tto wei fit way rid lon cel) {c : Nat} (hc : c < 32) : tb cel c = true ↔ c < 21 ∧ c / 3 < S ∧ c % 3 < mN w (c / 3) := h.2.2.1 c hc
theorem qY.pfit (h : qY n S w tra len frm tto wei fit way rid lon cel) {t : Nat} (ht : t < n) {c : Nat} (hc : c < 32) : tb (gN fit t) c = true ↔ c < 21 ∧ c / 3 < S ∧ c % 3 < mN w (c / 3) ∧ ¬ fs w (c / 3) (2 + c % 3) < ft w t 0 := h.2.2.2.1 t ht c hc
theorem qY.pway (h : qY n S w tra len frm tto wei fit way rid lon cel) {t s : Nat} (ht : t < n) (hs : s < S) {c : Nat} (hc : c < 32) : tb (gN way (7 * t + s)) c = true ↔ c < 21 ∧ c % 3 = 0 ∧ min s (tO w t) < c / 3 ∧ c / 3 < max s (tO w t) := h.2.2.2.2.1 t s ht hs c hc
theorem qY.prid (h : qY n S w tra len frm tto wei fit way rid lon cel) {t k : Nat} (ht : t < n) (hk : k + 1 < S) : gN rid (6 * t + k) = rN w t k := h.2.2.2.2.2.1 t k ht hk
theorem qY.plon (h : qY n S w tra len frm tto wei fit way rid lon cel) {t : Nat} (ht : t < n) : gN lon t = m_loneOf w (nI t) := h.2.2.2.2.2.2 t ht
end RY
section CX
variable {n S : Nat} {w ph sp ce ri tra len frm tto wei fit way rid lon : List Int32} {shu bus cel : Int32} {t : Nat}
theorem rP.pph (h : rP n w ph sp ce) (ht : t < n) : gN ph t = ft w t 6 := (h.2 t ht).1
theorem rP.psp (h : rP n w ph sp ce) (ht : t < n) (h6 : ¬ ft w t 6 = 0) : gN sp t = ft w t 7 := (h.2 t ht).2.1 h6
theorem rP.pce (h : rP n w ph sp ce) (ht : t < n) : gN ce t = cI (cL w t) := (h.2 t ht).2.2
theorem x_next (H : wg n S w) (P : rP n w ph sp ce) (Y : qY n S w tra len frm tto wei fit way rid lon cel) (ht : t < n) (h6 : ft w t 6 = 1 ∨ ft w t 6 = 2) : x_nextStation sp tto (nI t) = nI (nxT w t) ∧ x_sectionAhead sp tto (nI t) = nI (sC w t) := by
  have h5 := H.n5
  have hS := H.S7
  have hT := H.T ht
  have h60 : ¬ ft w t 6 = 0 := by rcases h6 with e | e <;> rw [e] <;> decide
  have h7 := hT.2.2.2.2.1 h60
  have h8 := hT.2.2.2.2.2.1 h6
  have h2 := hT.2.1
  unfold onW at h8
  unfold x_nextStation x_sectionAhead nxT sC
  rw [gA_n (by omega), gA_n (by omega), P.psp ht h60, Y.ptto ht, h7.1, h2.1]
  by_cases c : fR w t < tO w t
  · rw [if_pos c, if_pos c, if_pos ((nI_ltI (by omega) (by omega)).mpr (by omega)), if_pos ((nI_ltI (by omega) (by omega)).mpr (by omega)), nI_1]
    exact ⟨rfl, rfl⟩
  · rw [if_neg c, if_neg c, if_neg (fun z => by have := (nI_ltI (by omega) (by omega)).mp z; omega), if_neg (fun z => by have := (nI_ltI (by omega) (by omega)).mp z; omega), nI_sub1 (by omega)]
    exact ⟨rfl, rfl⟩
/-- the cell of a track, none: 9 -/
def ebs (s b : Nat) : Int32 := if b = 9 then -1 else nI (3 * s + b)
theorem x_free_l {v1 v2 v3 : Int32} {s : Nat} (hs : s < 7) : ∀ (f i b : Nat), i + f = 3 → (b = 9 ∨ b < i) → x_freeCell_l32 len v1 v2 v3 f (nI (3 * s + i)) (ebs s b) = ebs s (bst (fun k => tb v3 (3 * s + k)) (fun k => gN len (3 * s + k)) f i b)
  | 0, _, _, _, _ => rfl
  | f + 1, i, b, e, hb => by
    unfold x_freeCell_l32 bst
    rw [nI_1, gA_n (by omega)]
    have e2 : (if (v3 >>> (nI (3 * s + i) &&& 31)) &&& 1 = 0 then ebs s b else (if ebs s b = (-1) then nI (3 * s + i) else (if gN len (3 * s + i) < gA len (ebs s b) then nI (3 * s + i) else ebs s b)) : Int32) = ebs s (if tb v3 (3 * s + i) = true then (if b = 9 then i else if gN len (3 * s + i) < gN len (3 * s + b) then i else b) else b) := by
      cases c1 : tb v3 (3 * s + i)
      · rw [if_pos ((tb_b0 (by omega)).mpr c1), if_neg (by decide)]
      · rw [if_neg (fun z => by rw [(tb_b0 (by omega)).mp z] at c1; cases c1), if_pos rfl]
        by_cases c4 : b = 9
        · rw [c4, show ebs s 9 = -1 from rfl, if_pos rfl, if_pos rfl]
          unfold ebs
          rw [if_neg (by omega)]
        · have eb1 : ebs s b = nI (3 * s + b) := if_neg c4
          rw [if_neg c4, eb1, if_neg (nI_nn (by omega)), gA_n (by omega)]
          by_cases c5 : gN len (3 * s + i) < gN len (3 * s + b)
          · rw [if_pos c5, if_pos c5]
            unfold ebs
            rw [if_neg (by omega)]
          · rw [if_neg c5, if_neg c5, eb1]
    rw [e2, show 3 * s + i + 1 = 3 * s + (i + 1) by omega]
    refine x_free_l hs f (i + 1) _ (by omega) ?_
    split
    · split
      · omega
      · split <;> omega
    · omega
theorem bst_pad {ok ok' : Nat → Bool} {L L' : Nat → Int32} {m d : Nat} (h1 : ∀ k, k < m → ok k = ok' k) (h2 : ∀ k, k < m → L k = L' k) (h3 : ∀ k, m ≤ k → k < m + d → ok' k = false) : bst ok' L' (m + d) 0 9 = bst ok L m 0 9 := by
  rw [bst_add, bst_no (fun k g1 g2 => h3 k (by omega) (by omega))]
  exact (bst_congr (fun k g1 g2 => h1 k (by omega)) (fun k g1 g2 => h2 k (by omega)) (Or.inl rfl)).symm
/-- which cells are free for a train -/
theorem free_bit (H : wg n S w) (B : qB n w bus) (U : rU w shu) (Y : qY n S w tra len frm tto wei fit way rid lon cel) (ht : t < n) {s k : Nat} (hs : s < S) (hk : k < 3) : tb ((gN fit t &&& (bus ^^^ (-1))) &&& (shu ^^^ (-1))) (3 * s + k) = (decide (k < mN w s) && okT n w t s k) := by
  have hS := H.S7
  have h5 := H.n5
  have e1 : (3 * s + k) / 3 = s := by omega
  have e2 : (3 * s + k) % 3 = k := by omega
  rw [tb_and, tb_and, tb_not (by omega), tb_not (by omega)]
  have f1 := Y.pfit ht (c := 3 * s + k) (by omega)
  rw [e1, e2] at f1
  have b1 := B (3 * s + k) (by omega)
  have u1 := U s k (by omega) hk
  have ws := (H.St (s := s) (by omega)).2.2 k hk
  apply Bool.eq_iff_iff.mpr
  unfold okT
  rw [Bool.and_eq_true_iff, Bool.and_eq_true_iff, Bool.and_eq_true_iff, Bool.and_eq_true_iff, Bool.and_eq_true_iff, f1, Bool.not_eq_true', Bool.not_eq_true', decide_eq_true_iff, decide_eq_true_iff, decide_eq_true_iff, decide_eq_true_iff]
  have b2 : tb bus (3 * s + k) = false ↔ fnd (atC w (3 * s + k)) n 0 = -1 := by
    rw [fnd_n (by omega), ← Bool.not_eq_true, b1]
    constructor
    · intro h u hu
      unfold atC
      exact Bool.eq_false_iff.mpr (fun z => h ⟨u, hu, Nat.beq_eq.mp z⟩)
    · rintro h ⟨u, hu, e⟩
      have := h u hu
      unfold atC at this
      rw [e, Nat.beq_eq.mpr rfl] at this
      cases this
  have u2 : tb shu (3 * s + k) = false ↔ fs w s (5 + k) = 0 := by
    rw [← Bool.not_eq_true, u1]
    rcases ws with z | z <;> rw [z] <;> decide
  rw [b2, u2]
  constructor
  · rintro ⟨⟨⟨g1, g2, g3, g4⟩, g5⟩, g6⟩
    exact ⟨g3, g6, g5, g4⟩
  · rintro ⟨g3, g6, g5, g4⟩
    exact ⟨⟨⟨by omega, hs, g3, g4⟩, g5⟩, g6⟩
theorem x_free (H : wg n S w) (B : qB n w bus) (U : rU w shu) (Y : qY n S w tra len frm tto wei fit way rid lon cel) (ht : t < n) {s : Nat} (hs : s < S) : x_freeCell shu bus len fit (nI t) (nI s) = ebs s (tF n w t s) := by
  have hS := H.S7
  have h5 := H.n5
  unfold x_freeCell
  rw [gA_n (by omega)]
  have e1 : (nI s + 1) * 3 = nI (3 * s + 3) := by
    rw [nI_1]
    show nI (s + 1) * nI 3 = _
    rw [nI_mul]
    congr 1
    omega
  have e2 : nI s * 3 = nI (3 * s + 0) := by
    show nI s * nI 3 = _
    rw [nI_mul]
    congr 1
    omega
  rw [e1, e2, lpN_nn (by omega) (by omega), show 3 * s + 3 - (3 * s + 0) = 3 by omega]
  rw [show (-1 : Int32) = ebs s 9 from rfl, x_free_l (by omega) 3 0 9 rfl (Or.inl rfl)]
  have hm := (H.St (s := s) (by omega)).2.1
  congr 1
  unfold tF
  obtain ⟨d, hd⟩ : ∃ d, mN w s + d = 3 := ⟨3 - mN w s, by omega⟩
  have fb := fun k hk => free_bit H B U Y ht hs (k := k) hk
  have := bst_pad (ok := okT n w t s) (L := fun k => fs w s (2 + k)) (ok' := fun k => tb ((gN fit t &&& (bus ^^^ (-1))) &&& (shu ^^^ (-1))) (3 * s + k)) (L' := fun k => gN len (3 * s + k)) (m := mN w s) (d := d) (fun k hk => by
    rw [fb k (by omega), decide_eq_true (by omega), Bool.true_and]) (fun k hk => (Y.plen hs hk).symm) (fun k h1 h2 => by
    rw [fb k (by omega), decide_eq_false (by omega), Bool.false_and])
  rw [hd] at this
  exact this
/-- what one would take: a cell, 21: home; why not: -1, -2 -/
def tG (n : Nat) (w : List Int32) (t : Nat) : Int32 := if ft w t 6 = 0 then ebs (fR w t) (tF n w t (fR w t)) else if fnd (onS w (sC w t)) n 0 = -1 then (if nxT w t = tO w t then 21 else ebs (nxT w t) (tF n w t (nxT w t))) else -2
theorem x_tgt (H : wg n S w) (P : rP n w ph sp ce) (B : qB n w bus) (U : rU w shu) (I : rI n w ri) (Y : qY n S w tra len frm tto wei fit way rid lon cel) (ht : t < n) (h6 : ft w t 6 = 0 ∨ ft w t 6 = 1) : x_target shu bus ph sp ri len frm tto fit (nI t) = tG n w t := by
  have hS := H.S7
  have h5 := H.n5
  have hT := H.T ht
  unfold x_target tG
  rw [gA_n (by omega), P.pph ht]
  by_cases c0 : ft w t 6 = 0
  · rw [if_pos c0, if_pos c0, gA_n (by omega), Y.pfrm ht, hT.1.1, x_free H B U Y ht hT.1.2]
  · rw [if_neg c0, if_neg c0]
    have c1 : ft w t 6 = 1 := by rcases h6 with e | e <;> first | exact e | contradiction
    obtain ⟨y1, y2⟩ := x_next H P Y ht (Or.inl c1)
    obtain ⟨x1, x2, x3, x4, x5⟩ := hT.next hS (by omega) (Or.inl c1)
    rw [y1, y2, gA_n (by omega), I.2 _ x4]
    by_cases c2 : fnd (onS w (sC w t)) n 0 = -1
    · rw [if_pos c2, if_pos c2, gA_n (by omega), Y.ptto ht, hT.2.1.1]
      by_cases c3 : nxT w t = tO w t
      · rw [if_pos c3, c3, if_pos rfl]
      · rw [if_neg c3, if_neg (fun z => c3 ((nI_eq (by omega) (by have := hT.2.1.2; omega)).mp z)), x_free H B U Y ht x3]
    · rw [if_neg c2, if_neg c2]
theorem nI_n2 {a : Nat} (h : a < 2 ^ 31) : ¬ nI a = -2 := by
  intro e
  have := congrArg Int32.toInt e
  rw [nI_toInt h, show (-2 : Int32).toInt = -2 from rfl] at this
  omega
theorem ebs_or {s b : Nat} : (b = 9 ∧ ebs s b = -1) ∨ (b ≠ 9 ∧ ebs s b = nI (3 * s + b)) := by
  unfold ebs
  by_cases c : b = 9
  · rw [if_pos c]; exact Or.inl ⟨c, rfl⟩
  · rw [if_neg c]; exact Or.inr ⟨c, rfl⟩
/-- the target, why not -/
theorem tG_why (H : wg n S w) (ht : t < n) (h6 : ft w t 6 = 0 ∨ ft w t 6 = 1) : (m_whyNot w (nI t) = 0 ∧ ∃ c, c < 22 ∧ tG n w t = nI c) ∨ (m_whyNot w (nI t) = 3 ∧ tG n w t = -1) ∨ (m_whyNot w (nI t) = 4 ∧ tG n w t = -2) := by
  have hS := H.S7
  have hT := H.T ht
  rw [H.whyNot ht]
  unfold tG
  rcases h6 with c | c
  · rw [c, if_neg (by decide), if_neg (by decide), if_pos rfl, if_pos rfl]
    rcases @ebs_or (fR w t) (tF n w t (fR w t)) with ⟨d, e⟩ | ⟨d, e⟩
    · rw [if_pos d, e]; exact Or.inr (Or.inl ⟨rfl, rfl⟩)
    · rw [if_neg d, e]
      have h1 := (tF_free n w t (fR w t) (by have := H.n5; omega) d).1
      have h2 := (H.St (s := fR w t) (by have := hT.1.2; omega)).2.1
      exact Or.inl ⟨rfl, _, by have := hT.1.2; omega, rfl⟩
  · rw [c]
    simp only [show ¬ (1 : Int32) = 3 by decide, show ¬ (1 : Int32) = 2 by decide, show ¬ (1 : Int32) = 0 by decide, if_false]
    obtain ⟨x1, x2, x3, x4, x5⟩ := hT.next hS (by have := H.n5; omega) (Or.inl c)
    by_cases c2 : fnd (onS w (sC w t)) n 0 = -1
    · rw [if_pos c2, if_pos c2]
      by_cases c3 : nxT w t = tO w t
      · rw [if_pos c3, if_pos c3]; exact Or.inl ⟨rfl, 21, by decide, rfl⟩
      · rw [if_neg c3, if_neg c3]
        rcases @ebs_or (nxT w t) (tF n w t (nxT w t)) with ⟨d, e⟩ | ⟨d, e⟩
        · rw [if_pos d, e]; exact Or.inr (Or.inl ⟨rfl, rfl⟩)
        · rw [if_neg d, e]
          have h1 := (tF_free n w t (nxT w t) (by have := H.n5; omega) d).1
          have h2 := (H.St (s := nxT w t) (by omega)).2.1
          exact Or.inl ⟨rfl, _, by omega, rfl⟩
    · rw [if_neg c2, if_neg c2]; exact Or.inr (Or.inr ⟨rfl, rfl⟩)
theorem n1_lt0 : (-1 : Int32) < 0 := by decide
theorem n2_lt0 : (-2 : Int32) < 0 := by decide
/-- can it move -/
theorem x_can (H : wg n S w) (P : rP n w ph sp ce) (B : qB n w bus) (U : rU w shu) (I : rI n w ri) (Y : qY n S w tra len frm tto wei fit way rid lon cel) (ht : t < n) : x_canMove shu bus ph sp ri len frm tto fit (nI t) = if m_whyNot w (nI t) = 0 then 1 else 0 := by
  have h5 := H.n5
  have hT := H.T ht
  unfold x_canMove
  rw [gA_n (by omega), P.pph ht]
  have key : (ft w t 6 = 0 ∨ ft w t 6 = 1) → (if x_target shu bus ph sp ri len frm tto fit (nI t) < 0 then (0 : Int32) else 1) = if m_whyNot w (nI t) = 0 then 1 else 0 := fun h6 => by
    rw [x_tgt H P B U I Y ht h6]
    rcases tG_why H ht h6 with ⟨e1, c, hc, e2⟩ | ⟨e1, e2⟩ | ⟨e1, e2⟩
    · rw [e1, e2, if_neg (nI_pos (by omega)), if_pos rfl]
    · rw [e1, e2, if_pos n1_lt0, if_neg (by decide)]
    · rw [e1, e2, if_pos n2_lt0, if_neg (by decide)]
  rcases hT.2.2.2.1 with e | e | e | e
  · rw [if_pos e]; exact key (Or.inl e)
  · rw [if_neg (by rw [e]; decide), if_pos e]; exact key (Or.inr e)
  · rw [if_neg (by rw [e]; decide), if_neg (by rw [e]; decide), H.whyNot ht, e]; rfl
  · rw [if_neg (by rw [e]; decide), if_neg (by rw [e]; decide), H.whyNot ht, e]; rfl
theorem x_stuck_l (H : wg n S w) (P : rP n w ph sp ce) (B : qB n w bus) (U : rU w shu) (I : rI n w ri) (Y : qY n S w tra len frm tto wei fit way rid lon cel) : ∀ (f i : Nat) (v : Int32), i + f = n → x_isStuck_l4 shu bus ph sp ri len frm tto fit f (nI i) v = m_isStuck_l4 w f (nI i) v
  | 0, _, _, _ => rfl
  | f + 1, i, v, e => by
    have h5 := H.n5
    unfold x_isStuck_l4 m_isStuck_l4
    rw [gA_n (by omega), P.pph (by omega), m_of6 (by omega), x_can H P B U I Y (by omega), nI_1, x_stuck_l H P B U I Y f (i + 1) _ (by omega)]
    by_cases c : m_whyNot w (nI i) = 0
    · rw [if_pos c, if_pos c, if_neg (show ¬ (1 : Int32) = 0 by decide)]
    · rw [if_neg c, if_neg c, if_pos rfl]
theorem x_stuck (H : wg n S w) (P : rP n w ph sp ce) (B : qB n w bus) (U : rU w shu) (I : rI n w ri) (Y : qY n S w tra len frm tto wei fit way rid lon cel) : x_isStuck shu bus ph sp ri (nI n) len frm tto fit = m_isStuck w := by
  unfold x_isStuck m_isStuck
  rw [H.gn]
  have := H.n5
  rw [lpN_n0 (by omega)]
  exact x_stuck_l H P B U I Y n 0 0 (Nat.zero_add n)
theorem x_cnt_l (H : wg n S w) (P : rP n w ph sp ce) {v : Int32} : ∀ (f i : Nat) (a : Int32), i + f = n → x_count_l4 ph v f (nI i) a = m_howMany_l4 w v f (nI i) a
  | 0, _, _, _ => rfl
  | f + 1, i, a, e => by
    have h5 := H.n5
    unfold x_count_l4 m_howMany_l4
    rw [gA_n (by omega), P.pph (by omega), m_of6 (by omega), nI_1, x_cnt_l H P f (i + 1) _ (by omega)]
    by_cases c : ft w i 6 = v
    · rw [if_pos c, if_pos c]
    · rw [if_neg c, if_neg c, Int32.add_zero]
theorem x_cnt (H : wg n S w) (P : rP n w ph sp ce) (v : Int32) : x_count ph (nI n) v = m_howMany w v := by
  unfold x_count m_howMany
  rw [H.gn]
  have := H.n5
  rw [lpN_n0 (by omega)]
  exact x_cnt_l H P n 0 0 (Nat.zero_add n)
end CX

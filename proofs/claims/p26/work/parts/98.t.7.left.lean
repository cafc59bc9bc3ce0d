/-! whether all can still get through: both sides -/
/-- room for a train at a station, those of p standing -/
def rm (n : Nat) (w : List Int32) (p : Nat → Bool) (t b : Nat) : Prop := ∃ k, k < mN w b ∧ fs w b (5 + k) = 0 ∧ ¬ fs w b (2 + k) < ft w t 0 ∧ ∀ u, u < n → p u = true → cL w u ≠ 3 * b + k
def wd1 (n : Nat) (w : List Int32) : Prop := ∀ t u, t < n → u < n → t ≠ u → cL w t < 21 → cL w t ≠ cL w u
section RM
variable {n S : Nat} {w : List Int32} {t : Nat} {p : Nat → Bool}
theorem who_p (H : wg n S w) (D : wd1 n w) {b k : Nat} (hb : b < 7) (hk : k < 3) : (m_whoAt w (nI b) (nI k) = -1 ∨ ((mk5 p) >>> ((m_whoAt w (nI b) (nI k)) &&& 31)) &&& 1 = 0) ↔ ∀ u, u < n → p u = true → cL w u ≠ 3 * b + k := by
  have h5 := H.n5
  rw [H.whoAt hb hk]
  rcases fnd_or (p := atC w (3 * b + k)) n 0 with ⟨e, h⟩ | ⟨s, -, hs, e, h, -⟩
  · refine ⟨fun _ u hu _ z => ?_, fun _ => Or.inl e⟩
    have := h u (Nat.zero_le _) (by omega)
    unfold atC at this
    rw [z, Nat.beq_eq.mpr rfl] at this
    cases this
  · have hc : cL w s = 3 * b + k := Nat.beq_eq.mp h
    rw [e, mk5_bit (by omega)]
    constructor
    · intro q u hu hp z
      rcases q with q | q
      · exact nI_nn (by omega) q
      · by_cases c : u = s
        · subst c
          rw [hp] at q
          exact absurd q (by decide)
        · exact D s u (by omega) hu (fun y => c y.symm) (by omega) (by omega)
    · intro q
      refine Or.inr ?_
      cases hp : p s
      · rfl
      · exact absurd hc (q s (by omega) hp)
theorem hasRoom_l (H : wg n S w) (D : wd1 n w) (ht : t < n) {b : Nat} (hb : b < 7) : ∀ (f i : Nat), i + f ≤ 3 → (¬ m_hasRoom_l3 w (nI t) (nI b) (mk5 p) f (nI i) = 0 ↔ ∃ k, i ≤ k ∧ k < i + f ∧ fs w b (5 + k) = 0 ∧ ¬ fs w b (2 + k) < ft w t 0 ∧ ∀ u, u < n → p u = true → cL w u ≠ 3 * b + k)
  | 0, i, _ => ⟨fun z => absurd rfl z, fun ⟨k, h1, h2, _⟩ => absurd h2 (by omega)⟩
  | f + 1, i, e => by
    have h5 := H.n5
    unfold m_hasRoom_l3
    have ih := hasRoom_l H D ht hb f (i + 1) (by omega)
    rw [nI_1, m_st5 (by omega) (by omega), m_st2 (by omega) (by omega), m_of0 (by omega)]
    have hw := who_p (p := p) H D hb (k := i) (by omega)
    have up : (∃ k, i + 1 ≤ k ∧ k < i + 1 + f ∧ fs w b (5 + k) = 0 ∧ ¬ fs w b (2 + k) < ft w t 0 ∧ ∀ u, u < n → p u = true → cL w u ≠ 3 * b + k) → ∃ k, i ≤ k ∧ k < i + (f + 1) ∧ fs w b (5 + k) = 0 ∧ ¬ fs w b (2 + k) < ft w t 0 ∧ ∀ u, u < n → p u = true → cL w u ≠ 3 * b + k := fun ⟨k, g1, g2, g3⟩ => ⟨k, by omega, by omega, g3⟩
    have dn : ¬ (fs w b (5 + i) = 0 ∧ ¬ fs w b (2 + i) < ft w t 0 ∧ ∀ u, u < n → p u = true → cL w u ≠ 3 * b + i) → (∃ k, i ≤ k ∧ k < i + (f + 1) ∧ fs w b (5 + k) = 0 ∧ ¬ fs w b (2 + k) < ft w t 0 ∧ ∀ u, u < n → p u = true → cL w u ≠ 3 * b + k) → ∃ k, i + 1 ≤ k ∧ k < i + 1 + f ∧ fs w b (5 + k) = 0 ∧ ¬ fs w b (2 + k) < ft w t 0 ∧ ∀ u, u < n → p u = true → cL w u ≠ 3 * b + k := fun z ⟨k, g1, g2, g3⟩ => by
      by_cases c : k = i
      · subst c; exact absurd g3 z
      · exact ⟨k, by omega, by omega, g3⟩
    by_cases c1 : fs w b (5 + i) = 0
    · rw [if_pos c1]
      by_cases c2 : fs w b (2 + i) < ft w t 0
      · rw [if_pos c2, ih]
        exact ⟨up, dn fun z => z.2.1 c2⟩
      · rw [if_neg c2]
        by_cases c3 : m_whoAt w (nI b) (nI i) = -1
        · rw [if_pos c3]
          exact ⟨fun _ => ⟨i, by omega, by omega, c1, c2, hw.mp (Or.inl c3)⟩, fun _ => by decide⟩
        · rw [if_neg c3]
          by_cases c4 : ((mk5 p) >>> ((m_whoAt w (nI b) (nI i)) &&& 31)) &&& 1 = 0
          · rw [if_pos c4]
            exact ⟨fun _ => ⟨i, by omega, by omega, c1, c2, hw.mp (Or.inr c4)⟩, fun _ => by decide⟩
          · rw [if_neg c4, ih]
            exact ⟨up, dn fun z => by rcases hw.mpr z.2.2 with y | y <;> contradiction⟩
    · rw [if_neg c1, ih]
      exact ⟨up, dn fun z => c1 z.1⟩
theorem hasRoom_n (H : wg n S w) (D : wd1 n w) (ht : t < n) {b : Nat} (hb : b < 7) : ¬ m_hasRoom w (nI t) (nI b) (mk5 p) = 0 ↔ rm n w p t b := by
  have hs := H.St hb
  unfold m_hasRoom
  rw [m_st1 (by omega), hs.1, lpN_n0 (by have := hs.2.1; omega)]
  have := hasRoom_l (p := p) H D ht hb (mN w b) 0 (by have := hs.2.1; omega)
  show ¬ m_hasRoom_l3 w (nI t) (nI b) (mk5 p) (mN w b) (nI 0) = 0 ↔ _
  rw [this]
  unfold rm
  exact ⟨fun ⟨k, _, h⟩ => ⟨k, by omega, h.2⟩, fun ⟨k, h1, h⟩ => ⟨k, Nat.zero_le _, by omega, h⟩⟩
theorem cgo_up (H : wg n S w) (D : wd1 n w) (ht : t < n) (hst : m_step w (nI t) = 1) : ∀ (f b : Nat), b + f ≤ 7 → (¬ m_couldGo_l48 w (nI t) (mk5 p) f (nI b) = 0 ↔ ∀ x, b ≤ x → x < b + f → rm n w p t x)
  | 0, b, _ => ⟨fun _ x h1 h2 => absurd h2 (by omega), fun _ => (by unfold m_couldGo_l48; decide)⟩
  | f + 1, b, e => by
    have ih := cgo_up H D ht hst f (b + 1) (by omega)
    have hr := hasRoom_n (p := p) H D ht (b := b) (by omega)
    unfold m_couldGo_l48
    by_cases c : m_hasRoom w (nI t) (nI b) (mk5 p) = 0
    · rw [if_pos c]
      exact ⟨fun z => absurd rfl z, fun z => absurd c (hr.mpr (z b (by omega) (by omega)))⟩
    · rw [if_neg c, hst, nI_1, ih]
      refine ⟨fun z x h1 h2 => ?_, fun z x h1 h2 => z x (by omega) (by omega)⟩
      by_cases d : x = b
      · rw [d]; exact hr.mp c
      · exact z x (by omega) (by omega)
theorem cgo_dn (H : wg n S w) (D : wd1 n w) (ht : t < n) (hst : m_step w (nI t) = -1) : ∀ (f b : Nat), b < 7 → f ≤ b → (¬ m_couldGo_l48 w (nI t) (mk5 p) f (nI b) = 0 ↔ ∀ x, x ≤ b → b < x + f → rm n w p t x)
  | 0, b, _, _ => ⟨fun _ x h1 h2 => absurd h2 (by omega), fun _ => (by unfold m_couldGo_l48; decide)⟩
  | f + 1, b, e, e2 => by
    have ih := cgo_dn H D ht hst f (b - 1) (by omega) (by omega)
    have hr := hasRoom_n (p := p) H D ht (b := b) (by omega)
    unfold m_couldGo_l48
    by_cases c : m_hasRoom w (nI t) (nI b) (mk5 p) = 0
    · rw [if_pos c]
      exact ⟨fun z => absurd rfl z, fun z => absurd c (hr.mpr (z b (by omega) (by omega)))⟩
    · rw [if_neg c, hst, nI_addn1 (by omega), ih]
      refine ⟨fun z x h1 h2 => ?_, fun z x h1 h2 => z x (by omega) (by omega)⟩
      by_cases d : x = b
      · rw [d]; exact hr.mp c
      · exact z x (by omega) (by omega)
/-- of a train with a track: where it stands -/
theorem wg.has (H : wg n S w) (ht : t < n) (hc : cL w t < 21) : (ft w t 6 = 1 ∨ ft w t 6 = 2) ∧ m_cs w (nI t) = nI (cL w t / 3) ∧ cL w t / 3 < S ∧ (fR w t < tO w t ∧ cL w t / 3 < tO w t ∨ ¬ fR w t < tO w t ∧ tO w t < cL w t / 3) := by
  have h5 := H.n5
  have hS := H.S7
  have hT := H.T ht
  have h6 : ft w t 6 = 1 ∨ ft w t 6 = 2 := by
    unfold cL at hc
    by_cases e1 : ft w t 6 = 1
    · exact Or.inl e1
    · by_cases e2 : ft w t 6 = 2
      · exact Or.inr e2
      · rw [if_neg e1, if_neg e2] at hc; omega
  obtain ⟨x1, x2, x3, x4, x5⟩ := hT.next hS (by omega) h6
  have h7 := hT.2.2.2.2.1 (by rcases h6 with e | e <;> rw [e] <;> decide)
  have h8 := hT.2.2.2.2.2.1 h6
  have hp := H.place ht
  unfold onW at h8
  refine ⟨h6, ?_⟩
  unfold m_cs
  rw [m_of6 (by omega), x1, m_of7 (by omega), h7.1]
  rcases h6 with e | e
  · have k3 := hT.2.2.2.2.2.2.2.1 e
    have km := (H.St (s := atT w t) (by omega)).2.1
    have e1 : cL w t = 3 * atT w t + kT w t := by unfold cL; rw [if_pos e]
    have e2 : cL w t / 3 = atT w t := by omega
    rw [e, if_neg (by decide), e2]
    exact ⟨rfl, h7.2, by omega⟩
  · rcases hT.2.2.2.2.2.2.2.2 e with ⟨g1, g2⟩ | ⟨g1, g2, g3⟩
    · unfold cL at hc
      rw [e, if_neg (by decide), if_pos rfl, if_pos g1] at hc
      omega
    · have km := (H.St (s := nxT w t) (by omega)).2.1
      have e1 : cL w t = 3 * nxT w t + kT w t := by unfold cL; rw [e, if_neg (by decide), if_pos rfl, if_neg g1]
      have e2 : cL w t / 3 = nxT w t := by omega
      rw [if_pos e, e2]
      refine ⟨rfl, x3, ?_⟩
      have n1 : fR w t < tO w t → nxT w t = atT w t + 1 := fun c => if_pos c
      have n2 : ¬ fR w t < tO w t → nxT w t = atT w t - 1 := fun c => if_neg c
      by_cases d : fR w t < tO w t
      · have := n1 d; omega
      · have := n2 d; omega
theorem cgo_n (H : wg n S w) (D : wd1 n w) (ht : t < n) (hc : cL w t < 21) : m_cgo w p t = true ↔ ∀ b, min (cL w t / 3) (tO w t) < b → b < max (cL w t / 3) (tO w t) → rm n w p t b := by
  have h5 := H.n5
  have hS := H.S7
  have hT := H.T ht
  obtain ⟨h6, x1, x2, x3⟩ := H.has ht hc
  have hst := hT.step hS (by omega)
  unfold m_cgo m_couldGo m_gg
  rw [x1, m_of2 (by omega), hT.2.1.1]
  have hne : ¬ nI (cL w t / 3) = nI (tO w t) := fun z => by
    have := (nI_eq (by omega) (by have := hT.2.1.2; omega)).mp z
    omega
  rw [if_neg hne, nI_toInt (by have := hT.2.1.2; omega), nI_toInt (by omega), hst]
  have ho := hT.2.1.2
  rw [Bool.not_eq_true', decide_eq_false_iff_not]
  rcases x3 with ⟨d, d2⟩ | ⟨d, d2⟩
  · rw [if_pos d, nI_1]
    rw [if_pos d] at hst
    rw [cgo_up H D ht hst _ _ (by omega)]
    exact ⟨fun z b h1 h2 => z b (by omega) (by omega), fun z x h1 h2 => z x (by omega) (by omega)⟩
  · rw [if_neg d, nI_addn1 (by omega)]
    rw [if_neg d] at hst
    rw [cgo_dn H D ht hst _ _ (by omega) (by omega)]
    exact ⟨fun z b h1 h2 => z b (by omega) (by omega), fun z x h1 h2 => z x (by omega) (by omega)⟩
end RM
theorem and_eq_bits {x y : Int32} : x &&& y = y ↔ ∀ c, c < 32 → tb y c = true → tb x c = true := by
  constructor
  · intro h c _ hy
    have := congrArg (fun z => tb z c) h
    simp only [tb_and, hy, Bool.and_true] at this
    exact this
  · intro h
    apply tb_ext
    intro c hc
    rw [tb_and]
    cases hy : tb y c
    · exact Bool.and_false _
    · rw [h c hc hy]; rfl
theorem tb_shr1 {x : Int32} {c : Nat} (h : 1 + c < 32) : tb (x >>> ((1 : Int32) &&& 31)) c = tb x (1 + c) := tb_shr (a := 1) (by decide) h
theorem tb_shr2 {x : Int32} {c : Nat} (h : 2 + c < 32) : tb (x >>> ((2 : Int32) &&& 31)) c = tb x (2 + c) := tb_shr (a := 2) (by decide) h
section LEFT
variable {n S : Nat} {w tra len frm tto wei fit way rid lon sea : List Int32} {shu cel v6 : Int32} {t : Nat} {p : Nat → Bool}
/-- the cells of those that stand -/
def qTk (n : Nat) (w : List Int32) (p : Nat → Bool) (v6 : Int32) : Prop := ∀ c, c < 32 → (tb v6 c = true ↔ ∃ u, u < n ∧ p u = true ∧ cL w u = c)
theorem x_pass (H : wg n S w) (D : wd1 n w) (U : rU w shu) (Y : qY n S w tra len frm tto wei fit way rid lon cel) (T : qTk n w p v6) (ht : t < n) (hc : cL w t < 21) (hs : gN sea t = nI (cL w t)) : (((((gA fit (nI t)) &&& ((v6 ||| shu) ^^^ (-1))) ||| (((gA fit (nI t)) &&& ((v6 ||| shu) ^^^ (-1))) >>> ((1 : Int32) &&& 31))) ||| (((gA fit (nI t)) &&& ((v6 ||| shu) ^^^ (-1))) >>> ((2 : Int32) &&& 31))) &&& (gA way (((nI t) * 7) + ((gA sea (nI t)) / 3)))) = (gA way (((nI t) * 7) + ((gA sea (nI t)) / 3))) ↔ m_cgo w p t = true := by
  have h5 := H.n5
  have hS := H.S7
  obtain ⟨h6, x1, x2, x3⟩ := H.has ht hc
  have ho := (H.T ht).2.1.2
  rw [cgo_n H D ht hc, gA_n (l := fit) (by omega), gA_n (l := sea) (by omega), hs]
  have e1 : nI (cL w t) / 3 = nI (cL w t / 3) := by
    have : ∀ c : Fin 21, nI c.val / 3 = nI (c.val / 3) := by decide +kernel
    exact this ⟨_, hc⟩
  have e2 : nI t * 7 + nI (cL w t / 3) = nI (7 * t + cL w t / 3) := by
    show nI t * nI 7 + _ = _
    rw [nI_mul, nI_add]
    congr 1
    omega
  rw [e1, e2, gA_n (by omega), and_eq_bits]
  generalize hq : gN fit t &&& ((v6 ||| shu) ^^^ (-1)) = fr
  have fb : ∀ b k, b < S → k < 3 → (tb fr (3 * b + k) = true ↔ k < mN w b ∧ fs w b (5 + k) = 0 ∧ ¬ fs w b (2 + k) < ft w t 0 ∧ ∀ u, u < n → p u = true → cL w u ≠ 3 * b + k) := fun b k hb hk => by
    rw [← hq, tb_and, tb_not (by omega), tb_or]
    have f1 := Y.pfit ht (c := 3 * b + k) (by omega)
    rw [show (3 * b + k) / 3 = b by omega, show (3 * b + k) % 3 = k by omega] at f1
    have u1 := U b k (by omega) hk
    have t1 := T (3 * b + k) (by omega)
    have ws := (H.St (s := b) (by omega)).2.2 k hk
    rw [Bool.and_eq_true_iff, f1, Bool.not_eq_true', Bool.or_eq_false_iff, ← Bool.not_eq_true, ← Bool.not_eq_true, t1, u1]
    constructor
    · rintro ⟨⟨g1, g2, g3, g4⟩, g5, g6⟩
      refine ⟨g3, ?_, g4, fun u hu hp e => g5 ⟨u, hu, hp, e⟩⟩
      rcases ws with z | z
      · exact z
      · exact absurd z g6
    · rintro ⟨g3, g6, g4, g5⟩
      refine ⟨⟨by omega, hb, g3, g4⟩, fun ⟨u, hu, hp, e⟩ => g5 u hu hp e, ?_⟩
      rw [g6]; decide
  constructor
  · intro h b h1 h2
    have := h (3 * b) (by omega) ((Y.pway ht x2 (by omega)).mpr ⟨by omega, by omega, by omega, by omega⟩)
    rw [tb_or, tb_or, tb_shr1 (by omega), tb_shr2 (by omega), Bool.or_eq_true, Bool.or_eq_true] at this
    have hm := (H.St (s := b) (by omega)).2.1
    rcases this with (z | z) | z
    · exact ⟨0, (fb b 0 (by omega) (by decide)).mp z⟩
    · exact ⟨1, (fb b 1 (by omega) (by decide)).mp (by rw [Nat.add_comm]; exact z)⟩
    · exact ⟨2, (fb b 2 (by omega) (by decide)).mp (by rw [Nat.add_comm]; exact z)⟩
  · intro h c hc32 hy
    obtain ⟨y1, y2, y3, y4⟩ := (Y.pway ht x2 hc32).mp hy
    obtain ⟨b, rfl⟩ : ∃ b, c = 3 * b := ⟨c / 3, by omega⟩
    rw [show 3 * b / 3 = b by omega] at y3 y4
    obtain ⟨k, hk⟩ := h b y3 y4
    have hm := (H.St (s := b) (by omega)).2.1
    have := (fb b k (by omega) (by omega)).mpr hk
    rw [tb_or, tb_or, tb_shr1 (by omega), tb_shr2 (by omega), Bool.or_eq_true, Bool.or_eq_true]
    match k, hk, this with
    | 0, _, z => exact Or.inl (Or.inl z)
    | 1, _, z => exact Or.inl (Or.inr (by rw [Nat.add_comm]; exact z))
    | 2, _, z => exact Or.inr (by rw [Nat.add_comm]; exact z)
    | k + 3, hk, _ => exact absurd hk.1 (by omega)
def oI : Option Nat → Int32
  | none => -1
  | some t => nI t
theorem x_first_l (H : wg n S w) (D : wd1 n w) (U : rU w shu) (Y : qY n S w tra len frm tto wei fit way rid lon cel) (T : qTk n w p v6) (hs : ∀ t, t < n → p t = true → cL w t < 21 ∧ gN sea t = nI (cL w t)) : ∀ (f i : Nat), i + f = n → x_firstThrough_l3 sea fit way (mk5 p) ((v6 ||| shu) ^^^ (-1)) f (nI i) = oI (m_sfF w p f i)
  | 0, _, _ => rfl
  | f + 1, i, e => by
    have h5 := H.n5
    unfold x_firstThrough_l3 m_sfF
    rw [nI_1, x_first_l H D U Y T hs f (i + 1) (by omega), mk5_bit (by omega)]
    cases hp : p i
    · rw [if_pos (show (bif false then (1 : Int32) else 0) = 0 from rfl), if_neg (show ¬ (false : Bool) = true by decide)]
    · rw [if_neg (show ¬ (bif true then (1 : Int32) else 0) = 0 by decide), if_pos rfl]
      have z := hs i (by omega) hp
      have := x_pass (sea := sea) H D U Y T (t := i) (by omega) z.1 z.2
      by_cases c : m_cgo w p i = true
      · rw [if_pos c, if_pos (this.mpr c)]; rfl
      · rw [if_neg c, if_neg (fun y => c (this.mp y))]
theorem x_first (H : wg n S w) (D : wd1 n w) (U : rU w shu) (Y : qY n S w tra len frm tto wei fit way rid lon cel) (T : qTk n w p v6) (hs : ∀ t, t < n → p t = true → cL w t < 21 ∧ gN sea t = nI (cL w t)) : x_firstThrough sea (nI n) fit way (mk5 p) ((v6 ||| shu) ^^^ (-1)) = oI (m_sfF w p n 0) := by
  unfold x_firstThrough
  rw [lpN_n0 (by have := H.n5; omega)]
  exact x_first_l H D U Y T hs n 0 (Nat.zero_add n)
theorem sfF_none : ∀ {f i : Nat}, (∀ t, i ≤ t → t < i + f → p t = false) → m_sfF w p f i = none
  | 0, _, _ => rfl
  | f + 1, i, h => by
    unfold m_sfF
    rw [if_neg (by rw [h i (by omega) (by omega)]; decide)]
    exact sfF_none fun t h1 h2 => h t (by omega) (by omega)
theorem cnt5_0 {p : Nat → Bool} (h : cnt5 p = 0) : ∀ t, t < 5 → p t = false := by
  unfold cnt5 at h
  have key : ∀ b0 b1 b2 b3 b4 : Bool, cntb b0 b1 b2 b3 b4 = 0 → b0 = false ∧ b1 = false ∧ b2 = false ∧ b3 = false ∧ b4 = false := by decide
  obtain ⟨h0, h1, h2, h3, h4⟩ := key _ _ _ _ _ h
  intro t ht
  match t, ht with
  | 0, _ => exact h0
  | 1, _ => exact h1
  | 2, _ => exact h2
  | 3, _ => exact h3
  | 4, _ => exact h4
/-- the rounds: those left, the row -/
theorem x_rounds (H : wg n S w) (D : wd1 n w) (U : rU w shu) (Y : qY n S w tra len frm tto wei fit way rid lon cel) {v2 v3 : Int32} : ∀ (f : Nat) (p : Nat → Bool) (v6 v7 : Int32) (row tk : List Int32) (k : Nat), cnt5 p ≤ f → (∀ t, t < n → p t = true → cL w t < 21 ∧ gN sea t = nI (cL w t)) → qTk n w p v6 → row.length = 5 → tk.length = 5 → k + cnt5 p ≤ 5 → (∀ j, j < k → gN row j = gN tk j) →
    ∃ row' k', x_leftStanding_l108 shu (nI n) fit way v2 v3 f v7 (mk5 p) v6 sea row (nI k) = (mk5 (m_sfO w n (f + 1) p tk (nI k)).1, sea, row', nI k') ∧ row'.length = 5 ∧ k' ≤ 5 ∧ (m_sfO w n (f + 1) p tk (nI k)).2.2 = nI k' ∧ ∀ j, j < k' → gN row' j = gN (m_sfO w n (f + 1) p tk (nI k)).2.1 j
  | 0, p, v6, v7, row, tk, k, hc, hs, T, hr, htk, hk, hj => by
    have h5 := H.n5
    have hp := cnt5_0 (Nat.le_zero.mp hc)
    have e : m_sfO w n (0 + 1) p tk (nI k) = (p, tk, nI k) := by
      unfold m_sfO
      rw [sfF_none fun t h1 h2 => hp t (by omega)]
    rw [e]
    exact ⟨row, k, rfl, hr, by omega, rfl, hj⟩
  | f + 1, p, v6, v7, row, tk, k, hc, hs, T, hr, htk, hk, hj => by
    have h5 := H.n5
    unfold x_leftStanding_l108
    rw [x_first H D U Y T hs]
    by_cases c0 : mk5 p = 0
    · have hp := mk5_0.mp c0
      have e : m_sfO w n (f + 1 + 1) p tk (nI k) = (p, tk, nI k) := by
        unfold m_sfO
        rw [sfF_none fun t h1 h2 => hp t (by omega)]
      rw [if_pos c0, e]
      exact ⟨row, k, rfl, hr, by omega, rfl, hj⟩
    · rw [if_neg c0]
      cases hF : m_sfF w p n 0 with
      | none =>
        have e : m_sfO w n (f + 1 + 1) p tk (nI k) = (p, tk, nI k) := by
          unfold m_sfO
          rw [hF]
        rw [e, show oI none = -1 from rfl, if_pos rfl]
        exact ⟨row, k, rfl, hr, by omega, rfl, hj⟩
      | some s =>
        have hs1 := m_sfF_lt hF
        have hsn : s < n := by omega
        have hcl := cnt5_clr (p := p) (t := s) (by omega) hs1.2
        have z := hs s hsn hs1.2
        have e : m_sfO w n (f + 1 + 1) p tk (nI k) = m_sfO w n (f + 1) (fun i => p i && !Nat.beq i s) (sA tk (nI k) (nI s)) (nI k + 1) := by
          show (match m_sfF w p n 0 with
            | none => (p, tk, nI k)
            | some t => m_sfO w n (f + 1) (fun i => p i && !Nat.beq i t) (sA tk (nI k) (nI t)) (nI k + 1)) = _
          rw [hF]
        rw [e, show oI (some s) = nI s from rfl, if_neg (nI_nn (by omega))]
        dsimp only
        rw [mk5_clr (by omega), gA_n (by omega), z.2, nI_1, sA_n (by omega), sA_n (by omega)]
        refine x_rounds H D U Y f _ _ _ _ _ (k + 1) (by omega) (fun t h1 h2 => hs t h1 (Bool.and_eq_true_iff.mp h2).1) (fun c h32 => ?_) (by rw [List.length_set]; exact hr) (by rw [List.length_set]; exact htk) (by omega) (fun j h1 => ?_)
        · rw [tb_and, tb_not h32, tb_one (by omega) h32, Bool.and_eq_true_iff, T c h32, Bool.not_eq_true', decide_eq_false_iff_not]
          constructor
          · rintro ⟨⟨u, hu, hpu, hcu⟩, hne⟩
            refine ⟨u, hu, ?_, hcu⟩
            rw [hpu, Bool.true_and, Bool.not_eq_true']
            exact Bool.eq_false_iff.mpr (fun y => by rw [Nat.beq_eq.mp y] at hcu; exact hne hcu)
          · rintro ⟨u, hu, hpu, hcu⟩
            obtain ⟨g1, g2⟩ := Bool.and_eq_true_iff.mp hpu
            refine ⟨⟨u, hu, g1, hcu⟩, fun y => ?_⟩
            have hus : u ≠ s := fun q => by rw [q, Nat.beq_eq.mpr rfl] at g2; cases g2
            exact D s u hsn hu (fun q => hus q.symm) z.1 (by omega)
        · by_cases d : j = k
          · rw [d, gN_eq (by omega), gN_eq (by omega)]
          · rw [gN_ne (by omega), gN_ne (by omega)]; exact hj j (by omega)
end LEFT

/-! locals and stack of JB: a stack int may say from which local it was read -/
abbrev jb_L : Type := List (Nat × jb_V)
abbrev jb_S : Type := List (jb_V × Option Nat)
def jb_ld : jb_L → Nat → Option jb_V
  | [], _ => none
  | (i, t) :: r, k => cond (Nat.beq i k) (some t) (jb_ld r k)
def jb_lv (G : List Nat) (L : jb_L) (lv : J_L) : Prop := ∀ q ∈ L, ∃ v : Value, j_ld lv q.1 = some v ∧ jb_v G q.2 v
theorem jb_ld_mem {i : Nat} {t : jb_V} : ∀ {L : jb_L}, jb_ld L i = some t → (i, t) ∈ L
  | [], h => by cases h
  | (j, u) :: r, h => by
    unfold jb_ld at h
    cases hb : Nat.beq j i with
    | true =>
      rw [hb, cond_true] at h
      cases h
      rw [Nat.eq_of_beq_eq_true hb]
      exact List.mem_cons_self
    | false =>
      rw [hb, cond_false] at h
      exact List.mem_cons_of_mem _ (jb_ld_mem h)
def jb_s1 (G : List Nat) (lv : J_L) (q : jb_V × Option Nat) (v : Value) : Prop := jb_v G q.1 v ∧ ∀ i : Nat, q.2 = some i → j_ld lv i = some v ∧ ∃ x : Int32, v = .int x
def jb_st (G : List Nat) (lv : J_L) : jb_S → List Value → Prop
  | [], [] => True
  | q :: S, v :: st => jb_s1 G lv q v ∧ jb_st G lv S st
  | _, _ => False
theorem jb_st_len {G : List Nat} {lv : J_L} : ∀ {S : jb_S} {st : List Value}, jb_st G lv S st → st.length = S.length
  | [], [], _ => rfl
  | q :: S, v :: st, h => by
    rw [List.length_cons, List.length_cons, jb_st_len h.2]
  | [], v :: st, h => h.elim
  | q :: S, [], h => h.elim
theorem jb_st_cons {G : List Nat} {lv : J_L} {q : jb_V × Option Nat} {S : jb_S} {st : List Value} (h : jb_st G lv (q :: S) st) : ∃ (v : Value) (stJ : List Value), st = v :: stJ ∧ jb_s1 G lv q v ∧ jb_st G lv S stJ := by
  cases st with
  | nil => exact h.elim
  | cons v stJ => exact ⟨v, stJ, rfl, h.1, h.2⟩
theorem jb_int {G : List Nat} {q : Int × Int} {v : Value} (h : jb_v G (.inl q) v) : ∃ x : Int32, v = .int x ∧ jb_i q x := by
  cases v <;> first | exact h.elim | exact ⟨_, rfl, h⟩
theorem jb_long {G : List Nat} {v : Value} (h : jb_v G (.inr none) v) : ∃ x : Int64, v = .long x := by
  cases v <;> first | exact h.elim | exact ⟨_, rfl⟩
theorem jb_ref {G : List Nat} {k : Nat} {v : Value} (h : jb_v G (.inr (some (k, false))) v) : ∃ a : Nat, v = .ref a ∧ G[a]? = some k := by
  cases v <;> first | exact h.elim | exact ⟨_, rfl, h⟩ | exact absurd h Bool.false_ne_true
/-- a local is written: what is said of the others stays, but of a long's neighbour -/
theorem jb_ld_filter {p : Nat × Value → Bool} {k : Nat} {w : Value} : ∀ {lv : J_L}, j_ld lv k = some w → (∀ q : Nat × Value, q.1 = k → q.2 = w → p q = true) → j_ld (lv.filter p) k = some w
  | [], h, _ => by cases h
  | (i, v) :: r, h, hp => by
    unfold j_ld at h
    by_cases hi : i = k
    · rw [if_pos hi] at h
      cases h
      rw [List.filter_cons, if_pos (hp (i, w) hi rfl)]
      unfold j_ld
      rw [if_pos hi]
    · rw [if_neg hi] at h
      have ih := jb_ld_filter (p := p) h hp
      rw [List.filter_cons]
      split
      · unfold j_ld
        rw [if_neg hi]
        exact ih
      · exact ih
theorem jb_ld_s1 {lv : J_L} {i k : Nat} {v w : Value} (hk : k ≠ i) (hw : w.category ≠ 2) (h : j_ld lv k = some w) : j_ld (j_s1 i v lv) k = some w := by
  unfold j_s1 j_ld
  rw [if_neg (fun e => hk e.symm)]
  refine jb_ld_filter h ?_
  rintro ⟨q1, q2⟩ rfl rfl
  simp [hk, hw]
theorem jb_ld_s1' {lv : J_L} {i : Nat} {v : Value} : j_ld (j_s1 i v lv) i = some v := by
  unfold j_s1 j_ld
  rw [if_pos rfl]
theorem jb_ld_s2 {lv : J_L} {i k : Nat} {v w : Value} (hk : k ≠ i) (hk2 : k ≠ i + 1) (hw : w.category ≠ 2) (h : j_ld lv k = some w) : j_ld (j_s2 i v lv) k = some w := by
  unfold j_s2 j_ld
  rw [if_neg (fun e => hk e.symm)]
  refine jb_ld_filter h ?_
  rintro ⟨q1, q2⟩ rfl rfl
  simp [hk, hk2, hw]
def jb_isL : jb_V → Bool
  | .inr none => true
  | _ => false
theorem jb_cat {G : List Nat} {t : jb_V} {v : Value} (ht : jb_isL t = false) (h : jb_v G t v) : v.category ≠ 2 := by
  rcases t with q | _ | q
  · cases v <;> first | exact h.elim | (show (1 : Nat) ≠ 2; decide)
  · cases ht
  · cases v <;> first | exact h.elim | (show (1 : Nat) ≠ 2; decide)
/-- the locals behind a store of one word: longs are forgotten but where they are written themselves -/
def jb_sto (i : Nat) (t : jb_V) (L : jb_L) : jb_L := (i, t) :: L.filter (fun q => !(Nat.beq q.1 i) && !(Nat.beq q.1 (i + 1) && jb_isL t) && !jb_isL q.2)
theorem jb_ne {a b : Nat} (h : Nat.beq a b = false) : a ≠ b := fun e => by
  subst e
  rw [Nat.beq_refl] at h
  cases h
theorem jb_sto_1 {G : List Nat} {L : jb_L} {lv : J_L} {i : Nat} {t : jb_V} {v : Value} (hL : jb_lv G L lv) (ht : jb_isL t = false) (hv : jb_v G t v) : jb_lv G (jb_sto i t L) (j_s1 i v lv) := by
  intro q hq
  rcases List.mem_cons.mp hq with rfl | hq
  · exact ⟨v, jb_ld_s1', hv⟩
  · obtain ⟨h1, h2⟩ := List.mem_filter.mp hq
    simp only [Bool.and_eq_true, Bool.not_eq_true'] at h2
    obtain ⟨⟨h2, -⟩, h3⟩ := h2
    obtain ⟨w, w1, w2⟩ := hL q h1
    exact ⟨w, jb_ld_s1 (jb_ne h2) (jb_cat h3 w2) w1, w2⟩
theorem jb_sto_2 {G : List Nat} {L : jb_L} {lv : J_L} {i : Nat} {v : Value} (hL : jb_lv G L lv) (hv : jb_v G (.inr none) v) : jb_lv G (jb_sto i (.inr none) L) (j_s2 i v lv) := by
  intro q hq
  rcases List.mem_cons.mp hq with rfl | hq
  · exact ⟨v, by unfold j_s2 j_ld; rw [if_pos rfl], hv⟩
  · obtain ⟨h1, h2⟩ := List.mem_filter.mp hq
    simp only [Bool.and_eq_true, Bool.not_eq_true'] at h2
    obtain ⟨⟨h2, h4⟩, h3⟩ := h2
    obtain ⟨w, w1, w2⟩ := hL q h1
    have h4 : Nat.beq q.1 (i + 1) = false := by simpa [jb_isL] using h4
    exact ⟨w, jb_ld_s2 (jb_ne h2) (jb_ne h4) (jb_cat h3 w2) w1, w2⟩
/-- the stack behind a store: nothing on it is known to be the local's any more -/
def jb_cut (i : Nat) (S : jb_S) : jb_S := S.map fun q => (q.1, match q.2 with
  | some j => bif Nat.beq j i || Nat.beq j (i + 1) then none else some j
  | none => none)
theorem jb_cut_1 {G : List Nat} {lv : J_L} {i : Nat} {v : Value} : ∀ {S : jb_S} {st : List Value}, jb_st G lv S st → jb_st G (j_s1 i v lv) (jb_cut i S) st
  | [], [], _ => trivial
  | (t, o) :: S, w :: st, h => by
    refine ⟨⟨h.1.1, fun j hj => ?_⟩, jb_cut_1 h.2⟩
    cases o with
    | none => cases hj
    | some k =>
      have hj : (bif Nat.beq k i || Nat.beq k (i + 1) then none else some k) = some j := hj
      cases hb : Nat.beq k i || Nat.beq k (i + 1) with
      | true => rw [hb] at hj; cases hj
      | false =>
        rw [hb] at hj
        cases hj
        obtain ⟨x1, x2⟩ := Bool.or_eq_false_iff.mp hb
        obtain ⟨y1, x, y2⟩ := h.1.2 j rfl
        exact ⟨jb_ld_s1 (jb_ne x1) (by rw [y2]; show (1 : Nat) ≠ 2; decide) y1, x, y2⟩
  | [], v :: st, h => h.elim
  | q :: S, [], h => h.elim
theorem jb_cut_2 {G : List Nat} {lv : J_L} {i : Nat} {v : Value} : ∀ {S : jb_S} {st : List Value}, jb_st G lv S st → jb_st G (j_s2 i v lv) (jb_cut i S) st
  | [], [], _ => trivial
  | (t, o) :: S, w :: st, h => by
    refine ⟨⟨h.1.1, fun j hj => ?_⟩, jb_cut_2 h.2⟩
    cases o with
    | none => cases hj
    | some k =>
      have hj : (bif Nat.beq k i || Nat.beq k (i + 1) then none else some k) = some j := hj
      cases hb : Nat.beq k i || Nat.beq k (i + 1) with
      | true => rw [hb] at hj; cases hj
      | false =>
        rw [hb] at hj
        cases hj
        obtain ⟨x1, x2⟩ := Bool.or_eq_false_iff.mp hb
        obtain ⟨y1, x, y2⟩ := h.1.2 j rfl
        exact ⟨jb_ld_s2 (jb_ne x1) (jb_ne x2) (by rw [y2]; show (1 : Nat) ≠ 2; decide) y1, x, y2⟩
  | [], v :: st, h => h.elim
  | q :: S, [], h => h.elim

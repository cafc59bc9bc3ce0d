/-! JB: a checker of ranges over J. Types of values: an int from lo to hi; any long; a reference to a cell of kind k (or, if so said, null). Kinds of cells: an object (class, types of its fields), an array of ints or bytes (kind, length, segments: up to which place, from, to), of longs (length), of references (length, kind). The kinds of a heap's cells never change. -/
abbrev jb_V : Type := (Int × Int) ⊕ (Option (Nat × Bool))
abbrev jb_D : Type := (Nat × List jb_V) ⊕ ((Nat × Nat × List (Nat × Int × Int)) ⊕ (Nat ⊕ (Nat × Nat)))
abbrev jb_Ks : Type := List jb_D
def jb_v (G : List Nat) : jb_V → Value → Prop
  | .inl q, .int x => q.1 ≤ x.toInt ∧ x.toInt ≤ q.2
  | .inr none, .long _ => True
  | .inr (some q), .ref a => G[a]? = some q.1
  | .inr (some q), .null => q.2 = true
  | _, _ => False
def jb_sg : List (Nat × Int × Int) → Nat → Option (Int × Int)
  | [], _ => none
  | (u, q) :: r, i => cond (Nat.ble (i + 1) u) (some q) (jb_sg r i)
def jb_c (G : List Nat) : jb_D → J_C → Prop
  | .inl d, .inl f => f.1 = d.1 ∧ f.2.length = d.2.length ∧ ∀ (j : Nat) (t : jb_V) (v : Value), d.2[j]? = some t → f.2[j]? = some v → jb_v G t v
  | .inr (.inl d), .inr (.inl f) => f.1 = d.1 ∧ f.2.length = d.2.1 ∧ ∀ (i : Nat) (x : Int32) (q : Int × Int), f.2[i]? = some x → jb_sg d.2.2 i = some q → q.1 ≤ x.toInt ∧ x.toInt ≤ q.2
  | .inr (.inr (.inl n)), .inr (.inr (.inl l)) => l.length = n
  | .inr (.inr (.inr d)), .inr (.inr (.inr l)) => l.length = d.1 ∧ ∀ (i : Nat) (q : Option Nat), l[i]? = some q → ∃ a : Nat, q = some a ∧ G[a]? = some d.2
  | _, _ => False
/-- the heap is of these kinds -/
def jb_T (K : jb_Ks) (G : List Nat) (h : J_H) : Prop := h.length = G.length ∧ ∀ (a k : Nat) (d : jb_D), G[a]? = some k → K[k]? = some d → ∃ c : J_C, h[a]? = some c ∧ jb_c G d c
theorem jb_T.set {K : jb_Ks} {G : List Nat} {h : J_H} {a k : Nat} {d : jb_D} {c : J_C} (hT : jb_T K G h) (ha : G[a]? = some k) (hk : K[k]? = some d) (hc : jb_c G d c) : jb_T K G (h.set a c) := by
  refine ⟨by rw [List.length_set]; exact hT.1, fun b k' d' hb hk' => ?_⟩
  by_cases e : a = b
  · subst e
    rw [ha] at hb
    cases hb
    rw [hk] at hk'
    cases hk'
    have hlt : a < h.length := by
      rw [hT.1]
      exact (List.getElem?_eq_some_iff.mp ha).1
    exact ⟨c, List.getElem?_set_self hlt, hc⟩
  · rw [List.getElem?_set_ne e]
    exact hT.2 b k' d' hb hk'
/-- one type within another -/
def jb_le : jb_V → jb_V → Bool
  | .inl a, .inl b => decide (b.1 ≤ a.1) && decide (a.2 ≤ b.2)
  | .inr none, .inr none => true
  | .inr (some a), .inr (some b) => Nat.beq a.1 b.1 && (!a.2 || b.2)
  | _, _ => false
theorem jb_le_ok {G : List Nat} {a b : jb_V} {v : Value} (h : jb_le a b = true) (hv : jb_v G a v) : jb_v G b v := by
  unfold jb_le at h
  split at h
  · rename_i a b
    obtain ⟨h1, h2⟩ := Bool.and_eq_true_iff.mp h
    have h1 := of_decide_eq_true h1
    have h2 := of_decide_eq_true h2
    cases v <;> first | exact hv.elim | exact ⟨Int.le_trans h1 hv.1, Int.le_trans hv.2 h2⟩
  · exact hv
  · rename_i a b
    obtain ⟨h1, h2⟩ := Bool.and_eq_true_iff.mp h
    have h1 := Nat.eq_of_beq_eq_true h1
    cases v with
    | ref q => show G[q]? = some b.1; rw [← h1]; exact hv
    | null =>
      have hv : a.2 = true := hv
      rw [hv] at h2
      show b.2 = true
      simpa using h2
    | _ => exact hv.elim
  · cases h
/-- ints -/
def jb_full : Int × Int := (-2147483648, 2147483647)
def jb_fit (lo hi : Int) : Int × Int := bif decide (-2147483648 ≤ lo) && decide (hi ≤ 2147483647) then (lo, hi) else jb_full
abbrev jb_i (q : Int × Int) (x : Int32) : Prop := q.1 ≤ x.toInt ∧ x.toInt ≤ q.2
theorem jb_full_ok (x : Int32) : jb_i jb_full x := ⟨Int32.le_toInt x, by have h := Int32.toInt_lt x; show x.toInt ≤ 2147483647; omega⟩
theorem jb_fit_ok {lo hi : Int} {x : Int32} (h : -2147483648 ≤ lo → hi ≤ 2147483647 → lo ≤ x.toInt ∧ x.toInt ≤ hi) : jb_i (jb_fit lo hi) x := by
  unfold jb_fit
  cases hb : decide (-2147483648 ≤ lo) && decide (hi ≤ 2147483647) with
  | true =>
    obtain ⟨h1, h2⟩ := Bool.and_eq_true_iff.mp hb
    exact h (of_decide_eq_true h1) (of_decide_eq_true h2)
  | false => exact jb_full_ok x
theorem jb_bmod {z : Int} (h0 : -2147483648 ≤ z) (h1 : z ≤ 2147483647) : z.bmod 4294967296 = z := by
  unfold Int.bmod
  dsimp only
  split <;> omega
theorem jb_add {a b : Int × Int} {x y : Int32} (hx : jb_i a x) (hy : jb_i b y) : jb_i (jb_fit (a.1 + b.1) (a.2 + b.2)) (x + y) := by
  refine jb_fit_ok fun h1 h2 => ?_
  obtain ⟨x1, x2⟩ := hx
  obtain ⟨y1, y2⟩ := hy
  rw [Int32.toInt_add, show (2 : Nat) ^ 32 = 4294967296 from rfl, jb_bmod (by omega) (by omega)]
  omega
theorem jb_sub {a b : Int × Int} {x y : Int32} (hx : jb_i a x) (hy : jb_i b y) : jb_i (jb_fit (a.1 - b.2) (a.2 - b.1)) (x - y) := by
  refine jb_fit_ok fun h1 h2 => ?_
  obtain ⟨x1, x2⟩ := hx
  obtain ⟨y1, y2⟩ := hy
  rw [Int32.toInt_sub, show (2 : Nat) ^ 32 = 4294967296 from rfl, jb_bmod (by omega) (by omega)]
  omega
/-- times a known number that isn't negative -/
theorem jb_mul {a : Int × Int} {k : Int} {x y : Int32} (hk : 0 ≤ k) (hx : jb_i a x) (hy : y.toInt = k) : jb_i (jb_fit (a.1 * k) (a.2 * k)) (x * y) := by
  refine jb_fit_ok fun h1 h2 => ?_
  obtain ⟨x1, x2⟩ := hx
  have e1 : a.1 * k ≤ x.toInt * k := Int.mul_le_mul_of_nonneg_right x1 hk
  have e2 : x.toInt * k ≤ a.2 * k := Int.mul_le_mul_of_nonneg_right x2 hk
  rw [Int32.toInt_mul, show (2 : Nat) ^ 32 = 4294967296 from rfl, hy, jb_bmod (by omega) (by omega)]
  exact ⟨e1, e2⟩
/-- bits of what isn't negative -/
theorem jb_and {x y : Int32} (hy : 0 ≤ y.toInt) : 0 ≤ (x &&& y).toInt ∧ (x &&& y).toInt ≤ y.toInt := by
  have hb : y.toBitVec.msb = false := by
    rw [BitVec.msb_eq_false_iff_two_mul_lt]
    have h1 : y.toInt = y.toBitVec.toInt := rfl
    rw [h1, BitVec.toInt_eq_toNat_cond] at hy
    split at hy
    · assumption
    · omega
  have e1 : (x &&& y).toInt = ((x.toBitVec &&& y.toBitVec).toNat : Int) := by
    show (x.toBitVec &&& y.toBitVec).toInt = _
    rw [BitVec.toInt_eq_toNat_of_msb (by rw [BitVec.msb_and, hb, Bool.and_false])]
  have e2 : y.toInt = (y.toBitVec.toNat : Int) := by
    show y.toBitVec.toInt = _
    exact BitVec.toInt_eq_toNat_of_msb hb
  have e3 : (x.toBitVec &&& y.toBitVec).toNat ≤ y.toBitVec.toNat := by
    rw [BitVec.toNat_and]
    exact Nat.and_le_right
  rw [e1, e2]
  omega
theorem jb_and' {x y : Int32} (hx : 0 ≤ x.toInt) : 0 ≤ (x &&& y).toInt ∧ (x &&& y).toInt ≤ x.toInt := by
  rw [Int32.and_comm]
  exact jb_and hx
/-- what comes of two ints -/
def jb_bin (ins : Instr) (a b : Int × Int) : Option (Int × Int) :=
  bif decide (a.1 = a.2) && decide (b.1 = b.2) then (j_bin ins (Int32.ofInt a.1) (Int32.ofInt b.1)).map fun z => (z.toInt, z.toInt) else
  match ins with
  | .iadd => some (jb_fit (a.1 + b.1) (a.2 + b.2))
  | .isub => some (jb_fit (a.1 - b.2) (a.2 - b.1))
  | .imul => bif decide (b.1 = b.2) && decide (0 ≤ b.1) then some (jb_fit (a.1 * b.1) (a.2 * b.1)) else bif decide (a.1 = a.2) && decide (0 ≤ a.1) then some (jb_fit (b.1 * a.1) (b.2 * a.1)) else some jb_full
  | .iand => bif decide (0 ≤ b.1) then some (0, b.2) else bif decide (0 ≤ a.1) then some (0, a.2) else some jb_full
  | .ior => some jb_full
  | .ixor => some jb_full
  | .ishl => some jb_full
  | .ishr => some jb_full
  | .iushr => some jb_full
  | .idiv => bif decide (0 < b.1) then some jb_full else none
  | .irem => bif decide (0 < b.1) then some jb_full else none
  | _ => none
theorem jb_pin {a : Int × Int} {x : Int32} (h : a.1 = a.2) (hx : jb_i a x) : x = Int32.ofInt a.1 := by
  obtain ⟨h1, h2⟩ := hx
  have e : x.toInt = a.1 := by omega
  rw [← e, Int32.ofInt_toInt]
theorem jb_bin_ok {ins : Instr} {a b c : Int × Int} {x y : Int32} (h : jb_bin ins a b = some c) (hx : jb_i a x) (hy : jb_i b y) : ∃ z : Int32, j_bin ins x y = some z ∧ jb_i c z := by
  unfold jb_bin at h
  cases hp : decide (a.1 = a.2) && decide (b.1 = b.2) with
  | true =>
    rw [hp, cond_true] at h
    obtain ⟨p1, p2⟩ := Bool.and_eq_true_iff.mp hp
    obtain ⟨z, hz, e⟩ := Option.map_eq_some_iff.mp h
    cases e
    rw [jb_pin (of_decide_eq_true p1) hx, jb_pin (of_decide_eq_true p2) hy]
    exact ⟨z, hz, Int.le_refl _, Int.le_refl _⟩
  | false =>
    rw [hp, cond_false] at h
    split at h
    · cases h; exact ⟨_, rfl, jb_add hx hy⟩
    · cases h; exact ⟨_, rfl, jb_sub hx hy⟩
    · cases h1 : decide (b.1 = b.2) && decide (0 ≤ b.1) with
      | true =>
        rw [h1, cond_true] at h
        cases h
        obtain ⟨p1, p2⟩ := Bool.and_eq_true_iff.mp h1
        have e1 := of_decide_eq_true p1
        have e2 := of_decide_eq_true p2
        exact ⟨_, rfl, jb_mul e2 hx (by have := hy.1; have := hy.2; omega)⟩
      | false =>
        rw [h1, cond_false] at h
        cases h2 : decide (a.1 = a.2) && decide (0 ≤ a.1) with
        | true =>
          rw [h2, cond_true] at h
          cases h
          obtain ⟨p1, p2⟩ := Bool.and_eq_true_iff.mp h2
          have e1 := of_decide_eq_true p1
          have e2 := of_decide_eq_true p2
          refine ⟨_, rfl, ?_⟩
          rw [Int32.mul_comm]
          exact jb_mul e2 hy (by have := hx.1; have := hx.2; omega)
        | false =>
          rw [h2, cond_false] at h
          cases h
          exact ⟨_, rfl, jb_full_ok _⟩
    · cases h1 : decide (0 ≤ b.1) with
      | true =>
        rw [h1, cond_true] at h
        cases h
        have e1 := of_decide_eq_true h1
        obtain ⟨z1, z2⟩ := jb_and (x := x) (y := y) (by have := hy.1; omega)
        exact ⟨_, rfl, z1, Int.le_trans z2 hy.2⟩
      | false =>
        rw [h1, cond_false] at h
        cases h2 : decide (0 ≤ a.1) with
        | true =>
          rw [h2, cond_true] at h
          cases h
          have e1 := of_decide_eq_true h2
          obtain ⟨z1, z2⟩ := jb_and' (x := x) (y := y) (by have := hx.1; omega)
          exact ⟨_, rfl, z1, Int.le_trans z2 hx.2⟩
        | false =>
          rw [h2, cond_false] at h
          cases h
          exact ⟨_, rfl, jb_full_ok _⟩
    · cases h; exact ⟨_, rfl, jb_full_ok _⟩
    · cases h; exact ⟨_, rfl, jb_full_ok _⟩
    · cases h; exact ⟨_, rfl, jb_full_ok _⟩
    · cases h; exact ⟨_, rfl, jb_full_ok _⟩
    · cases h; exact ⟨_, rfl, jb_full_ok _⟩
    · cases h1 : decide (0 < b.1) with
      | true =>
        rw [h1, cond_true] at h
        cases h
        have e1 := of_decide_eq_true h1
        refine ⟨x / y, ?_, jb_full_ok _⟩
        show (if y = 0 then none else some (x / y)) = _
        rw [if_neg (fun e => by subst e; have := hy.1; have h0 : (0 : Int32).toInt = 0 := (by decide); omega)]
      | false => rw [h1, cond_false] at h; cases h
    · cases h1 : decide (0 < b.1) with
      | true =>
        rw [h1, cond_true] at h
        cases h
        have e1 := of_decide_eq_true h1
        refine ⟨x - x / y * y, ?_, jb_full_ok _⟩
        show (if y = 0 then none else some (x - x / y * y)) = _
        rw [if_neg (fun e => by subst e; have := hy.1; have h0 : (0 : Int32).toInt = 0 := (by decide); omega)]
      | false => rw [h1, cond_false] at h; cases h
    · cases h

/-! JC: the stack -/
abbrev jc_S : Type := List jc_v
def jc_st (r : jc_R) (n : Nat) : jc_S → List Value → Prop
  | [], [] => True
  | s :: S, v :: st => jc_val r n s v ∧ jc_st r n S st
  | _, _ => False
theorem jc_st.up {r r' : jc_R} {n n' : Nat} (e : jc_ext n r r') (hn : n ≤ n') : ∀ {S : jc_S} {st : List Value}, jc_st r n S st → jc_st r' n' S st
  | [], [], _ => trivial
  | s :: S, v :: st, h => ⟨h.1.up e hn, jc_st.up e hn h.2⟩
  | [], _ :: _, h => h.elim
  | _ :: _, [], h => h.elim
theorem jc_st_cons {r : jc_R} {n : Nat} {s : jc_v} {S : jc_S} {st : List Value} (h : jc_st r n (s :: S) st) : ∃ v stJ, st = v :: stJ ∧ jc_val r n s v ∧ jc_st r n S stJ := by
  cases st with
  | nil => exact h.elim
  | cons v stJ => exact ⟨v, stJ, rfl, h.1, h.2⟩
def jc_isL : jc_v → Bool
  | .inr none => true
  | _ => false
theorem jc_cat {r : jc_R} {n : Nat} {s : jc_v} {v : Value} (h : jc_val r n s v) : v.category = bif jc_isL s then 2 else 1 := by
  rcases s with q | _ | _ | a
  · obtain ⟨x, rfl, -⟩ := h.int; rfl
  · obtain ⟨x, rfl⟩ := h.long; rfl
  · cases v <;> first | exact h.elim | rfl
  · have := h.ref; subst this; rfl
theorem jc_cat1 {r : jc_R} {n : Nat} {s : jc_v} {v : Value} (hs : jc_isL s = false) (h : jc_val r n s v) : v.category = 1 := by
  rw [jc_cat h, hs]
  rfl
/-- what comes of ints within bounds -/
def jc_bn (ins : Instr) (a b : Int × Int) : Option (Int × Int) := match ins with
  | .irem => bif jc_le 1 b.1 && (jc_le 0 a.1 && !(jc_le a.2 a.1 && jc_le b.2 b.1)) then some (0, jc_mn a.2 (b.2 - 1)) else jb_bin .irem a b
  | .idiv => bif jc_le 1 b.1 && (jc_le b.2 b.1 && (jc_le 0 a.1 && jc_le a.1 a.2)) then some (a.1 / b.1, a.2 / b.1) else jb_bin .idiv a b
  | .ior => bif jc_le 0 a.1 && (jc_le a.2 127 && (jc_le 0 b.1 && (jc_le b.2 127 && !(jc_le a.2 a.1 && jc_le b.2 b.1)))) then some (0, 127) else jb_bin .ior a b
  | i => jb_bin i a b
theorem jc_or7 {x y : Int32} (hx : 0 ≤ x.toInt) (hx2 : x.toInt ≤ 127) (hy : 0 ≤ y.toInt) (hy2 : y.toInt ≤ 127) : 0 ≤ (x ||| y).toInt ∧ (x ||| y).toInt ≤ 127 := by
  have hm : ∀ z : Int32, 0 ≤ z.toInt → z.toBitVec.msb = false ∧ z.toInt = (z.toBitVec.toNat : Int) := by
    intro z hz
    have hb : z.toBitVec.msb = false := by
      rw [BitVec.msb_eq_false_iff_two_mul_lt]
      have h1 : z.toInt = z.toBitVec.toInt := rfl
      rw [h1, BitVec.toInt_eq_toNat_cond] at hz
      split at hz
      · assumption
      · omega
    exact ⟨hb, BitVec.toInt_eq_toNat_of_msb hb⟩
  obtain ⟨x1, x2⟩ := hm x hx
  obtain ⟨y1, y2⟩ := hm y hy
  have e1 : (x ||| y).toInt = ((x.toBitVec ||| y.toBitVec).toNat : Int) := by
    show (x.toBitVec ||| y.toBitVec).toInt = _
    rw [BitVec.toInt_eq_toNat_of_msb (by rw [BitVec.msb_or, x1, y1, Bool.or_false])]
  have e2 : (x.toBitVec ||| y.toBitVec).toNat < 2 ^ 7 := by
    rw [BitVec.toNat_or]
    exact Nat.or_lt_two_pow (by omega) (by omega)
  rw [e1]
  omega
theorem jc_div {x y : Int32} (hx : 0 ≤ x.toInt) (hy : 0 < y.toInt) : (x / y).toInt = x.toInt / y.toInt := by
  have h2 := Int32.toInt_lt x
  have h1 : x.toInt / y.toInt ≤ x.toInt := Int.ediv_le_self _ hx
  have h0 : 0 ≤ x.toInt / y.toInt := Int.ediv_nonneg hx (Int.le_of_lt hy)
  rw [Int32.toInt_div, Int.tdiv_eq_ediv_of_nonneg hx, show (2 : Nat) ^ 32 = 4294967296 from rfl, jb_bmod (by omega) (by omega)]
theorem jc_bn_ok {ins : Instr} {a b c : Int × Int} {x y : Int32} (h : jc_bn ins a b = some c) (hx : jb_i a x) (hy : jb_i b y) : ∃ z : Int32, j_bin ins x y = some z ∧ jb_i c z := by
  unfold jc_bn at h
  split at h
  · cases hb : jc_le 1 b.1 && (jc_le 0 a.1 && !(jc_le a.2 a.1 && jc_le b.2 b.1)) with
    | false => rw [hb] at h; exact jb_bin_ok h hx hy
    | true =>
      rw [hb] at h
      cases h
      obtain ⟨b1, b2⟩ := Bool.and_eq_true_iff.mp hb
      have b2 := (Bool.and_eq_true_iff.mp b2).1
      have b1 := jc_le_t b1
      have b2 := jc_le_t b2
      obtain ⟨x1, x2⟩ := hx
      obtain ⟨y1, y2⟩ := hy
      have hy0 : 0 < y.toInt := by omega
      have hx0 : 0 ≤ x.toInt := by omega
      have e1 := jc_div hx0 hy0
      have e2 : (x - x / y * y).toInt = x.toInt % y.toInt := by
        have m1 := Int.emod_nonneg x.toInt (show y.toInt ≠ 0 by omega)
        have m2 := Int.emod_lt_of_pos x.toInt hy0
        have m3 := Int.mul_ediv_add_emod x.toInt y.toInt
        have m4 : x.toInt / y.toInt * y.toInt = x.toInt - x.toInt % y.toInt := by rw [Int.mul_comm]; omega
        have m5 : x.toInt % y.toInt ≤ x.toInt := by
          have : 0 ≤ y.toInt * (x.toInt / y.toInt) := Int.mul_nonneg (Int.le_of_lt hy0) (Int.ediv_nonneg hx0 (Int.le_of_lt hy0))
          omega
        have h2 := Int32.toInt_lt x
        rw [Int32.toInt_sub, Int32.toInt_mul, e1, m4, show (2 : Nat) ^ 32 = 4294967296 from rfl, jb_bmod (z := x.toInt - x.toInt % y.toInt) (by omega) (by omega), jb_bmod (by omega) (by omega)]
        omega
      refine ⟨x - x / y * y, ?_, ?_⟩
      · show (if y = 0 then none else some (x - x / y * y)) = _
        rw [if_neg (fun e => by subst e; have h0 : (0 : Int32).toInt = 0 := (by decide); omega)]
      · have m1 := Int.emod_nonneg x.toInt (show y.toInt ≠ 0 by omega)
        have m2 := Int.emod_lt_of_pos x.toInt hy0
        have m5 : x.toInt % y.toInt ≤ x.toInt := by
          have m3 := Int.mul_ediv_add_emod x.toInt y.toInt
          have : 0 ≤ y.toInt * (x.toInt / y.toInt) := Int.mul_nonneg (Int.le_of_lt hy0) (Int.ediv_nonneg hx0 (Int.le_of_lt hy0))
          omega
        show 0 ≤ _ ∧ _ ≤ jc_mn a.2 (b.2 - 1)
        rw [e2]
        exact ⟨m1, jc_mn_ok (by omega) (by omega)⟩
  · cases hb : jc_le 1 b.1 && (jc_le b.2 b.1 && (jc_le 0 a.1 && jc_le a.1 a.2)) with
    | false => rw [hb] at h; exact jb_bin_ok h hx hy
    | true =>
      rw [hb] at h
      cases h
      obtain ⟨b1, hb⟩ := Bool.and_eq_true_iff.mp hb
      obtain ⟨b2, hb⟩ := Bool.and_eq_true_iff.mp hb
      obtain ⟨b3, b4⟩ := Bool.and_eq_true_iff.mp hb
      have b1 := jc_le_t b1
      have b2 := jc_le_t b2
      have b3 := jc_le_t b3
      obtain ⟨x1, x2⟩ := hx
      obtain ⟨y1, y2⟩ := hy
      have ey : y.toInt = b.1 := by omega
      have hy0 : 0 < y.toInt := by omega
      refine ⟨x / y, ?_, ?_⟩
      · show (if y = 0 then none else some (x / y)) = _
        rw [if_neg (fun e => by subst e; have h0 : (0 : Int32).toInt = 0 := (by decide); omega)]
      · show a.1 / b.1 ≤ (x / y).toInt ∧ (x / y).toInt ≤ a.2 / b.1
        rw [jc_div (by omega) hy0, ey]
        exact ⟨Int.ediv_le_ediv (by omega) x1, Int.ediv_le_ediv (by omega) x2⟩
  · cases hb : jc_le 0 a.1 && (jc_le a.2 127 && (jc_le 0 b.1 && (jc_le b.2 127 && !(jc_le a.2 a.1 && jc_le b.2 b.1)))) with
    | false => rw [hb] at h; exact jb_bin_ok h hx hy
    | true =>
      rw [hb] at h
      cases h
      obtain ⟨b1, hb⟩ := Bool.and_eq_true_iff.mp hb
      obtain ⟨b2, hb⟩ := Bool.and_eq_true_iff.mp hb
      obtain ⟨b3, hb⟩ := Bool.and_eq_true_iff.mp hb
      obtain ⟨b4, -⟩ := Bool.and_eq_true_iff.mp hb
      have b1 := jc_le_t b1
      have b2 := jc_le_t b2
      have b3 := jc_le_t b3
      have b4 := jc_le_t b4
      obtain ⟨x1, x2⟩ := hx
      obtain ⟨y1, y2⟩ := hy
      exact ⟨x ||| y, rfl, jc_or7 (by omega) (by omega) (by omega) (by omega)⟩
  · exact jb_bin_ok h hx hy
/-- a new value within bounds -/
def jc_new (A : jc_A) (z : Int × Int) : jc_v × jc_A := bif jc_le z.1 z.2 && jc_le z.2 z.1 then (.inl (0, z.1), A) else (.inl (A.1, 0), (A.1 + 1, (A.1, z) :: A.2.1, A.2.2))
section JC6
variable {E : jc_E} {X : J_H → Prop} {r : jc_R} {t : jc_T} {A : jc_A} {h : J_H}
theorem jc_new_ok {z : Int × Int} {x : Int32} (hg : jc_g E X r t A h) (hx : jb_i z x) : ∃ r', jc_ext A.1 r r' ∧ A.1 ≤ (jc_new A z).2.1 ∧ jc_g E X r' t (jc_new A z).2 h ∧ jc_val r' (jc_new A z).2.1 (jc_new A z).1 (.int x) := by
  unfold jc_new
  cases hb : jc_le z.1 z.2 && jc_le z.2 z.1 with
  | true =>
    obtain ⟨b1, b2⟩ := Bool.and_eq_true_iff.mp hb
    have b1 := jc_le_t b1
    have b2 := jc_le_t b2
    refine ⟨r, jc_ext.rf, Nat.le_refl _, hg, hg.1.2.1, ?_⟩
    show x.toInt = r 0 + z.1
    rw [hg.1.1]
    obtain ⟨x1, x2⟩ := hx
    omega
  | false =>
    have e := jc_up_ext r A.1 x.toInt
    exact ⟨_, e, Nat.le_succ _, hg.up (n' := A.1 + 1) e (Nat.le_succ _) (hg.1.up hx), Nat.lt_succ_self _, by dsimp only; rw [jc_up_at]; omega⟩
/-- a known number -/
def jc_kn (B : jc_B) (b : Int × Int) : Option Int := bif jc_le b.1 b.2 && jc_le b.2 b.1 then some b.1 else none
def jc_32 (b : Int × Int) : Bool := jc_le (-2147483648) b.1 && jc_le b.2 2147483647
noncomputable def jc_op (ins : Instr) (A : jc_A) (p q : Nat × Int) : Option (jc_v × jc_A) := match jc_bd A.2.1 p, jc_bd A.2.1 q with
  | some a, some b => match ins with
    | .iadd => bif jc_le b.1 b.2 && (jc_le b.2 b.1 && jc_32 (a.1 + b.1, a.2 + b.1)) then some (.inl (p.1, p.2 + b.1), A) else bif jc_le a.1 a.2 && (jc_le a.2 a.1 && jc_32 (b.1 + a.1, b.2 + a.1)) then some (.inl (q.1, q.2 + a.1), A) else (jc_bn ins a b).map fun z => jc_new A z
    | .isub => bif jc_le b.1 b.2 && (jc_le b.2 b.1 && jc_32 (a.1 - b.1, a.2 - b.1)) then some (.inl (p.1, p.2 - b.1), A) else (jc_bn ins a b).map fun z => jc_new A z
    | _ => (jc_bn ins a b).map fun z => jc_new A z
  | _, _ => none
theorem jc_op_ok {ins : Instr} {p q : Nat × Int} {x y : Int32} {s : jc_v} {A' : jc_A} (hg : jc_g E X r t A h) (hx : jc_val r A.1 (.inl p) (.int x)) (hy : jc_val r A.1 (.inl q) (.int y)) (hj : jc_op ins A p q = some (s, A')) : ∃ z r', j_bin ins x y = some z ∧ jc_ext A.1 r r' ∧ A.1 ≤ A'.1 ∧ jc_g E X r' t A' h ∧ jc_val r' A'.1 s (.int z) := by
  unfold jc_op at hj
  split at hj
  · rename_i a b ha hb
    have hxa := jc_bd_i hg.1 hx.2 ha
    have hyb := jc_bd_i hg.1 hy.2 hb
    have gen : ∀ {ins : Instr}, (jc_bn ins a b).map (fun z => jc_new A z) = some (s, A') → ∃ z r', j_bin ins x y = some z ∧ jc_ext A.1 r r' ∧ A.1 ≤ A'.1 ∧ jc_g E X r' t A' h ∧ jc_val r' A'.1 s (.int z) := by
      intro ins hm
      obtain ⟨z, hz, e⟩ := Option.map_eq_some_iff.mp hm
      obtain ⟨w, w1, w2⟩ := jc_bn_ok hz hxa hyb
      obtain ⟨r', e1, e2, e3, e4⟩ := jc_new_ok hg w2
      rw [e] at e2 e3 e4
      exact ⟨w, r', w1, e1, e2, e3, e4⟩
    obtain ⟨x0, x1⟩ := hx
    obtain ⟨y0, y1⟩ := hy
    obtain ⟨xa, xb⟩ := hxa
    obtain ⟨ya, yb⟩ := hyb
    split at hj
    · cases hc : jc_le b.1 b.2 && (jc_le b.2 b.1 && jc_32 (a.1 + b.1, a.2 + b.1)) with
      | true =>
        rw [hc] at hj
        cases hj
        obtain ⟨c1, hc⟩ := Bool.and_eq_true_iff.mp hc
        obtain ⟨c2, c3⟩ := Bool.and_eq_true_iff.mp hc
        obtain ⟨c3, c4⟩ := Bool.and_eq_true_iff.mp c3
        have c1 := jc_le_t c1
        have c2 := jc_le_t c2
        have c3 := jc_le_t c3
        have c4 := jc_le_t c4
        dsimp only at c3 c4
        refine ⟨x + y, r, rfl, jc_ext.rf, Nat.le_refl _, hg, x0, ?_⟩
        rw [Int32.toInt_add, show (2 : Nat) ^ 32 = 4294967296 from rfl, jb_bmod (by omega) (by omega)]
        dsimp only
        omega
      | false =>
        rw [hc, cond_false] at hj
        cases hc : jc_le a.1 a.2 && (jc_le a.2 a.1 && jc_32 (b.1 + a.1, b.2 + a.1)) with
        | true =>
          rw [hc] at hj
          cases hj
          obtain ⟨c1, hc⟩ := Bool.and_eq_true_iff.mp hc
          obtain ⟨c2, c3⟩ := Bool.and_eq_true_iff.mp hc
          obtain ⟨c3, c4⟩ := Bool.and_eq_true_iff.mp c3
          have c1 := jc_le_t c1
          have c2 := jc_le_t c2
          have c3 := jc_le_t c3
          have c4 := jc_le_t c4
          dsimp only at c3 c4
          refine ⟨x + y, r, rfl, jc_ext.rf, Nat.le_refl _, hg, y0, ?_⟩
          rw [Int32.toInt_add, show (2 : Nat) ^ 32 = 4294967296 from rfl, jb_bmod (by omega) (by omega)]
          dsimp only
          omega
        | false =>
          rw [hc, cond_false] at hj
          exact gen hj
    · cases hc : jc_le b.1 b.2 && (jc_le b.2 b.1 && jc_32 (a.1 - b.1, a.2 - b.1)) with
      | true =>
        rw [hc] at hj
        cases hj
        obtain ⟨c1, hc⟩ := Bool.and_eq_true_iff.mp hc
        obtain ⟨c2, c3⟩ := Bool.and_eq_true_iff.mp hc
        obtain ⟨c3, c4⟩ := Bool.and_eq_true_iff.mp c3
        have c1 := jc_le_t c1
        have c2 := jc_le_t c2
        have c3 := jc_le_t c3
        have c4 := jc_le_t c4
        dsimp only at c3 c4
        refine ⟨x - y, r, rfl, jc_ext.rf, Nat.le_refl _, hg, x0, ?_⟩
        rw [Int32.toInt_sub, show (2 : Nat) ^ 32 = 4294967296 from rfl, jb_bmod (by omega) (by omega)]
        dsimp only
        omega
      | false =>
        rw [hc, cond_false] at hj
        exact gen hj
    · exact gen hj
  · cases hj
/-- a constant -/
theorem jc_c32 {n : Int} (h0 : jc_32 (n, n) = true) : (Int32.ofInt n).toInt = n := by
  obtain ⟨c1, c2⟩ := Bool.and_eq_true_iff.mp h0
  have c1 := jc_le_t c1
  have c2 := jc_le_t c2
  dsimp only at c1 c2
  exact Int32.toInt_ofInt_of_le (by omega) (by omega)
theorem jc_con (hg : jc_g E X r t A h) {n : Int} {x : Int32} (hx : x.toInt = n) : jc_val r A.1 (.inl (0, n)) (.int x) := ⟨hg.1.2.1, by rw [hx, hg.1.1]; omega⟩
noncomputable def jc_stk (ins : Instr) (S : jc_S) (A : jc_A) : Option (jc_S × jc_A) := match ins, S with
  | .iconst n, S => bif jc_32 (n, n) then some (.inl (0, n) :: S, A) else none
  | .bipush n, S => bif jc_le (-128) n && jc_le n 127 then some (.inl (0, n) :: S, A) else none
  | .sipush n, S => bif jc_le (-32768) n && jc_le n 32767 then some (.inl (0, n) :: S, A) else none
  | .lconst _, S => some (.inr none :: S, A)
  | .dup, q :: S => bif jc_isL q then none else some (q :: q :: S, A)
  | .pop, q :: S => bif jc_isL q then none else some (S, A)
  | .dup2, q :: p :: S => bif jc_isL q || jc_isL p then none else some (q :: p :: q :: p :: S, A)
  | .i2l, .inl _ :: S => some (.inr none :: S, A)
  | .l2i, .inr none :: S => some ((jc_new A jb_full).1 :: S, (jc_new A jb_full).2)
  | .i2b, .inl _ :: S => some ((jc_new A (-128, 127)).1 :: S, (jc_new A (-128, 127)).2)
  | .ineg, .inl _ :: S => some ((jc_new A jb_full).1 :: S, (jc_new A jb_full).2)
  | .lcmp, .inr none :: .inr none :: S => some ((jc_new A jb_full).1 :: S, (jc_new A jb_full).2)
  | i, .inl b :: .inl a :: S => (match jc_op i A a b with
    | some (s, A') => some (s :: S, A')
    | none => none)
  | i, .inr none :: .inr none :: S => bif jb_lbin i then some (.inr none :: S, A) else none
  | i, .inl _ :: .inr none :: S => bif jb_lsh i then some (.inr none :: S, A) else none
  | _, _ => none
set_option maxHeartbeats 4000000 in
theorem jc_stk_ok {ins : Instr} {S S' : jc_S} {A' : jc_A} {st : List Value} (hg : jc_g E X r t A h) (hS : jc_st r A.1 S st) (hj : jc_stk ins S A = some (S', A')) : ∃ stJ r', j_stk ins st = some stJ ∧ jc_ext A.1 r r' ∧ A.1 ≤ A'.1 ∧ jc_g E X r' t A' h ∧ jc_st r' A'.1 S' stJ := by
  unfold jc_stk at hj
  split at hj
  · rename_i n
    cases hb : jc_32 (n, n) with
    | false => rw [hb] at hj; cases hj
    | true =>
      rw [hb] at hj
      cases hj
      exact ⟨_, r, rfl, jc_ext.rf, Nat.le_refl _, hg, jc_con hg (jc_c32 hb), hS⟩
  · rename_i n
    cases hb : jc_le (-128) n && jc_le n 127 with
    | false => rw [hb] at hj; cases hj
    | true =>
      rw [hb] at hj
      cases hj
      obtain ⟨c1, c2⟩ := Bool.and_eq_true_iff.mp hb
      have c1 := jc_le_t c1
      have c2 := jc_le_t c2
      exact ⟨_, r, rfl, jc_ext.rf, Nat.le_refl _, hg, jc_con hg (by rw [Int8.toInt_toInt32]; exact Int8.toInt_ofInt_of_le (by omega) (by omega)), hS⟩
  · rename_i n
    cases hb : jc_le (-32768) n && jc_le n 32767 with
    | false => rw [hb] at hj; cases hj
    | true =>
      rw [hb] at hj
      cases hj
      obtain ⟨c1, c2⟩ := Bool.and_eq_true_iff.mp hb
      have c1 := jc_le_t c1
      have c2 := jc_le_t c2
      exact ⟨_, r, rfl, jc_ext.rf, Nat.le_refl _, hg, jc_con hg (by rw [Int16.toInt_toInt32]; exact Int16.toInt_ofInt_of_le (by omega) (by omega)), hS⟩
  · cases hj
    exact ⟨_, r, rfl, jc_ext.rf, Nat.le_refl _, hg, trivial, hS⟩
  · rename_i q S
    obtain ⟨v, stJ, rfl, h1, h2⟩ := jc_st_cons hS
    cases hb : jc_isL q with
    | true => rw [hb] at hj; cases hj
    | false =>
      rw [hb] at hj
      cases hj
      refine ⟨v :: v :: stJ, r, ?_, jc_ext.rf, Nat.le_refl _, hg, h1, h1, h2⟩
      show (if v.category = 1 then some (v :: v :: stJ) else none) = _
      rw [if_pos (jc_cat1 hb h1)]
  · rename_i q S
    obtain ⟨v, stJ, rfl, h1, h2⟩ := jc_st_cons hS
    cases hb : jc_isL q with
    | true => rw [hb] at hj; cases hj
    | false =>
      rw [hb] at hj
      cases hj
      refine ⟨stJ, r, ?_, jc_ext.rf, Nat.le_refl _, hg, h2⟩
      show (if v.category = 1 then some stJ else none) = _
      rw [if_pos (jc_cat1 hb h1)]
  · rename_i q p S
    obtain ⟨v, stJ, rfl, h1, h2⟩ := jc_st_cons hS
    obtain ⟨w, st'', rfl, h3, h4⟩ := jc_st_cons h2
    cases hb : jc_isL q || jc_isL p with
    | true => rw [hb] at hj; cases hj
    | false =>
      rw [hb] at hj
      cases hj
      obtain ⟨b1, b2⟩ := Bool.or_eq_false_iff.mp hb
      refine ⟨v :: w :: v :: w :: st'', r, ?_, jc_ext.rf, Nat.le_refl _, hg, h1, h3, h1, h3, h4⟩
      show (if v.category = 1 ∧ w.category = 1 then some (v :: w :: v :: w :: st'') else none) = _
      rw [if_pos ⟨jc_cat1 b1 h1, jc_cat1 b2 h3⟩]
  · obtain ⟨v, stJ, rfl, h1, h2⟩ := jc_st_cons hS
    obtain ⟨x, rfl, -⟩ := h1.int
    cases hj
    exact ⟨_, r, rfl, jc_ext.rf, Nat.le_refl _, hg, trivial, h2⟩
  · obtain ⟨v, stJ, rfl, h1, h2⟩ := jc_st_cons hS
    obtain ⟨x, rfl⟩ := h1.long
    cases hj
    obtain ⟨r', e1, e2, e3, e4⟩ := jc_new_ok hg (jb_full_ok x.toInt32)
    exact ⟨_, r', rfl, e1, e2, e3, e4, h2.up e1 e2⟩
  · obtain ⟨v, stJ, rfl, h1, h2⟩ := jc_st_cons hS
    obtain ⟨x, rfl, -⟩ := h1.int
    cases hj
    obtain ⟨r', e1, e2, e3, e4⟩ := jc_new_ok hg (jb_i8 x)
    exact ⟨_, r', rfl, e1, e2, e3, e4, h2.up e1 e2⟩
  · obtain ⟨v, stJ, rfl, h1, h2⟩ := jc_st_cons hS
    obtain ⟨x, rfl, -⟩ := h1.int
    cases hj
    obtain ⟨r', e1, e2, e3, e4⟩ := jc_new_ok hg (jb_full_ok (-x))
    exact ⟨_, r', rfl, e1, e2, e3, e4, h2.up e1 e2⟩
  · obtain ⟨v, stJ, rfl, h1, h2⟩ := jc_st_cons hS
    obtain ⟨w, st'', rfl, h3, h4⟩ := jc_st_cons h2
    obtain ⟨y, rfl⟩ := h1.long
    obtain ⟨x, rfl⟩ := h3.long
    cases hj
    obtain ⟨r', e1, e2, e3, e4⟩ := jc_new_ok hg (jb_full_ok (lg_cmp x y))
    exact ⟨_, r', rfl, e1, e2, e3, e4, h4.up e1 e2⟩
  · obtain ⟨v, stJ, rfl, h1, h2⟩ := jc_st_cons hS
    obtain ⟨w, st'', rfl, h3, h4⟩ := jc_st_cons h2
    obtain ⟨y, rfl, hy⟩ := h1.int
    obtain ⟨x, rfl, hx⟩ := h3.int
    split at hj
    · rename_i s A1 ho
      cases hj
      obtain ⟨z, r', hz, e1, e2, e3, e4⟩ := jc_op_ok hg hx hy ho
      refine ⟨.int z :: st'', r', ?_, e1, e2, e3, e4, h4.up e1 e2⟩
      unfold j_bin at hz
      split at hz
      all_goals first | (cases hz; rfl) | (split at hz
                                           · cases hz
                                           · rename_i hn
                                             cases hz
                                             simp [j_stk, j_bin, hn]) | cases hz
    · cases hj
  · obtain ⟨v, stJ, rfl, h1, h2⟩ := jc_st_cons hS
    obtain ⟨w, st'', rfl, h3, h4⟩ := jc_st_cons h2
    obtain ⟨y, rfl⟩ := h1.long
    obtain ⟨x, rfl⟩ := h3.long
    cases hb : jb_lbin ins with
    | false => rw [hb] at hj; cases hj
    | true =>
      rw [hb] at hj
      cases hj
      unfold jb_lbin at hb
      split at hb <;> first | exact ⟨_, r, rfl, jc_ext.rf, Nat.le_refl _, hg, trivial, h4⟩ | cases hb
  · obtain ⟨v, stJ, rfl, h1, h2⟩ := jc_st_cons hS
    obtain ⟨w, st'', rfl, h3, h4⟩ := jc_st_cons h2
    obtain ⟨y, rfl, -⟩ := h1.int
    obtain ⟨x, rfl⟩ := h3.long
    cases hb : jb_lsh ins with
    | false => rw [hb] at hj; cases hj
    | true =>
      rw [hb] at hj
      cases hj
      unfold jb_lsh at hb
      split at hb <;> first | exact ⟨_, r, rfl, jc_ext.rf, Nat.le_refl _, hg, trivial, h4⟩ | cases hb
  · cases hj
end JC6

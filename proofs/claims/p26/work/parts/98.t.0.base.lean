/-! lists of ints at numbers; loops that find the first one, the best one -/
def gN (l : List Int32) (i : Nat) : Int32 := l.getD i 0
def nV (x : Int32) : Nat := x.toNatClampNeg
theorem nV_n {n : Nat} (h : n < 2 ^ 31) : nV (nI n) = n := nI_clamp h
theorem gA_n {l : List Int32} {i : Nat} (h : i < 2 ^ 31) : gA l (nI i) = gN l i := by
  unfold gA gN
  rw [nI_clamp h]
theorem sA_n {l : List Int32} {i : Nat} {x : Int32} (h : i < 2 ^ 31) : sA l (nI i) x = l.set i x := by
  unfold sA
  rw [nI_clamp h]
theorem gN_eq {l : List Int32} {i : Nat} {x : Int32} (h : i < l.length) : gN (l.set i x) i = x := by
  unfold gN
  rw [List.getD_eq_getElem?_getD, List.getElem?_set_self h]
  rfl
theorem gN_ne {l : List Int32} {i j : Nat} {x : Int32} (h : i ≠ j) : gN (l.set i x) j = gN l j := by
  unfold gN
  rw [List.getD_eq_getElem?_getD, List.getElem?_set_ne h, ← List.getD_eq_getElem?_getD]
theorem gN_s {l : List Int32} {i j : Nat} {x : Int32} (h : i < l.length) : gN (l.set i x) j = if i = j then x else gN l j := by
  by_cases e : i = j
  · rw [if_pos e, ← e, gN_eq h]
  · rw [if_neg e, gN_ne e]
theorem nI_mul (a b : Nat) : nI a * nI b = nI (a * b) := (Int32.ofNat_mul a b).symm
theorem sub_nI {a b : Nat} (h : b ≤ a) : nI a - nI b = nI (a - b) := by
  obtain ⟨c, rfl⟩ : ∃ c, a = b + c := ⟨a - b, by omega⟩
  rw [← nI_add, Nat.add_sub_cancel_left, Int32.add_comm, Int32.add_sub_cancel]
theorem nI_sub1 {a : Nat} (h : 0 < a) : nI a - 1 = nI (a - 1) := sub_nI (b := 1) h
theorem nI_addn1 {a : Nat} (h : 0 < a) : nI a + (-1) = nI (a - 1) := by
  rw [← nI_sub1 h, Int32.sub_eq_add_neg]
theorem nI_nn {a : Nat} (h : a < 2 ^ 31) : ¬ nI a = -1 := by
  intro e
  have := congrArg Int32.toInt e
  rw [nI_toInt h, show (-1 : Int32).toInt = -1 from rfl] at this
  omega
theorem lpN_n0 {n : Nat} (h : n < 2 ^ 31) : lpN (nI n) 0 = n := by
  unfold lpN
  rw [nI_toInt h, show (0 : Int32).toInt = 0 from rfl]
  omega
theorem lpN_nn {n i : Nat} (h : n < 2 ^ 31) (hi : i < 2 ^ 31) : lpN (nI n) (nI i) = n - i := by
  unfold lpN
  rw [nI_toInt h, nI_toInt hi]
  omega
theorem iMn_n {a b : Nat} (ha : a < 2 ^ 31) (hb : b < 2 ^ 31) : iMn (nI a) (nI b) = nI (min a b) := by
  unfold iMn
  by_cases h : b < a
  · rw [if_pos ((nI_ltI hb ha).mpr h), Nat.min_eq_right (by omega)]
  · rw [if_neg (fun z => h ((nI_ltI hb ha).mp z)), Nat.min_eq_left (by omega)]
theorem iMx_n {a b : Nat} (ha : a < 2 ^ 31) (hb : b < 2 ^ 31) : iMx (nI a) (nI b) = nI (max a b) := by
  unfold iMx
  by_cases h : a < b
  · rw [if_pos ((nI_ltI ha hb).mpr h), Nat.max_eq_right (by omega)]
  · rw [if_neg (fun z => h ((nI_ltI ha hb).mp z)), Nat.max_eq_left (by omega)]
/-- the first number from i on, f of them, of which p holds -/
def fnd (p : Nat → Bool) : Nat → Nat → Int32
  | 0, _ => -1
  | f + 1, i => if p i = true then nI i else fnd p f (i + 1)
theorem fnd_none {p : Nat → Bool} : ∀ {f i : Nat}, (∀ t, i ≤ t → t < i + f → p t = false) → fnd p f i = -1
  | 0, _, _ => rfl
  | f + 1, i, h => by
    unfold fnd
    rw [if_neg (by rw [h i (Nat.le_refl i) (by omega)]; decide)]
    exact fnd_none fun t h1 h2 => h t (by omega) (by omega)
theorem fnd_some {p : Nat → Bool} {s : Nat} : ∀ {f i : Nat}, i ≤ s → s < i + f → p s = true → (∀ t, i ≤ t → t < s → p t = false) → fnd p f i = nI s
  | 0, _, h1, h2, _, _ => absurd h2 (by omega)
  | f + 1, i, h1, h2, h3, h4 => by
    unfold fnd
    by_cases e : i = s
    · rw [if_pos (by rw [e]; exact h3), e]
    · rw [if_neg (by rw [h4 i (Nat.le_refl i) (by omega)]; decide)]
      exact fnd_some (by omega) (by omega) h3 fun t h1 h2 => h4 t (by omega) h2
theorem fnd_one {p : Nat → Bool} {f s : Nat} (h2 : s < f) (h3 : p s = true) (h4 : ∀ t, t < f → p t = true → t = s) : fnd p f 0 = nI s :=
  fnd_some (Nat.zero_le _) (by omega) h3 fun t _ h => by
    cases e : p t with
    | false => rfl
    | true => exact absurd (h4 t (by omega) e) (by omega)
/-- what is found: none, or the first one -/
theorem fnd_or {p : Nat → Bool} : ∀ (f i : Nat), (fnd p f i = -1 ∧ ∀ t, i ≤ t → t < i + f → p t = false) ∨ ∃ s, i ≤ s ∧ s < i + f ∧ fnd p f i = nI s ∧ p s = true ∧ ∀ t, i ≤ t → t < s → p t = false
  | 0, i => Or.inl ⟨rfl, fun t h1 h2 => absurd h2 (by omega)⟩
  | f + 1, i => by
    cases e : p i with
    | true => exact Or.inr ⟨i, Nat.le_refl i, by omega, by unfold fnd; rw [if_pos e], e, fun t h1 h2 => absurd h2 (by omega)⟩
    | false =>
      have e1 : fnd p (f + 1) i = fnd p f (i + 1) := by
        show (if p i = true then nI i else fnd p f (i + 1)) = _
        rw [if_neg (by rw [e]; decide)]
      rw [e1]
      rcases fnd_or (p := p) f (i + 1) with ⟨h1, h2⟩ | ⟨s, h1, h2, h3, h4, h5⟩
      · refine Or.inl ⟨h1, fun t g1 g2 => ?_⟩
        by_cases z : t = i
        · rw [z]; exact e
        · exact h2 t (by omega) (by omega)
      · refine Or.inr ⟨s, by omega, by omega, h3, h4, fun t g1 g2 => ?_⟩
        by_cases z : t = i
        · rw [z]; exact e
        · exact h5 t (by omega) g2
theorem fnd_congr {p q : Nat → Bool} : ∀ {f i : Nat}, (∀ t, i ≤ t → t < i + f → p t = q t) → fnd p f i = fnd q f i
  | 0, _, _ => rfl
  | f + 1, i, h => by
    unfold fnd
    rw [h i (Nat.le_refl i) (by omega), fnd_congr fun t h1 h2 => h t (by omega) (by omega)]
theorem fnd_n {p : Nat → Bool} {f : Nat} (hf : f < 2 ^ 31) : fnd p f 0 = -1 ↔ ∀ t, t < f → p t = false := by
  constructor
  · intro h t ht
    rcases fnd_or (p := p) f 0 with ⟨h1, h2⟩ | ⟨s, h1, h2, h3, h4, h5⟩
    · exact h2 t (Nat.zero_le _) (by omega)
    · exact absurd (h3.symm.trans h) (nI_nn (by omega))
  · exact fun h => fnd_none fun t _ h2 => h t (by omega)
/-- the best one of those that are ok, 9: none -/
def bst (ok : Nat → Bool) (L : Nat → Int32) : Nat → Nat → Nat → Nat
  | 0, _, b => b
  | f + 1, i, b => bst ok L f (i + 1) (if ok i = true then (if b = 9 then i else if L i < L b then i else b) else b)
theorem bst_or {ok : Nat → Bool} {L : Nat → Int32} : ∀ (f i b : Nat), (b = 9 ∨ b < i ∧ ok b = true) → bst ok L f i b = 9 ∨ bst ok L f i b < i + f ∧ ok (bst ok L f i b) = true
  | 0, i, b, h => h
  | f + 1, i, b, h => by
    have := bst_or (ok := ok) (L := L) f (i + 1) (if ok i = true then (if b = 9 then i else if L i < L b then i else b) else b) (by
      by_cases e : ok i = true
      · rw [if_pos e]
        by_cases e2 : b = 9
        · rw [if_pos e2]; exact Or.inr ⟨by omega, e⟩
        · rw [if_neg e2]
          by_cases e3 : L i < L b
          · rw [if_pos e3]; exact Or.inr ⟨by omega, e⟩
          · rw [if_neg e3]
            rcases h with h | h
            · exact absurd h e2
            · exact Or.inr ⟨by omega, h.2⟩
      · rw [if_neg e]
        rcases h with h | h
        · exact Or.inl h
        · exact Or.inr ⟨by omega, h.2⟩)
    rw [show i + (f + 1) = i + 1 + f by omega]
    exact this
theorem bst_congr {ok ok' : Nat → Bool} {L L' : Nat → Int32} : ∀ {f i b : Nat}, (∀ k, i ≤ k → k < i + f → ok k = ok' k) → (∀ k, ok k = true → k < i + f → L k = L' k) → (b = 9 ∨ b < i ∧ ok b = true) → bst ok L f i b = bst ok' L' f i b
  | 0, _, _, _, _, _ => rfl
  | f + 1, i, b, h1, h2, h3 => by
    unfold bst
    have e : (if ok i = true then (if b = 9 then i else if L i < L b then i else b) else b) = (if ok' i = true then (if b = 9 then i else if L' i < L' b then i else b) else b) := by
      rw [h1 i (Nat.le_refl i) (by omega)]
      by_cases c : ok' i = true
      · rw [if_pos c, if_pos c]
        by_cases c2 : b = 9
        · rw [if_pos c2, if_pos c2]
        · have c3 : b < i ∧ ok b = true := by
            rcases h3 with h | h
            · exact absurd h c2
            · exact h
          rw [h2 i (by rw [h1 i (Nat.le_refl i) (by omega)]; exact c) (by omega), h2 b c3.2 (by omega)]
      · rw [if_neg c, if_neg c]
    rw [e]
    refine bst_congr (fun k g1 g2 => h1 k (by omega) (by omega)) (fun k g1 g2 => h2 k g1 (by omega)) ?_
    rw [← e]
    by_cases c : ok i = true
    · rw [if_pos c]
      by_cases c2 : b = 9
      · rw [if_pos c2]; exact Or.inr ⟨by omega, c⟩
      · rw [if_neg c2]
        by_cases c3 : L i < L b
        · rw [if_pos c3]; exact Or.inr ⟨by omega, c⟩
        · rw [if_neg c3]
          rcases h3 with h | h
          · exact absurd h c2
          · exact Or.inr ⟨by omega, h.2⟩
    · rw [if_neg c]
      rcases h3 with h | h
      · exact Or.inl h
      · exact Or.inr ⟨by omega, h.2⟩
theorem bst_no {ok : Nat → Bool} {L : Nat → Int32} : ∀ {f i b : Nat}, (∀ k, i ≤ k → k < i + f → ok k = false) → bst ok L f i b = b
  | 0, _, _, _ => rfl
  | f + 1, i, b, h => by
    unfold bst
    rw [if_neg (by rw [h i (Nat.le_refl i) (by omega)]; decide)]
    exact bst_no fun k h1 h2 => h k (by omega) (by omega)
theorem bst_add {ok : Nat → Bool} {L : Nat → Int32} : ∀ {f g i b : Nat}, bst ok L (f + g) i b = bst ok L g (i + f) (bst ok L f i b)
  | 0, g, i, b => by rw [Nat.zero_add]; rfl
  | f + 1, g, i, b => by
    rw [show f + 1 + g = (f + g) + 1 by omega]
    show bst ok L (f + g) (i + 1) _ = _
    rw [bst_add, show i + 1 + f = i + (f + 1) by omega]
    rfl
/-! bits -/
def tb (x : Int32) (c : Nat) : Bool := x.toBitVec.getLsbD c
theorem tb_and (x y : Int32) (c : Nat) : tb (x &&& y) c = (tb x c && tb y c) := by unfold tb; rw [Int32.toBitVec_and, BitVec.getLsbD_and]
theorem tb_or (x y : Int32) (c : Nat) : tb (x ||| y) c = (tb x c || tb y c) := by unfold tb; rw [Int32.toBitVec_or, BitVec.getLsbD_or]
theorem tb_xor (x y : Int32) (c : Nat) : tb (x ^^^ y) c = (tb x c ^^ tb y c) := by unfold tb; rw [Int32.toBitVec_xor, BitVec.getLsbD_xor]
theorem tb_m1 {c : Nat} (h : c < 32) : tb (-1) c = true := by
  have : ∀ c : Fin 32, tb (-1) c.val = true := by decide
  exact this ⟨c, h⟩
theorem tb_0 (c : Nat) : tb 0 c = false := by
  unfold tb
  rw [Int32.toBitVec_zero, BitVec.getLsbD_zero]
theorem tb_not {x : Int32} {c : Nat} (h : c < 32) : tb (x ^^^ (-1)) c = !tb x c := by rw [tb_xor, tb_m1 h, Bool.xor_true]
theorem tb_one {a c : Nat} (ha : a < 32) (hc : c < 32) : tb (1 <<< ((nI a) &&& 31)) c = decide (a = c) := by
  have : ∀ a c : Fin 32, tb (1 <<< ((nI a.val) &&& 31)) c.val = decide (a.val = c.val) := by decide +kernel
  exact this ⟨a, ha⟩ ⟨c, hc⟩
theorem tb_ext {x y : Int32} (h : ∀ c, c < 32 → tb x c = tb y c) : x = y := by
  apply Int32.toBitVec_inj.mp
  apply BitVec.eq_of_getLsbD_eq
  intro c hc
  exact h c hc
theorem tb_shr {x : Int32} {a c : Nat} (ha : a < 32) (h : a + c < 32) : tb (x >>> ((nI a) &&& 31)) c = tb x (a + c) := by
  unfold tb
  have e : ((nI a &&& 31).toBitVec.smod 32).toNat = a := by
    have : ∀ a : Fin 32, ((nI a.val &&& 31).toBitVec.smod 32).toNat = a.val := by decide +kernel
    exact this ⟨a, ha⟩
  rw [Int32.toBitVec_shiftRight]
  show (x.toBitVec.sshiftRight ((nI a &&& 31).toBitVec.smod 32).toNat).getLsbD c = _
  rw [e, BitVec.getLsbD_sshiftRight]
  rw [if_pos h]
  simp only [Bool.and_eq_right_iff_imp, Bool.not_eq_true', decide_eq_false_iff_not]
  intro _
  omega
theorem tb_bit {x : Int32} {a : Nat} (ha : a < 32) : (x >>> ((nI a) &&& 31)) &&& 1 = (if tb x a = true then 1 else 0) := by
  apply tb_ext
  intro c hc
  have h1 : tb 1 c = decide (0 = c) := tb_one (a := 0) (by decide) hc
  rw [tb_and, h1]
  by_cases e : 0 = c
  · rw [← e, tb_shr ha (by omega)]
    cases h : tb x a
    · rw [if_neg (by decide), tb_0]; rfl
    · rw [if_pos rfl]; rfl
  · rw [decide_eq_false e, Bool.and_false]
    split
    · rw [h1, decide_eq_false e]
    · rw [tb_0]
theorem tb_b0 {x : Int32} {a : Nat} (ha : a < 32) : (x >>> ((nI a) &&& 31)) &&& 1 = 0 ↔ tb x a = false := by
  rw [tb_bit ha]
  cases tb x a
  · simp
  · simp

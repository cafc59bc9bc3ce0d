/-! sets of at most five trains as bits -/
def mkb (b0 b1 b2 b3 b4 : Bool) : Int32 := (((bif b0 then 1 else 0) ||| (bif b1 then 2 else 0)) ||| ((bif b2 then 4 else 0) ||| (bif b3 then 8 else 0))) ||| (bif b4 then 16 else 0)
def mk5 (p : Nat → Bool) : Int32 := mkb (p 0) (p 1) (p 2) (p 3) (p 4)
theorem mk5_eq {p q : Nat → Bool} (h : ∀ i, i < 5 → p i = q i) : mk5 p = mk5 q := by
  unfold mk5
  rw [h 0 (by decide), h 1 (by decide), h 2 (by decide), h 3 (by decide), h 4 (by decide)]
theorem mk5_bit {p : Nat → Bool} {t : Nat} (ht : t < 5) : ((mk5 p) >>> ((nI t) &&& 31)) &&& 1 = (bif p t then 1 else 0 : Int32) := by
  match t, ht with
  | 0, _ =>
    show (mkb (p 0) (p 1) (p 2) (p 3) (p 4) >>> ((nI 0) &&& 31)) &&& 1 = (bif p 0 then 1 else 0 : Int32)
    generalize p 0 = b0; generalize p 1 = b1; generalize p 2 = b2; generalize p 3 = b3; generalize p 4 = b4
    revert b0 b1 b2 b3 b4; decide
  | 1, _ =>
    show (mkb (p 0) (p 1) (p 2) (p 3) (p 4) >>> ((nI 1) &&& 31)) &&& 1 = (bif p 1 then 1 else 0 : Int32)
    generalize p 0 = b0; generalize p 1 = b1; generalize p 2 = b2; generalize p 3 = b3; generalize p 4 = b4
    revert b0 b1 b2 b3 b4; decide
  | 2, _ =>
    show (mkb (p 0) (p 1) (p 2) (p 3) (p 4) >>> ((nI 2) &&& 31)) &&& 1 = (bif p 2 then 1 else 0 : Int32)
    generalize p 0 = b0; generalize p 1 = b1; generalize p 2 = b2; generalize p 3 = b3; generalize p 4 = b4
    revert b0 b1 b2 b3 b4; decide
  | 3, _ =>
    show (mkb (p 0) (p 1) (p 2) (p 3) (p 4) >>> ((nI 3) &&& 31)) &&& 1 = (bif p 3 then 1 else 0 : Int32)
    generalize p 0 = b0; generalize p 1 = b1; generalize p 2 = b2; generalize p 3 = b3; generalize p 4 = b4
    revert b0 b1 b2 b3 b4; decide
  | 4, _ =>
    show (mkb (p 0) (p 1) (p 2) (p 3) (p 4) >>> ((nI 4) &&& 31)) &&& 1 = (bif p 4 then 1 else 0 : Int32)
    generalize p 0 = b0; generalize p 1 = b1; generalize p 2 = b2; generalize p 3 = b3; generalize p 4 = b4
    revert b0 b1 b2 b3 b4; decide
theorem mk5_or {p : Nat → Bool} {t : Nat} (ht : t < 5) : mk5 p ||| (1 <<< ((nI t) &&& 31)) = mk5 (fun i => p i || Nat.beq i t) := by
  match t, ht with
  | 0, _ =>
    show mkb (p 0) (p 1) (p 2) (p 3) (p 4) ||| (1 <<< ((nI 0) &&& 31)) = mkb (p 0 || true) (p 1 || false) (p 2 || false) (p 3 || false) (p 4 || false)
    generalize p 0 = b0; generalize p 1 = b1; generalize p 2 = b2; generalize p 3 = b3; generalize p 4 = b4
    revert b0 b1 b2 b3 b4; decide
  | 1, _ =>
    show mkb (p 0) (p 1) (p 2) (p 3) (p 4) ||| (1 <<< ((nI 1) &&& 31)) = mkb (p 0 || false) (p 1 || true) (p 2 || false) (p 3 || false) (p 4 || false)
    generalize p 0 = b0; generalize p 1 = b1; generalize p 2 = b2; generalize p 3 = b3; generalize p 4 = b4
    revert b0 b1 b2 b3 b4; decide
  | 2, _ =>
    show mkb (p 0) (p 1) (p 2) (p 3) (p 4) ||| (1 <<< ((nI 2) &&& 31)) = mkb (p 0 || false) (p 1 || false) (p 2 || true) (p 3 || false) (p 4 || false)
    generalize p 0 = b0; generalize p 1 = b1; generalize p 2 = b2; generalize p 3 = b3; generalize p 4 = b4
    revert b0 b1 b2 b3 b4; decide
  | 3, _ =>
    show mkb (p 0) (p 1) (p 2) (p 3) (p 4) ||| (1 <<< ((nI 3) &&& 31)) = mkb (p 0 || false) (p 1 || false) (p 2 || false) (p 3 || true) (p 4 || false)
    generalize p 0 = b0; generalize p 1 = b1; generalize p 2 = b2; generalize p 3 = b3; generalize p 4 = b4
    revert b0 b1 b2 b3 b4; decide
  | 4, _ =>
    show mkb (p 0) (p 1) (p 2) (p 3) (p 4) ||| (1 <<< ((nI 4) &&& 31)) = mkb (p 0 || false) (p 1 || false) (p 2 || false) (p 3 || false) (p 4 || true)
    generalize p 0 = b0; generalize p 1 = b1; generalize p 2 = b2; generalize p 3 = b3; generalize p 4 = b4
    revert b0 b1 b2 b3 b4; decide
theorem mk5_clr {p : Nat → Bool} {t : Nat} (ht : t < 5) : mk5 p &&& ((1 <<< ((nI t) &&& 31)) ^^^ (-1)) = mk5 (fun i => p i && !Nat.beq i t) := by
  match t, ht with
  | 0, _ =>
    show mkb (p 0) (p 1) (p 2) (p 3) (p 4) &&& ((1 <<< ((nI 0) &&& 31)) ^^^ (-1)) = mkb (p 0 && !true) (p 1 && !false) (p 2 && !false) (p 3 && !false) (p 4 && !false)
    generalize p 0 = b0; generalize p 1 = b1; generalize p 2 = b2; generalize p 3 = b3; generalize p 4 = b4
    revert b0 b1 b2 b3 b4; decide
  | 1, _ =>
    show mkb (p 0) (p 1) (p 2) (p 3) (p 4) &&& ((1 <<< ((nI 1) &&& 31)) ^^^ (-1)) = mkb (p 0 && !false) (p 1 && !true) (p 2 && !false) (p 3 && !false) (p 4 && !false)
    generalize p 0 = b0; generalize p 1 = b1; generalize p 2 = b2; generalize p 3 = b3; generalize p 4 = b4
    revert b0 b1 b2 b3 b4; decide
  | 2, _ =>
    show mkb (p 0) (p 1) (p 2) (p 3) (p 4) &&& ((1 <<< ((nI 2) &&& 31)) ^^^ (-1)) = mkb (p 0 && !false) (p 1 && !false) (p 2 && !true) (p 3 && !false) (p 4 && !false)
    generalize p 0 = b0; generalize p 1 = b1; generalize p 2 = b2; generalize p 3 = b3; generalize p 4 = b4
    revert b0 b1 b2 b3 b4; decide
  | 3, _ =>
    show mkb (p 0) (p 1) (p 2) (p 3) (p 4) &&& ((1 <<< ((nI 3) &&& 31)) ^^^ (-1)) = mkb (p 0 && !false) (p 1 && !false) (p 2 && !false) (p 3 && !true) (p 4 && !false)
    generalize p 0 = b0; generalize p 1 = b1; generalize p 2 = b2; generalize p 3 = b3; generalize p 4 = b4
    revert b0 b1 b2 b3 b4; decide
  | 4, _ =>
    show mkb (p 0) (p 1) (p 2) (p 3) (p 4) &&& ((1 <<< ((nI 4) &&& 31)) ^^^ (-1)) = mkb (p 0 && !false) (p 1 && !false) (p 2 && !false) (p 3 && !false) (p 4 && !true)
    generalize p 0 = b0; generalize p 1 = b1; generalize p 2 = b2; generalize p 3 = b3; generalize p 4 = b4
    revert b0 b1 b2 b3 b4; decide
def cntb (b0 b1 b2 b3 b4 : Bool) : Nat := (bif b0 then 1 else 0) + (bif b1 then 1 else 0) + (bif b2 then 1 else 0) + (bif b3 then 1 else 0) + (bif b4 then 1 else 0)
def cnt5 (p : Nat → Bool) : Nat := cntb (p 0) (p 1) (p 2) (p 3) (p 4)
theorem cnt5_clr {p : Nat → Bool} {t : Nat} (ht : t < 5) (hp : p t = true) : cnt5 (fun i => p i && !Nat.beq i t) + 1 = cnt5 p := by
  match t, ht with
  | 0, _ =>
    show cntb (p 0 && !true) (p 1 && !false) (p 2 && !false) (p 3 && !false) (p 4 && !false) + 1 = cntb (p 0) (p 1) (p 2) (p 3) (p 4)
    revert hp
    generalize p 0 = b0; generalize p 1 = b1; generalize p 2 = b2; generalize p 3 = b3; generalize p 4 = b4
    revert b0 b1 b2 b3 b4; decide
  | 1, _ =>
    show cntb (p 0 && !false) (p 1 && !true) (p 2 && !false) (p 3 && !false) (p 4 && !false) + 1 = cntb (p 0) (p 1) (p 2) (p 3) (p 4)
    revert hp
    generalize p 0 = b0; generalize p 1 = b1; generalize p 2 = b2; generalize p 3 = b3; generalize p 4 = b4
    revert b0 b1 b2 b3 b4; decide
  | 2, _ =>
    show cntb (p 0 && !false) (p 1 && !false) (p 2 && !true) (p 3 && !false) (p 4 && !false) + 1 = cntb (p 0) (p 1) (p 2) (p 3) (p 4)
    revert hp
    generalize p 0 = b0; generalize p 1 = b1; generalize p 2 = b2; generalize p 3 = b3; generalize p 4 = b4
    revert b0 b1 b2 b3 b4; decide
  | 3, _ =>
    show cntb (p 0 && !false) (p 1 && !false) (p 2 && !false) (p 3 && !true) (p 4 && !false) + 1 = cntb (p 0) (p 1) (p 2) (p 3) (p 4)
    revert hp
    generalize p 0 = b0; generalize p 1 = b1; generalize p 2 = b2; generalize p 3 = b3; generalize p 4 = b4
    revert b0 b1 b2 b3 b4; decide
  | 4, _ =>
    show cntb (p 0 && !false) (p 1 && !false) (p 2 && !false) (p 3 && !false) (p 4 && !true) + 1 = cntb (p 0) (p 1) (p 2) (p 3) (p 4)
    revert hp
    generalize p 0 = b0; generalize p 1 = b1; generalize p 2 = b2; generalize p 3 = b3; generalize p 4 = b4
    revert b0 b1 b2 b3 b4; decide
theorem cntb_le : ∀ b0 b1 b2 b3 b4 : Bool, cntb b0 b1 b2 b3 b4 ≤ 5 := by decide
theorem cnt5_le (p : Nat → Bool) : cnt5 p ≤ 5 := cntb_le _ _ _ _ _
theorem nI_lt9 {a b : Nat} (ha : a < 2 ^ 31) (hb : b < 2 ^ 31) : nI a < nI b ↔ a < b := by
  rw [Int32.lt_iff_toInt_lt, nI_toInt ha, nI_toInt hb]
  omega
theorem nI_add9 (a b : Nat) : nI a + nI b = nI (a + b) := (Int32.ofNat_add a b).symm
theorem nI_one (a : Nat) : nI a + 1 = nI (a + 1) := nI_add9 a 1
theorem mkb_0 : ∀ b0 b1 b2 b3 b4 : Bool, mkb b0 b1 b2 b3 b4 = 0 ↔ (b0 = false ∧ b1 = false ∧ b2 = false ∧ b3 = false ∧ b4 = false) := by decide
theorem mk5_0 {p : Nat → Bool} : mk5 p = 0 ↔ ∀ t, t < 5 → p t = false := by
  unfold mk5
  rw [mkb_0]
  constructor
  · rintro ⟨h0, h1, h2, h3, h4⟩ t ht
    match t, ht with
    | 0, _ => exact h0
    | 1, _ => exact h1
    | 2, _ => exact h2
    | 3, _ => exact h3
    | 4, _ => exact h4
  · exact fun h => ⟨h 0 (by decide), h 1 (by decide), h 2 (by decide), h 3 (by decide), h 4 (by decide)⟩
theorem mk5_none : mk5 (fun _ => false) = 0 := by decide

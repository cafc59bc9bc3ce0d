/-! the reference's readers: what they come to -/
theorem mi_add (a b : Nat) : nI a + nI b = nI (a + b) := (Int32.ofNat_add a b).symm
theorem mi_mul (a b : Nat) : nI a * nI b = nI (a * b) := (Int32.ofNat_mul a b).symm
/-- what bad(k) notes -/
def bF (kd k : Int32) : Int32 := if kd = 1 then 1 else k
def W0 : Int64 := 21073896942
def W1 : Int64 := 21562670
def W2 : Int64 := 635383
def W3 : Int64 := 777297172
def ownM (w : Int64) : Bool := decide (w = W0) || decide (w = W1) || decide (w = W2) || decide (w = W3)
def nmM (kd : Int32) (w : Int64) : Bool := decide (kd = 2) && !ownM w
/-- good; fault, place; the token at hand; the text read; its names -/
abbrev rM : Type := Bool × (Int32 × Int32) × rK × List Int32 × List Int64
def mBad (k : Int32) (y : rK) (rd : List Int32) (rn : List Int64) : rM := (false, (bF y.2.1 k, y.2.2.1), y, rd, rn)
def mEnd (m : List Int32) (e : Nat) (F : Int32 × Int32) (y : rK) (rd : List Int32) (rn : List Int64) : rM := if y.2.1 = 4 then (true, F, mT m e y, rd, rn) else mBad 2 y rd rn
def mNum (m : List Int32) (e : Nat) (F : Int32 × Int32) (i : Nat) (lo hi : Int32) (y : rK) (rd : List Int32) (rn : List Int64) : rM :=
  if y.2.1 = 3 then (bif inB y.2.2.2.2 lo hi then (true, F, mT m e y, rd.set i y.2.2.2.2, rn) else mBad 3 y rd rn) else mBad 2 y rd rn
/-- whether one of f trains from t on has the name, or b -/
def sAm (rn : List Int64) (w : Int64) : Nat → Nat → Bool → Bool
  | 0, _, b => b
  | f + 1, t, b => sAm rn w f (t + 1) (b || decide (rn.getD (7 + t) 0 = w))
def mTk (rn : List Int64) (w : Int64) (ns nt : Nat) : Bool := sAm rn w nt 0 (!decide (sIx rn w ns 0 = -1))
def mName (m : List Int32) (e : Nat) (F : Int32 × Int32) (ns nt i : Nat) (y : rK) (rd : List Int32) (rn : List Int64) : rM :=
  bif nmM y.2.1 y.2.2.2.1 then (bif mTk rn y.2.2.2.1 ns nt then mBad 4 y rd rn else (true, F, mT m e y, rd, rn.set i y.2.2.2.1)) else mBad 2 y rd rn
def mKnown (m : List Int32) (e : Nat) (F : Int32 × Int32) (ns i : Nat) (u : Int32) (y : rK) (rd : List Int32) (rn : List Int64) : rM :=
  bif nmM y.2.1 y.2.2.2.1 then (bif decide (sIx rn y.2.2.2.1 ns 0 = -1) || decide (sIx rn y.2.2.2.1 ns 0 = u) then mBad 4 y rd rn else (true, F, mT m e y, rd.set i (sIx rn y.2.2.2.1 ns 0), rn)) else mBad 2 y rd rn
/-- one reading, then another -/
def mBind (R : rM) (k : rK → List Int32 → List Int64 → rM) : rM := bif R.1 then k R.2.2.1 R.2.2.2.1 R.2.2.2.2 else R
def mFin (m : List Int32) (e ns n : Nat) (F : Int32 × Int32) (y : rK) (rd : List Int32) (rn : List Int64) : rM := mEnd m e F y ((rd.set (8 * ns + 1) (nI n)).set 202 (nI (ns + 1))) rn
def mTr (m : List Int32) (e ns : Nat) (F : Int32 × Int32) : Nat → Nat → rK → List Int32 → List Int64 → rM
  | 0, n, y, rd, rn => if y.2.1 = 3 then (bif inB y.2.2.2.2 1 99 then mBad 5 y rd rn else mBad 3 y rd rn) else mFin m e ns n F y rd rn
  | f + 1, n, y, rd, rn => if n = 0 ∨ y.2.1 = 3 then mBind (mNum m e F (8 * ns + 2 + n) 1 99 y rd rn) (mTr m e ns F f (n + 1)) else mFin m e ns n F y rd rn
def mSt2 (m : List Int32) (e ns : Nat) (F : Int32 × Int32) (y : rK) (rd : List Int32) (rn : List Int64) : rM := mBind (mNum m e F (8 * ns) (if ns = 0 then 0 else 1) 30 y rd rn) (mTr m e ns F 3 0)
def mSt (m : List Int32) (e ns nt : Nat) (F : Int32 × Int32) (y : rK) (rd : List Int32) (rn : List Int64) : rM :=
  if ns = 7 then mBad 5 y rd rn else mBind (mName m e F ns nt ns (mT m e y) rd rn) (mSt2 m e ns F)
/-- what came and went: nothing yet -/
def mCw (t : Nat) : Nat → Nat → List Int32 → List Int32
  | 0, _, rd => rd
  | f + 1, s, rd => mCw t f (s + 1) ((rd.set (69 + 28 * t + s) (-1)).set (76 + 28 * t + s) (-1))
def mTe (m : List Int32) (e nt : Nat) (F : Int32 × Int32) (y : rK) (rd : List Int32) (rn : List Int64) : rM := mEnd m e F y ((mCw nt 7 0 rd).set 203 (nI (nt + 1))) rn
def mTw (m : List Int32) (e nt : Nat) (F : Int32 × Int32) (y : rK) (rd : List Int32) (rn : List Int64) : rM :=
  if y.2.1 = 2 ∧ y.2.2.2.1 = W3 then mBind (mNum m e F (61 + 28 * nt) 1 9 (mT m e y) rd rn) (mTe m e nt F) else mTe m e nt F y rd rn
def mTs (m : List Int32) (e nt : Nat) (F : Int32 × Int32) (y : rK) (rd : List Int32) (rn : List Int64) : rM :=
  if y.2.1 = 2 ∧ y.2.2.2.1 = W2 then mBind (mNum m e F (60 + 28 * nt) 0 3 (mT m e y) rd rn) (mTw m e nt F) else mTw m e nt F y rd rn
def mTm (m : List Int32) (e nt : Nat) (F : Int32 × Int32) (y : rK) (rd : List Int32) (rn : List Int64) : rM := mTs m e nt F y ((rd.set (60 + 28 * nt) 0).set (61 + 28 * nt) 1) rn
def mTn5 (m : List Int32) (e nt : Nat) (F : Int32 × Int32) (y : rK) (rd : List Int32) (rn : List Int64) : rM := mBind (mNum m e F (59 + 28 * nt) 0 199 y rd rn) (mTm m e nt F)
def mTn4 (m : List Int32) (e ns nt : Nat) (F : Int32 × Int32) (y : rK) (rd : List Int32) (rn : List Int64) : rM := mBind (mKnown m e F ns (58 + 28 * nt) (rd.getD (57 + 28 * nt) 0) y rd rn) (mTn5 m e nt F)
def mTn3 (m : List Int32) (e ns nt : Nat) (F : Int32 × Int32) (y : rK) (rd : List Int32) (rn : List Int64) : rM := mBind (mKnown m e F ns (57 + 28 * nt) (-1) y rd rn) (mTn4 m e ns nt F)
def mTn2 (m : List Int32) (e ns nt : Nat) (F : Int32 × Int32) (y : rK) (rd : List Int32) (rn : List Int64) : rM := mBind (mNum m e F (56 + 28 * nt) 1 99 y rd rn) (mTn3 m e ns nt F)
def mTn (m : List Int32) (e ns nt : Nat) (F : Int32 × Int32) (y : rK) (rd : List Int32) (rn : List Int64) : rM :=
  if nt = 5 then mBad 5 y rd rn else mBind (mName m e F ns nt (7 + nt) (mT m e y) rd rn) (mTn2 m e ns nt F)
def mLn (m : List Int32) (e ns nt : Nat) (F : Int32 × Int32) (y : rK) (rd : List Int32) (rn : List Int64) : rM :=
  if y.2.1 = 2 ∧ y.2.2.2.1 = W0 then mSt m e ns nt F y rd rn
  else if y.2.1 = 2 ∧ y.2.2.2.1 = W1 then mTn m e ns nt F y rd rn
  else mBad 2 y rd rn
/-- what a reading leaves: its place, the lengths; if it's good, fault, numbers of stations and trains -/
def w9N (p e : Nat) (F : Int32 × Int32) (ns nt : Nat) (R : rM) : Prop := wP p e R.2.2.1 ∧ R.2.2.2.1.length = 602 ∧ R.2.2.2.2.length = 12 ∧ (R.1 = true → R.2.1 = F ∧ R.2.2.2.1.getD 202 0 = nI ns ∧ R.2.2.2.1.getD 203 0 = nI nt)
theorem mi_ne {l : List Int32} {i j : Nat} {v : Int32} (h : i ≠ j) : (l.set i v).getD j 0 = l.getD j 0 := by
  rw [List.getD_eq_getElem?_getD, List.getElem?_set_ne h, ← List.getD_eq_getElem?_getD]
theorem wP.mT {p e : Nat} {m : List Int32} {y : rK} (h : wP p e y) : wP p e (mT m e y) := ⟨Nat.le_trans h.1 (tk_ge h.2), tkN_le h.2⟩
section WN
variable {p e ns nt : Nat} {F : Int32 × Int32} {m : List Int32} {y : rK} {rd : List Int32} {rn : List Int64}
theorem mBad_w {k : Int32} (hz : wP p e y) (hr : rd.length = 602) (hn : rn.length = 12) : w9N p e F ns nt (mBad k y rd rn) := ⟨hz, hr, hn, fun z => nomatch z⟩
theorem mNum_w {i : Nat} {lo hi : Int32} (hz : wP p e y) (hr : rd.length = 602) (hn : rn.length = 12) (hs : rd.getD 202 0 = nI ns) (ht : rd.getD 203 0 = nI nt) (hi9 : i ≠ 202 ∧ i ≠ 203) : w9N p e F ns nt (mNum m e F i lo hi y rd rn) := by
  unfold mNum
  split
  · cases inB y.2.2.2.2 lo hi with
    | true => exact ⟨hz.mT, by simp [hr], hn, fun _ => ⟨rfl, (mi_ne hi9.1).trans hs, (mi_ne hi9.2).trans ht⟩⟩
    | false => exact mBad_w hz hr hn
  · exact mBad_w hz hr hn
theorem mName_w {i : Nat} (hz : wP p e y) (hr : rd.length = 602) (hn : rn.length = 12) (hs : rd.getD 202 0 = nI ns) (ht : rd.getD 203 0 = nI nt) : w9N p e F ns nt (mName m e F ns nt i y rd rn) := by
  unfold mName
  cases nmM y.2.1 y.2.2.2.1 with
  | true =>
    cases mTk rn y.2.2.2.1 ns nt with
    | true => exact mBad_w hz hr hn
    | false => exact ⟨hz.mT, hr, by simp [hn], fun _ => ⟨rfl, hs, ht⟩⟩
  | false => exact mBad_w hz hr hn
theorem mKnown_w {i : Nat} {u : Int32} (hz : wP p e y) (hr : rd.length = 602) (hn : rn.length = 12) (hs : rd.getD 202 0 = nI ns) (ht : rd.getD 203 0 = nI nt) (hi9 : i ≠ 202 ∧ i ≠ 203) : w9N p e F ns nt (mKnown m e F ns i u y rd rn) := by
  unfold mKnown
  cases nmM y.2.1 y.2.2.2.1 with
  | true =>
    rw [cond_true]
    cases (decide (sIx rn y.2.2.2.1 ns 0 = -1) || decide (sIx rn y.2.2.2.1 ns 0 = u)) with
    | true => exact mBad_w hz hr hn
    | false => exact ⟨hz.mT, by simp [hr], hn, fun _ => ⟨rfl, (mi_ne hi9.1).trans hs, (mi_ne hi9.2).trans ht⟩⟩
  | false => exact mBad_w hz hr hn
end WN
theorem mCw_len {t : Nat} : ∀ (f s : Nat) (rd : List Int32), (mCw t f s rd).length = rd.length
  | 0, _, _ => rfl
  | f + 1, s, rd => by
    show (mCw t f (s + 1) _).length = _
    rw [mCw_len f (s + 1)]
    simp
theorem mCw_at {t j : Nat} (hj : ∀ s, s < 7 → 69 + 28 * t + s ≠ j ∧ 76 + 28 * t + s ≠ j) : ∀ (f s : Nat) (rd : List Int32), s + f = 7 → (mCw t f s rd).getD j 0 = rd.getD j 0
  | 0, _, _, _ => rfl
  | f + 1, s, rd, h => by
    show (mCw t f (s + 1) _).getD j 0 = _
    rw [mCw_at hj f (s + 1) _ (by omega), mi_ne (hj s (by omega)).2, mi_ne (hj s (by omega)).1]

/-! the reference's scanner: what it comes to -/
def bA (m : List Int32) (e p : Nat) : Int32 := if p < e then m.getD p 0 else -1
theorem bA_in {m : List Int32} {e p : Nat} (h : p < e) : bA m e p = m.getD p 0 := if_pos h
theorem bA_no {m : List Int32} {e p : Nat} (h : ¬ p < e) : bA m e p = -1 := if_neg h
/-- the reference's numbers of the kinds -/
def kM (k : Int32) : Int32 := if k = 0 then 0 else if k = 1 then 2 else if k = 2 then 3 else if k = 3 then 4 else 1
/-- the reference's code of n letters from p -/
def eM (l : List Int32) (p : Nat) : Nat → Int64
  | 0 => 0
  | n + 1 => (eM l p n <<< ((5 : Int32).toInt64 &&& 63)) ||| ((l.getD (p + n) 0).toInt64 - 96)
def tkWM (m : List Int32) (e p : Nat) (wo : Int64) : Int64 :=
  if e ≤ tkQ (cX m) e p then wo else bif sL (cX m (tkQ (cX m) e p)) then eM m (tkQ (cX m) e p) (min (sR sL (cX m) (e - tkQ (cX m) e p) (tkQ (cX m) e p) - tkQ (cX m) e p) 8) else wo
def tkDM (m : List Int32) (e p : Nat) (nu : Int32) : Int32 :=
  if e ≤ tkQ (cX m) e p then nu else bif sL (cX m (tkQ (cX m) e p)) then nu else bif sD (cX m (tkQ (cX m) e p)) then dX m (tkQ (cX m) e p) (min (sR sD (cX m) (e - tkQ (cX m) e p) (tkQ (cX m) e p) - tkQ (cX m) e p) 3) else nu
theorem mk_end {l : List Int32} {e p q : Nat} {wo : Int64} {nu : Int32} (hq : tkQ (cX l) e p = q) (h : e ≤ q) : kM (tkK (cX l) e p) = 0 ∧ tkN (cX l) e p = q ∧ tkWM l e p wo = wo ∧ tkDM l e p nu = nu := by
  unfold tkK tkN tkWM tkDM
  simp only [hq, if_pos h, and_self, and_true]
  rfl
theorem mk_let {l : List Int32} {e p q : Nat} {wo : Int64} {nu : Int32} (hq : tkQ (cX l) e p = q) (h : q < e) (hL : sL (cX l q) = true) : kM (tkK (cX l) e p) = (if sR sL (cX l) (e - q) q - q ≤ 8 then 2 else 1) ∧ tkN (cX l) e p = sR sL (cX l) (e - q) q ∧ tkWM l e p wo = eM l q (min (sR sL (cX l) (e - q) q - q) 8) ∧ tkDM l e p nu = nu := by
  unfold tkK tkN tkWM tkDM
  simp only [hq, if_neg (Nat.not_le.mpr h), hL, cond_true, and_self, and_true]
  split <;> rfl
theorem mk_dig {l : List Int32} {e p q : Nat} {wo : Int64} {nu : Int32} (hq : tkQ (cX l) e p = q) (h : q < e) (hL : sL (cX l q) = false) (hD : sD (cX l q) = true) : kM (tkK (cX l) e p) = (if sR sD (cX l) (e - q) q - q ≤ 3 then 3 else 1) ∧ tkN (cX l) e p = sR sD (cX l) (e - q) q ∧ tkWM l e p wo = wo ∧ tkDM l e p nu = dX l q (min (sR sD (cX l) (e - q) q - q) 3) := by
  unfold tkK tkN tkWM tkDM
  simp only [hq, if_neg (Nat.not_le.mpr h), hL, hD, cond_true, cond_false, and_self, and_true]
  split <;> rfl
theorem mk_oth {l : List Int32} {e p q : Nat} {wo : Int64} {nu : Int32} (hq : tkQ (cX l) e p = q) (h : q < e) (hL : sL (cX l q) = false) (hD : sD (cX l q) = false) : kM (tkK (cX l) e p) = (if cX l q = 59 then 4 else 1) ∧ tkN (cX l) e p = q + 1 ∧ tkWM l e p wo = wo ∧ tkDM l e p nu = nu := by
  unfold tkK tkN tkWM tkDM
  simp only [hq, if_neg (Nat.not_le.mpr h), hL, hD, cond_false, and_self, and_true]
  split <;> rfl
/-- the token behind the one at hand, the reference's -/
def mT (m : List Int32) (e : Nat) (y : rK) : rK := (tkN (cX m) e y.1, kM (tkK (cX m) e y.1), nI (tkQ (cX m) e y.1), tkWM m e y.1 y.2.2.2.1, tkDM m e y.1 y.2.2.2.2)

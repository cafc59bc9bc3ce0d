/-! scanners: what stands at a place, runs of a kind of byte -/
theorem sk_lt (x y : Int32) : j_cond .lt x y = decide (x.toInt < y.toInt) := decide_eq_decide.mpr Int32.lt_iff_toInt_lt
theorem jk_ge (x y : Int32) : j_cond .ge x y = decide (y.toInt ≤ x.toInt) := decide_eq_decide.mpr Int32.le_iff_toInt_le
theorem jk_gt (x y : Int32) : j_cond .gt x y = decide (y.toInt < x.toInt) := decide_eq_decide.mpr Int32.lt_iff_toInt_lt
theorem jk_le (x y : Int32) : j_cond .le x y = decide (x.toInt ≤ y.toInt) := decide_eq_decide.mpr Int32.le_iff_toInt_le
theorem jk_eq (x y : Int32) : j_cond .eq x y = decide (x.toInt = y.toInt) := decide_eq_decide.mpr ⟨fun z => by rw [z], fun z => Int32.toInt_inj.mp z⟩
theorem jk_ne (x y : Int32) : j_cond .ne x y = !decide (x.toInt = y.toInt) := congrArg Bool.not (decide_eq_decide.mpr ⟨fun z => by rw [z], fun z => Int32.toInt_inj.mp z⟩)
theorem jk_in {n m : Nat} (h : n < m) (hm : m < 2 ^ 31) : j_ix (nI n) m = true := by
  have h1 : (nI n).toNatClampNeg = n := nI_clamp (by omega)
  unfold j_ix
  rw [h1, decide_eq_false (nI_pos (by omega)), decide_eq_false (show ¬ m ≤ n by omega)]
  rfl
section JKARR
variable {P : j_P} {d mi pc : Nat} {lv : J_L} {st : List Value} {h h0 : J_H} {k : jk_K} {Q : Option Value → J_H → Prop}
theorem j_W.baldK {M : j_M} {a n : Nat} {l : List Int32} (hM : j_meth P mi = some M) (hc : j_code P mi pc = some .baload) (K : KN h k h0) (ha : jk_lk k a = some (.inr (.inl (1, l)))) (hn : n < l.length) (hl : l.length < 2 ^ 31) (kk : j_W P d mi (pc + 1) lv (.int (l.getD n 0) :: st) h Q) : j_W P d mi pc lv (.int (nI n) :: .ref a :: st) h Q := by
  have h1 : (nI n).toNatClampNeg = n := nI_clamp (by omega)
  refine j_W.one hM hc ⟨fun z => (by cases z), fun z => (by cases z)⟩ (pcJ := pc + 1) (lv' := lv) (stJ := .int (l.getD n 0) :: st) (h' := h) ?_ kk
  simp only [j_one, j_kd, j_ald, K.at ha, j_ln]
  rw [if_pos ⟨by decide, jk_in hn hl⟩, h1]
  rfl
theorem j_W.ialdK {M : j_M} {a n : Nat} {l : List Int32} (hM : j_meth P mi = some M) (hc : j_code P mi pc = some .iaload) (K : KN h k h0) (ha : jk_lk k a = some (.inr (.inl (0, l)))) (hn : n < l.length) (hl : l.length < 2 ^ 31) (kk : j_W P d mi (pc + 1) lv (.int (l.getD n 0) :: st) h Q) : j_W P d mi pc lv (.int (nI n) :: .ref a :: st) h Q := by
  have h1 : (nI n).toNatClampNeg = n := nI_clamp (by omega)
  exact j_W.iald hM hc (K.at ha) (jk_in hn hl) (by rw [h1]) kk
end JKARR
def sL (x : Int) : Bool := decide (97 ≤ x) && decide (x ≤ 122)
def sD (x : Int) : Bool := decide (48 ≤ x) && decide (x ≤ 57)
def sW (x : Int) : Bool := decide (x = 10) || decide (x = 32)
/-- from p on, over at most f bytes: the first place where P doesn't hold -/
def sR (P : Int → Bool) (c : Nat → Int) : Nat → Nat → Nat
  | 0, p => p
  | f + 1, p => bif P (c p) then sR P c f (p + 1) else p
theorem sR_t {P : Int → Bool} {c : Nat → Int} {f p : Nat} (h : P (c p) = true) : sR P c (f + 1) p = sR P c f (p + 1) := by
  show (bif P (c p) then sR P c f (p + 1) else p) = _
  rw [h]
  rfl
theorem sR_f {P : Int → Bool} {c : Nat → Int} {f p : Nat} (h : P (c p) = false) : sR P c (f + 1) p = p := by
  show (bif P (c p) then sR P c f (p + 1) else p) = _
  rw [h]
  rfl
theorem sR_ge (P : Int → Bool) (c : Nat → Int) : ∀ f p, p ≤ sR P c f p ∧ sR P c f p ≤ p + f
  | 0, p => ⟨Nat.le_refl _, Nat.le_refl _⟩
  | f + 1, p => by
    unfold sR
    cases P (c p) with
    | true => have := sR_ge P c f (p + 1); dsimp only [cond_true]; omega
    | false => dsimp only [cond_false]; omega
/-- the class's bytes -/
def cX (l : List Int32) (k : Nat) : Int := (l.getD k 0).toInt
/-- the class's code of n letters from p -/
def eX (l : List Int32) (p : Nat) : Nat → Int64
  | 0 => 0
  | n + 1 => (eX l p n <<< ((8 : Int32).toInt64 &&& 63)) ||| (l.getD (p + n) 0).toInt64
/-- the class's number of n digits from p -/
def dX (l : List Int32) (p : Nat) : Nat → Int32
  | 0 => 0
  | n + 1 => 10 * dX l p n + l.getD (p + n) 0 - 48
theorem sk_sub {p q : Nat} (h : p ≤ q) (hq : q < 2 ^ 30) : (nI q - nI p).toInt = ((q - p : Nat) : Int) := by
  have e1 : nI q = nI (q - p) + nI p := by
    have : Int32.ofNat ((q - p) + p) = Int32.ofNat (q - p) + Int32.ofNat p := Int32.ofNat_add _ _
    rw [show q - p + p = q by omega] at this
    exact this
  rw [e1, Int32.add_sub_cancel, nI_toInt (by omega)]
theorem sL_lo {x : Int32} (c : j_cond .lt x 97 = true) : sL x.toInt = false := by
  rw [sk_lt] at c
  have c : x.toInt < 97 := of_decide_eq_true c
  unfold sL
  rw [decide_eq_false (show ¬ 97 ≤ x.toInt by omega)]
  rfl
theorem sL_hi {x : Int32} (c : j_cond .gt x 122 = true) : sL x.toInt = false := by
  rw [jk_gt] at c
  have c : 122 < x.toInt := of_decide_eq_true c
  unfold sL
  rw [decide_eq_false (show ¬ x.toInt ≤ 122 by omega), Bool.and_false]
theorem sL_in {x : Int32} (a : j_cond .lt x 97 = false) (c : j_cond .gt x 122 = false) : sL x.toInt = true := by
  rw [sk_lt] at a
  rw [jk_gt] at c
  have a : ¬ x.toInt < 97 := of_decide_eq_false a
  have c : ¬ 122 < x.toInt := of_decide_eq_false c
  unfold sL
  rw [decide_eq_true (show 97 ≤ x.toInt by omega), decide_eq_true (show x.toInt ≤ 122 by omega)]
  rfl
theorem sD_lo {x : Int32} (c : j_cond .lt x 48 = true) : sD x.toInt = false := by
  rw [sk_lt] at c
  have c : x.toInt < 48 := of_decide_eq_true c
  unfold sD
  rw [decide_eq_false (show ¬ 48 ≤ x.toInt by omega)]
  rfl
theorem sD_hi {x : Int32} (c : j_cond .gt x 57 = true) : sD x.toInt = false := by
  rw [jk_gt] at c
  have c : 57 < x.toInt := of_decide_eq_true c
  unfold sD
  rw [decide_eq_false (show ¬ x.toInt ≤ 57 by omega), Bool.and_false]
theorem sD_in {x : Int32} (a : j_cond .lt x 48 = false) (c : j_cond .gt x 57 = false) : sD x.toInt = true := by
  rw [sk_lt] at a
  rw [jk_gt] at c
  have a : ¬ x.toInt < 48 := of_decide_eq_false a
  have c : ¬ 57 < x.toInt := of_decide_eq_false c
  unfold sD
  rw [decide_eq_true (show 48 ≤ x.toInt by omega), decide_eq_true (show x.toInt ≤ 57 by omega)]
  rfl
theorem jk_rcv {ci k : Nat} {h : J_H} {fs r : List Value} (hk : h[k]? = some (.inl (ci, fs))) : j_rcv 3 ci h (.ref k :: r) = true := by
  simp only [j_rcv, hk, decide_true]
theorem jk_spl3 {N : j_M} {k ci : Nat} {h : J_H} {fs as rest st : List Value} (hk : h[k]? = some (.inl (ci, fs))) (hci : j_ci N = ci) (hst : st = as.reverse ++ .ref k :: rest) (hn : as.length = j_np N) (hs : (rest.map fun v => v.category).sum ≤ 8) (hl : (lg_sl (.ref k :: as)).length ≤ j_nL N) : j_spl 3 N h st = some (.ref k :: as, rest) := by
  subst hst
  have e0 : j_nar 3 (j_np N) = as.reverse.length + 1 := by rw [List.length_reverse, hn]; rfl
  have e9 : as.reverse ++ Value.ref k :: rest = (as.reverse ++ [Value.ref k]) ++ rest := by simp
  have e8 : (as.reverse ++ [Value.ref k]).length = as.reverse.length + 1 := by simp
  have e1 : (as.reverse ++ .ref k :: rest).take (as.reverse.length + 1) = as.reverse ++ [.ref k] := by rw [e9, ← e8]; exact List.take_left
  have e2 : (as.reverse ++ .ref k :: rest).drop (as.reverse.length + 1) = rest := by rw [e9, ← e8]; exact List.drop_left
  unfold j_spl
  rw [e0, e1, e2]
  have e3 : (as.reverse ++ [Value.ref k]).reverse = .ref k :: as := by simp
  rw [e3, if_pos ⟨by simp, hs, hl, by rw [hci]; exact jk_rcv hk⟩]
/-- the token from p on, of e bytes: where it begins, its kind (the class's numbers), what is behind it, the word, the number -/
def tkQ (c : Nat → Int) (e p : Nat) : Nat := sR sW c (e - p) p
def tkK (c : Nat → Int) (e p : Nat) : Int32 :=
  if e ≤ tkQ c e p then 0 else bif sL (c (tkQ c e p)) then (if sR sL c (e - tkQ c e p) (tkQ c e p) - tkQ c e p ≤ 8 then 1 else 4) else bif sD (c (tkQ c e p)) then (if sR sD c (e - tkQ c e p) (tkQ c e p) - tkQ c e p ≤ 3 then 2 else 4) else if c (tkQ c e p) = 59 then 3 else 4
def tkN (c : Nat → Int) (e p : Nat) : Nat :=
  if e ≤ tkQ c e p then tkQ c e p else bif sL (c (tkQ c e p)) then sR sL c (e - tkQ c e p) (tkQ c e p) else bif sD (c (tkQ c e p)) then sR sD c (e - tkQ c e p) (tkQ c e p) else tkQ c e p + 1
def tkW (l : List Int32) (e p : Nat) (wo : Int64) : Int64 :=
  if e ≤ tkQ (cX l) e p then wo else bif sL (cX l (tkQ (cX l) e p)) then eX l (tkQ (cX l) e p) (sR sL (cX l) (e - tkQ (cX l) e p) (tkQ (cX l) e p) - tkQ (cX l) e p) else wo
def tkD (l : List Int32) (e p : Nat) (nu : Int32) : Int32 :=
  if e ≤ tkQ (cX l) e p then nu else bif sL (cX l (tkQ (cX l) e p)) then nu else bif sD (cX l (tkQ (cX l) e p)) then dX l (tkQ (cX l) e p) (sR sD (cX l) (e - tkQ (cX l) e p) (tkQ (cX l) e p) - tkQ (cX l) e p) else nu
theorem tkQ_ge {c : Nat → Int} {e p : Nat} (h : p ≤ e) : p ≤ tkQ c e p ∧ tkQ c e p ≤ e := by
  have := sR_ge sW c (e - p) p
  unfold tkQ
  omega
theorem tk_end {l : List Int32} {e p q : Nat} {wo : Int64} {nu : Int32} (hq : tkQ (cX l) e p = q) (h : e ≤ q) : tkK (cX l) e p = 0 ∧ tkN (cX l) e p = q ∧ tkW l e p wo = wo ∧ tkD l e p nu = nu := by
  unfold tkK tkN tkW tkD
  simp only [hq, if_pos h, and_self]
theorem tk_let {l : List Int32} {e p q : Nat} {wo : Int64} {nu : Int32} (hq : tkQ (cX l) e p = q) (h : q < e) (hL : sL (cX l q) = true) : tkK (cX l) e p = (if sR sL (cX l) (e - q) q - q ≤ 8 then 1 else 4) ∧ tkN (cX l) e p = sR sL (cX l) (e - q) q ∧ tkW l e p wo = eX l q (sR sL (cX l) (e - q) q - q) ∧ tkD l e p nu = nu := by
  unfold tkK tkN tkW tkD
  simp only [hq, if_neg (Nat.not_le.mpr h), hL, cond_true, and_self]
theorem tk_dig {l : List Int32} {e p q : Nat} {wo : Int64} {nu : Int32} (hq : tkQ (cX l) e p = q) (h : q < e) (hL : sL (cX l q) = false) (hD : sD (cX l q) = true) : tkK (cX l) e p = (if sR sD (cX l) (e - q) q - q ≤ 3 then 2 else 4) ∧ tkN (cX l) e p = sR sD (cX l) (e - q) q ∧ tkW l e p wo = wo ∧ tkD l e p nu = dX l q (sR sD (cX l) (e - q) q - q) := by
  unfold tkK tkN tkW tkD
  simp only [hq, if_neg (Nat.not_le.mpr h), hL, hD, cond_true, cond_false, and_self]
theorem tk_oth {l : List Int32} {e p q : Nat} {wo : Int64} {nu : Int32} (hq : tkQ (cX l) e p = q) (h : q < e) (hL : sL (cX l q) = false) (hD : sD (cX l q) = false) : tkK (cX l) e p = (if cX l q = 59 then 3 else 4) ∧ tkN (cX l) e p = q + 1 ∧ tkW l e p wo = wo ∧ tkD l e p nu = nu := by
  unfold tkK tkN tkW tkD
  simp only [hq, if_neg (Nat.not_le.mpr h), hL, hD, cond_false, and_self]
theorem sW_a {x : Int32} (c : j_cond .eq x 10 = true) : sW x.toInt = true := by
  rw [jk_eq] at c
  have c : x.toInt = 10 := of_decide_eq_true c
  unfold sW
  rw [decide_eq_true c]
  rfl
theorem sW_b {x : Int32} (c : j_cond .ne x 32 = false) : sW x.toInt = true := by
  rw [jk_ne] at c
  have c : x.toInt = 32 := by simpa using c
  unfold sW
  rw [decide_eq_true c, Bool.or_true]
theorem sW_n {x : Int32} (a : j_cond .eq x 10 = false) (c : j_cond .ne x 32 = true) : sW x.toInt = false := by
  rw [jk_eq] at a
  rw [jk_ne] at c
  have a : ¬ x.toInt = 10 := of_decide_eq_false a
  have c : ¬ x.toInt = 32 := by simpa using c
  unfold sW
  rw [decide_eq_false a, decide_eq_false c]
  rfl

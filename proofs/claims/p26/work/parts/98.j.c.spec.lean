/-! the readers' steps -/
theorem jk_lcmp (x y : Int64) : j_cond .ne (lg_cmp x y) 0 = !decide (x = y) := by
  unfold lg_cmp j_cond
  by_cases h : x = y
  · subst h
    simp [Int64.lt_irrefl]
  · rw [decide_eq_false h]
    by_cases h2 : x > y
    · rw [if_pos h2]; rfl
    · rw [if_neg h2, if_neg h]; rfl
theorem jk_spl2 {N : j_M} {h : J_H} {as rest st : List Value} (hst : st = as.reverse ++ rest) (hn : as.length = j_np N) (hs : (rest.map fun v => v.category).sum ≤ 8) (hl : (lg_sl as).length ≤ j_nL N) : j_spl 2 N h st = some (as, rest) := by
  subst hst
  have e0 : j_nar 2 (j_np N) = as.reverse.length := by rw [List.length_reverse, hn]; rfl
  have e1 : (as.reverse ++ rest).take as.reverse.length = as.reverse := List.take_left
  have e2 : (as.reverse ++ rest).drop as.reverse.length = rest := List.drop_left
  unfold j_spl
  rw [e0, e1, e2, List.reverse_reverse, if_pos ⟨by simp, hs, hl, by cases as <;> rfl⟩]
theorem jk_spl6 {N : j_M} {h : J_H} {as rest st : List Value} (hst : st = as.reverse ++ rest) (hn : as.length = j_np N) (hs : (rest.map fun v => v.category).sum ≤ 8) (hl : (lg_sl as).length ≤ j_nL N) : j_spl 6 N h st = some (as, rest) := by
  subst hst
  have e0 : j_nar 6 (j_np N) = as.reverse.length := by rw [List.length_reverse, hn]; rfl
  have e1 : (as.reverse ++ rest).take as.reverse.length = as.reverse := List.take_left
  have e2 : (as.reverse ++ rest).drop as.reverse.length = rest := List.drop_left
  unfold j_spl
  rw [e0, e1, e2, List.reverse_reverse, if_pos ⟨by simp, hs, hl, by cases as <;> rfl⟩]
/-- whether a token is a number within; what is wrong if it isn't -/
def inB (v lo hi : Int32) : Bool := decide (lo.toInt ≤ v.toInt) && decide (v.toInt ≤ hi.toInt)
def nOk (kd nu lo hi : Int32) : Bool := decide (kd = 2) && inB nu lo hi
def nF (kd : Int32) : Int32 := if kd = 2 then 3 else if kd = 4 then 1 else 2
theorem jk_retb (b : Bool) : j_ret (some .boolean) .ireturn [.int (bif b then 1 else 0)] = some (some (.int (bif b then 1 else 0))) := by cases b <;> rfl
section JKLONG
variable {P : j_P} {d mi pc : Nat} {lv : J_L} {st : List Value} {h h0 : J_H} {k : jk_K} {Q : Option Value → J_H → Prop}
theorem j_W.laldK {M : j_M} {a n : Nat} {l : List Int64} (hM : j_meth P mi = some M) (hc : j_code P mi pc = some .laload) (K : KN h k h0) (ha : jk_lk k a = some (.inr (.inr (.inl l)))) (hn : n < l.length) (hl : l.length < 2 ^ 31) (kk : j_W P d mi (pc + 1) lv (.long (l.getD n 0) :: st) h Q) : j_W P d mi pc lv (.int (nI n) :: .ref a :: st) h Q := by
  have h1 : (nI n).toNatClampNeg = n := nI_clamp (by omega)
  refine j_W.one hM hc ⟨fun z => (by cases z), fun z => (by cases z)⟩ (pcJ := pc + 1) (lv' := lv) (stJ := .long (l.getD n 0) :: st) (h' := h) ?_ kk
  simp only [j_one, j_kd, j_ald, K.at ha, j_ln]
  rw [if_pos (jk_in hn hl), h1]
  rfl
end JKLONG
/-- the first of f places from s on at which the word stands -/
def sIx (sn : List Int64) (w : Int64) : Nat → Nat → Int32
  | 0, _ => -1
  | f + 1, s => if sn.getD s 0 = w then nI s else sIx sn w f (s + 1)
/-- whether one of f places from t on holds the word, or b -/
def sAn (tn : List Int64) (w : Int64) : Nat → Nat → Bool → Bool
  | 0, _, b => b
  | f + 1, t, b => sAn tn w f (t + 1) (b || decide (tn.getD t 0 = w))
/-- whether a word is some name already -/
def sTk (sn tn : List Int64) (w : Int64) (ns nt : Nat) : Bool := sAn tn w nt 0 (!decide (sIx sn w ns 0 = -1))
/-- a new name: a name, and no other's; what is wrong if it isn't -/
def nwOk (kd : Int32) (w : Int64) (sn tn : List Int64) (ns nt : Nat) : Bool := decide (kd = 1) && !(decide (w = 32497584235442030) || decide (w = 500135192942) || decide (w = 1936486263) || decide (w = 131277443786868)) && !sTk sn tn w ns nt

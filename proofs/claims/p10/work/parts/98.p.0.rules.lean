/-! rows of partial runs over known cells: arrays by ints, loops by how much is left -/
section PV
variable {P : j_P} {d mi pc : Nat} {lv : J_L} {st : List Value} {h h0 : J_H} {k : jk_K} {Q : Option Value → J_H → Prop}
theorem j_V.any {M : j_M} {ins : Instr} (hM : j_meth P mi = some M) (hc : j_code P mi pc = some ins) (hk : j_kd ins ≠ 9 ∧ j_kd ins ≠ 10) (kk : ∀ pc' lv' st' h', j_one P mi (j_nL M) (j_in M) pc ins lv st h = some (pc', lv', st', h') → j_V P d mi pc' lv' st' h' Q) : j_V P d mi pc lv st h Q := by
  intro f r hf hj
  cases f with
  | zero => cases hj
  | succ f =>
    unfold j_run at hj
    rw [hM, hc] at hj
    try dsimp only at hj
    split at hj
    · rename_i z; exact absurd z hk.1
    · rename_i z; exact absurd z hk.2
    · split at hj
      · rename_i pc' lv' st' h' ho
        exact kk _ _ _ _ ho f r hf hj
      · cases hj
theorem j_V.gto {M : j_M} {off : Int} {t : Nat} (hM : j_meth P mi = some M) (hc : j_code P mi pc = some (.goto off)) (ht : j_tgt pc off = some t) (kk : j_V P d mi t lv st h Q) : j_V P d mi pc lv st h Q :=
  j_V.one hM hc ⟨fun z => (by cases z), fun z => (by cases z)⟩ (by simp only [j_one, j_kd, j_br, ht, Option.map_some]) kk
/-- an array's int, at an int -/
def gA (l : List Int32) (i : Int32) : Int32 := l.getD i.toNatClampNeg 0
def sA (l : List Int32) (i x : Int32) : List Int32 := l.set i.toNatClampNeg x
theorem j_V.iaA {M : j_M} {a : Nat} {l : List Int32} {i : Int32} (hM : j_meth P mi = some M) (hc : j_code P mi pc = some .iaload) (K : KN h k h0) (ha : jk_lk k a = some (.inr (.inl (0, l)))) (kk : j_V P d mi (pc + 1) lv (.int (gA l i) :: st) h Q) : j_V P d mi pc lv (.int i :: .ref a :: st) h Q := by
  refine j_V.any hM hc ⟨fun z => (by cases z), fun z => (by cases z)⟩ fun pc' lv' st' h' ho => ?_
  simp only [j_one, j_kd, j_ald, K.at ha, j_ln] at ho
  by_cases hq : j_ix i l.length = true
  · rw [if_pos ⟨trivial, hq⟩] at ho
    cases ho
    exact kk
  · rw [if_neg (fun z => hq z.2)] at ho
    cases ho
theorem j_V.isA {M : j_M} {a : Nat} {l : List Int32} {i x : Int32} {k' : jk_K} (hM : j_meth P mi = some M) (hc : j_code P mi pc = some .iastore) (K : KN h k h0) (ha : jk_lk k a = some (.inr (.inl (0, l)))) (hk : jk_st k a (.inr (.inl (0, sA l i x))) = k') (kk : ∀ h', KN h' k' h0 → j_V P d mi (pc + 1) lv st h' Q) : j_V P d mi pc lv (.int x :: .int i :: .ref a :: st) h Q := by
  refine j_V.any hM hc ⟨fun z => (by cases z), fun z => (by cases z)⟩ fun pc' lv' st' h' ho => ?_
  simp only [j_one, j_kd, j_ast, K.at ha, j_ln] at ho
  by_cases hq : j_ix i l.length = true
  · rw [if_pos ⟨trivial, hq⟩] at ho
    cases ho
    exact kk _ (K.set ha hk)
  · rw [if_neg (fun z => hq z.2)] at ho
    cases ho
theorem j_V.mx {M : j_M} {ins : Instr} {y : Nat} {st' : List Value} (hM : j_meth P mi = some M) (hc : j_code P mi pc = some ins) (hk : j_kd ins = 10) (hi : j_inv P mi ins = some (7, y)) (ho : j_mm true st = some st') (kk : j_V P d mi (pc + 3) lv st' h Q) : j_V P d mi pc lv st h Q := by
  intro f r hf hj
  cases f with
  | zero => cases hj
  | succ f =>
    unfold j_run at hj
    rw [hM, hc] at hj
    try dsimp only at hj
    simp only [hk, hi, ho] at hj
    exact kk f r hf hj
theorem j_V.mn {M : j_M} {ins : Instr} {y : Nat} {st' : List Value} (hM : j_meth P mi = some M) (hc : j_code P mi pc = some ins) (hk : j_kd ins = 10) (hi : j_inv P mi ins = some (8, y)) (ho : j_mm false st = some st') (kk : j_V P d mi (pc + 3) lv st' h Q) : j_V P d mi pc lv st h Q := by
  intro f r hf hj
  cases f with
  | zero => cases hj
  | succ f =>
    unfold j_run at hj
    rw [hM, hc] at hj
    try dsimp only at hj
    simp only [hk, hi, ho] at hj
    exact kk f r hf hj
end PV
/-! branches: what they ask, in = and < alone -/
theorem jd_eq {x y : Int32} (c : j_cond .eq x y = true) : x = y := of_decide_eq_true c
theorem jd_eqn {x y : Int32} (c : j_cond .eq x y = false) : ¬ x = y := of_decide_eq_false c
theorem jd_ne {x y : Int32} (c : j_cond .ne x y = true) : ¬ x = y := of_decide_eq_false (by simpa [j_cond] using c)
theorem jd_nen {x y : Int32} (c : j_cond .ne x y = false) : x = y := by
  have c : (!decide (x = y)) = false := c
  simpa using c
theorem jd_lt {x y : Int32} (c : j_cond .lt x y = true) : x < y := of_decide_eq_true c
theorem jd_ltn {x y : Int32} (c : j_cond .lt x y = false) : ¬ x < y := of_decide_eq_false c
theorem jd_ge {x y : Int32} (c : j_cond .ge x y = true) : ¬ x < y := by
  have c : y ≤ x := of_decide_eq_true c
  rw [Int32.le_iff_toInt_le] at c
  rw [Int32.lt_iff_toInt_lt]
  omega
theorem jd_gen {x y : Int32} (c : j_cond .ge x y = false) : x < y := by
  have c : ¬ y ≤ x := of_decide_eq_false c
  rw [Int32.le_iff_toInt_le] at c
  rw [Int32.lt_iff_toInt_lt]
  omega
theorem jd_gt {x y : Int32} (c : j_cond .gt x y = true) : y < x := of_decide_eq_true c
theorem jd_gtn {x y : Int32} (c : j_cond .gt x y = false) : ¬ y < x := of_decide_eq_false c
theorem jd_le {x y : Int32} (c : j_cond .le x y = true) : ¬ y < x := jd_ge (x := y) (y := x) c
theorem jd_len {x y : Int32} (c : j_cond .le x y = false) : y < x := jd_gen (x := y) (y := x) c
/-- how many turns a loop up to n has from i on -/
def lpN (n i : Int32) : Nat := (n.toInt - i.toInt).toNat
theorem lpN_z {n i : Int32} (h : lpN n i = 0) : ¬ i < n := by
  unfold lpN at h
  rw [Int32.lt_iff_toInt_lt]
  omega
theorem lpN_s {n i : Int32} {f : Nat} (h : lpN n i = f + 1) : i < n := by
  unfold lpN at h
  rw [Int32.lt_iff_toInt_lt]
  omega
theorem lpN_n {n i : Int32} {f : Nat} (h : lpN n i = f + 1) : lpN n (i + 1) = f := by
  have h1 := lpN_s h
  rw [Int32.lt_iff_toInt_lt] at h1
  have h2 := Int32.toInt_lt n
  have h3 := Int32.le_toInt i
  have e : (i + 1).toInt = i.toInt + 1 := by
    rw [Int32.toInt_add, show (1 : Int32).toInt = 1 from rfl, Int.bmod_eq_of_le (by omega) (by omega)]
  unfold lpN at h ⊢
  rw [e]
  omega
section PVC
variable {P : j_P} {d mi pc : Nat} {lv : J_L} {st : List Value} {h h0 : J_H} {k : jk_K} {Q : Option Value → J_H → Prop}
/-- a call, at any depth -/
theorem j_V.cl {M N : j_M} {ins : Instr} {md mj : Nat} {As rest : List Value} {Q1 : Option Value → J_H → Prop} (hM : j_meth P mi = some M) (hc : j_code P mi pc = some ins) (hk : j_kd ins = 10) (hi : j_inv P mi ins = some (md, mj)) (hmd : md ≠ 0 ∧ md ≠ 1 ∧ md ≠ 7 ∧ md ≠ 8) (hN : j_meth P mj = some N) (hs : j_spl md N h st = some (As, rest))
    (hcall : ∀ d, j_V P d mj 0 (lv_args 0 As) [] h Q1) (kk : ∀ r h', Q1 r h' → j_V P d mi (pc + 3) lv (r.toList ++ rest) h' Q) : j_V P d mi pc lv st h Q := by
  cases d with
  | zero =>
    intro f r' hf hj
    cases f with
    | zero => cases hj
    | succ f =>
      obtain ⟨n1, n2, n3, n4⟩ := hmd
      unfold j_run at hj
      rw [hM, hc] at hj
      simp only [hk, hi, hN] at hj
      cases hj
  | succ d => exact j_V.call hM hc hk hi hmd hN hs (hcall d) kk
end PVC
/-- an int told back -/
theorem jv_reti {rt : Option FieldType} {v : Int32} {x : Option Value} (h : j_ret rt .ireturn [.int v] = some x) : x = some (.int v) := by
  cases rt with
  | none => cases h
  | some ty =>
    have h : (if j_fit ty (.int v) = true then some (some (Value.int v)) else none) = some x := h
    split at h
    · exact (Option.some.inj h).symm
    · cases h
theorem j_V.ri {P : j_P} {d mi pc : Nat} {lv : J_L} {h : J_H} {Q : Option Value → J_H → Prop} {M : j_M} {v : Int32} (hM : j_meth P mi = some M) (hc : j_code P mi pc = some .ireturn) (hq : Q (some (.int v)) h) : j_V P d mi pc lv [.int v] h Q := by
  intro f r hf hj
  cases f with
  | zero => cases hj
  | succ f =>
    unfold j_run at hj
    rw [hM, hc] at hj
    obtain ⟨x, hx, he⟩ := Option.map_eq_some_iff.mp (show (j_ret (j_rt M) .ireturn [.int v]).map (fun r => (r, h)) = some (r, hf) from hj)
    rw [jv_reti hx] at he
    cases he
    exact hq
def iMx (x y : Int32) : Int32 := if x < y then y else x
def iMn (x y : Int32) : Int32 := if y < x then y else x

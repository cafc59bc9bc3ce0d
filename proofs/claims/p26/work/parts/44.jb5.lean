/-! fields and arrays -/
theorem jb_T.obj {K : jb_Ks} {G : List Nat} {h : J_H} {a k : Nat} {d : Nat × List jb_V} (hT : jb_T K G h) (ha : G[a]? = some k) (hk : K[k]? = some (.inl d)) : ∃ fs : List Value, h[a]? = some (.inl (d.1, fs)) ∧ fs.length = d.2.length ∧ ∀ (j : Nat) (t : jb_V) (v : Value), d.2[j]? = some t → fs[j]? = some v → jb_v G t v := by
  obtain ⟨c, h1, h2⟩ := hT.2 a k _ ha hk
  rcases c with ⟨ci, fs⟩ | c | c | c
  · obtain ⟨e, e2, e3⟩ := h2
    have e : ci = d.1 := e
    subst e
    exact ⟨fs, h1, e2, e3⟩
  · exact h2.elim
  · exact h2.elim
  · exact h2.elim
theorem jb_T.arr {K : jb_Ks} {G : List Nat} {h : J_H} {a k : Nat} {d : Nat × Nat × List (Nat × Int × Int)} (hT : jb_T K G h) (ha : G[a]? = some k) (hk : K[k]? = some (.inr (.inl d))) : ∃ l : List Int32, h[a]? = some (.inr (.inl (d.1, l))) ∧ l.length = d.2.1 ∧ ∀ (i : Nat) (x : Int32) (q : Int × Int), l[i]? = some x → jb_sg d.2.2 i = some q → q.1 ≤ x.toInt ∧ x.toInt ≤ q.2 := by
  obtain ⟨c, h1, h2⟩ := hT.2 a k _ ha hk
  rcases c with c | ⟨kd, l⟩ | c | c
  · exact h2.elim
  · obtain ⟨e, e2, e3⟩ := h2
    have e : kd = d.1 := e
    subst e
    exact ⟨l, h1, e2, e3⟩
  · exact h2.elim
  · exact h2.elim
theorem jb_T.arrL {K : jb_Ks} {G : List Nat} {h : J_H} {a k n : Nat} (hT : jb_T K G h) (ha : G[a]? = some k) (hk : K[k]? = some (.inr (.inr (.inl n)))) : ∃ l : List Int64, h[a]? = some (.inr (.inr (.inl l))) ∧ l.length = n := by
  obtain ⟨c, h1, h2⟩ := hT.2 a k _ ha hk
  rcases c with c | c | c | c
  · exact h2.elim
  · exact h2.elim
  · exact ⟨c, h1, h2⟩
  · exact h2.elim
theorem jb_T.arrQ {K : jb_Ks} {G : List Nat} {h : J_H} {a k : Nat} {d : Nat × Nat} (hT : jb_T K G h) (ha : G[a]? = some k) (hk : K[k]? = some (.inr (.inr (.inr d)))) : ∃ l : List (Option Nat), h[a]? = some (.inr (.inr (.inr l))) ∧ l.length = d.1 ∧ ∀ (i : Nat) (q : Option Nat), l[i]? = some q → ∃ a : Nat, q = some a ∧ G[a]? = some d.2 := by
  obtain ⟨c, h1, h2⟩ := hT.2 a k _ ha hk
  rcases c with c | c | c | c
  · exact h2.elim
  · exact h2.elim
  · exact h2.elim
  · exact ⟨c, h1, h2.1, h2.2⟩
def jb_getf (K : jb_Ks) (fl : Option j_F) (S : jb_S) : Option jb_S := match fl, S with
  | some (ci, j, _, _), (.inr (some (k, false)), _) :: S => match K[k]? with
    | some (.inl d) => bif Nat.beq d.1 ci then (match d.2[j]? with
      | some t => some ((t, none) :: S)
      | none => none) else none
    | _ => none
  | _, _ => none
theorem jb_getf_ok {K : jb_Ks} {G : List Nat} {lv : J_L} {h : J_H} {fl : Option j_F} {S S' : jb_S} {st : List Value} (hj : jb_getf K fl S = some S') (hT : jb_T K G h) (hS : jb_st G lv S st) : ∃ stJ : List Value, j_get fl h st = some stJ ∧ jb_st G lv S' stJ := by
  unfold jb_getf at hj
  split at hj
  · rename_i ci j ty fin k o S0
    obtain ⟨v, stJ, rfl, h1, h2⟩ := jb_st_cons hS
    obtain ⟨a, rfl, ha⟩ := jb_ref h1.1
    split at hj
    · rename_i d hk
      obtain ⟨fs, e1, e2, e3⟩ := hT.obj ha hk
      cases hb : Nat.beq d.1 ci with
      | false => rw [hb] at hj; cases hj
      | true =>
        rw [hb, cond_true] at hj
        have e4 := Nat.eq_of_beq_eq_true hb
        split at hj
        · rename_i t ht
          cases hj
          have hlt : j < fs.length := by
            rw [e2]
            exact (List.getElem?_eq_some_iff.mp ht).1
          have hv : fs[j]? = some fs[j] := List.getElem?_eq_getElem hlt
          refine ⟨fs[j] :: stJ, ?_, jb_none (e3 _ _ _ ht hv), h2⟩
          simp only [j_get, e1]
          rw [if_pos e4]
          simp only [hv]
        · cases hj
    · cases hj
  · cases hj
/-- what a field takes -/
def jb_fld (ty : FieldType) (t : jb_V) : Bool := match ty, t with
  | .int, .inl _ => true
  | .boolean, .inl q => decide (0 ≤ q.1) && decide (q.2 ≤ 1)
  | .long, .inr none => true
  | .object _, .inr (some _) => true
  | .array _, .inr (some _) => true
  | _, _ => false
theorem jb_fld_ok {G : List Nat} {ty : FieldType} {t : jb_V} {v : Value} (h : jb_fld ty t = true) (hv : jb_v G t v) : j_fit ty v = true := by
  unfold jb_fld at h
  split at h
  · obtain ⟨x, rfl, -⟩ := jb_int hv; rfl
  · obtain ⟨x, rfl, hx⟩ := jb_int hv
    obtain ⟨h1, h2⟩ := Bool.and_eq_true_iff.mp h
    have h1 := of_decide_eq_true h1
    have h2 := of_decide_eq_true h2
    obtain ⟨x1, x2⟩ := hx
    have e : x.toInt = 0 ∨ x.toInt = 1 := by omega
    show (decide (x = 0) || decide (x = 1)) = true
    rcases e with e | e
    · have : x = 0 := Int32.toInt_inj.mp e
      subst this; rfl
    · have : x = 1 := Int32.toInt_inj.mp e
      subst this; rfl
  · obtain ⟨x, rfl⟩ := jb_long hv; rfl
  · cases v <;> first | exact hv.elim | rfl
  · cases v <;> first | exact hv.elim | rfl
  · cases h
def jb_putf (K : jb_Ks) (fl : Option j_F) (S : jb_S) : Option jb_S := match fl, S with
  | some (ci, j, ty, fin), (t, _) :: (.inr (some (k, false)), _) :: S => match K[k]? with
    | some (.inl d) => match d.2[j]? with
      | some u => bif Nat.beq d.1 ci && (jb_le t u && (jb_fld ty t && Nat.beq fin 0)) then some S else none
      | none => none
    | _ => none
  | _, _ => none
theorem jb_putf_ok {K : jb_Ks} {G : List Nat} {lv : J_L} {h : J_H} {fl : Option j_F} {isI : Bool} {S S' : jb_S} {st : List Value} (hj : jb_putf K fl S = some S') (hT : jb_T K G h) (hS : jb_st G lv S st) : ∃ (stJ : List Value) (h' : J_H), j_put isI fl h st = some (stJ, h') ∧ jb_T K G h' ∧ jb_st G lv S' stJ := by
  unfold jb_putf at hj
  split at hj
  · rename_i ci j ty fin t o k o2 S0
    obtain ⟨v, stJ, rfl, h1, h2⟩ := jb_st_cons hS
    obtain ⟨w, st'', rfl, h3, h4⟩ := jb_st_cons h2
    obtain ⟨a, rfl, ha⟩ := jb_ref h3.1
    split at hj
    · rename_i d hk
      obtain ⟨fs, e1, e2, e3⟩ := hT.obj ha hk
      split at hj
      · rename_i u hu
        cases hb : Nat.beq d.1 ci && (jb_le t u && (jb_fld ty t && Nat.beq fin 0)) with
        | false => rw [hb] at hj; cases hj
        | true =>
          rw [hb] at hj
          cases hj
          obtain ⟨b1, b2⟩ := Bool.and_eq_true_iff.mp hb
          obtain ⟨b2, b3⟩ := Bool.and_eq_true_iff.mp b2
          obtain ⟨b3, b4⟩ := Bool.and_eq_true_iff.mp b3
          have e4 := Nat.eq_of_beq_eq_true b1
          have hlt : j < fs.length := by
            rw [e2]
            exact (List.getElem?_eq_some_iff.mp hu).1
          refine ⟨st'', h.set a (.inl (ci, fs.set j v)), ?_, ?_, h4⟩
          · simp only [j_put, e1]
            rw [if_pos ⟨e4, hlt, jb_fld_ok b3 h1.1, Or.inl (Nat.eq_of_beq_eq_true b4)⟩]
          · refine hT.set ha hk ⟨e4.symm, by rw [List.length_set]; exact e2, fun i t' v' ht' hv' => ?_⟩
            by_cases e : j = i
            · subst e
              rw [hu] at ht'
              cases ht'
              rw [List.getElem?_set_self hlt] at hv'
              cases hv'
              exact jb_le_ok b2 h1.1
            · rw [List.getElem?_set_ne e] at hv'
              exact e3 i t' v' ht' hv'
      · cases hj
    · cases hj
  · cases hj
/-- an index within: from lo to hi, below n -/
theorem jb_ix {q : Int × Int} {x : Int32} {n : Nat} (hx : jb_i q x) (h0 : 0 ≤ q.1) (h1 : q.2 < n) : j_ix x n = true ∧ x.toNatClampNeg = x.toInt.toNat ∧ x.toInt.toNat < n := by
  obtain ⟨x1, x2⟩ := hx
  have e : x.toNatClampNeg = x.toInt.toNat := rfl
  refine ⟨?_, e, by omega⟩
  unfold j_ix
  simp only [Bool.not_eq_true', Bool.or_eq_false_iff, decide_eq_false_iff_not]
  refine ⟨fun z => ?_, by rw [e]; omega⟩
  have := Int32.lt_iff_toInt_lt.mp z
  have h0 : (0 : Int32).toInt = 0 := (by decide)
  omega
/-- all segments that lie within lo .. hi: what comes of a load -/
def jb_sj : Nat → List (Nat × Int × Int) → Int → Int → Option (Int × Int)
  | _, [], _, _ => none
  | p, (u, q) :: r, lo, hi => bif decide ((u : Int) ≤ lo) then jb_sj u r lo hi else bif decide (hi < u) then some q else (jb_sj u r lo hi).map fun z => (min q.1 z.1, max q.2 z.2)
theorem jb_sj_ok {lo hi : Int} {i : Nat} (h1 : lo ≤ i) (h2 : (i : Int) ≤ hi) : ∀ {segs : List (Nat × Int × Int)} {p : Nat} {z : Int × Int}, jb_sj p segs lo hi = some z → ∃ q : Int × Int, jb_sg segs i = some q ∧ z.1 ≤ q.1 ∧ q.2 ≤ z.2
  | [], p, z, h => by cases h
  | (u, q) :: r, p, z, h => by
    unfold jb_sj at h
    unfold jb_sg
    cases c1 : decide ((u : Int) ≤ lo) with
    | true =>
      rw [c1, cond_true] at h
      have c1 := of_decide_eq_true c1
      have hb : Nat.ble (i + 1) u = false := by
        cases hb : Nat.ble (i + 1) u with
        | false => rfl
        | true => have := Nat.le_of_ble_eq_true hb; omega
      rw [hb, cond_false]
      exact jb_sj_ok h1 h2 h
    | false =>
      rw [c1, cond_false] at h
      cases c2 : decide (hi < u) with
      | true =>
        rw [c2, cond_true] at h
        cases h
        have c2 := of_decide_eq_true c2
        have hb : Nat.ble (i + 1) u = true := Nat.ble_eq_true_of_le (by omega)
        rw [hb, cond_true]
        exact ⟨q, rfl, Int.le_refl _, Int.le_refl _⟩
      | false =>
        rw [c2, cond_false] at h
        obtain ⟨w, hw, e⟩ := Option.map_eq_some_iff.mp h
        cases e
        cases hb : Nat.ble (i + 1) u with
        | true =>
          rw [cond_true]
          exact ⟨q, rfl, by show min q.1 w.1 ≤ q.1; omega, by show q.2 ≤ max q.2 w.2; omega⟩
        | false =>
          rw [cond_false]
          obtain ⟨q', a1, a2, a3⟩ := jb_sj_ok h1 h2 hw
          exact ⟨q', a1, by show min q.1 w.1 ≤ q'.1; omega, by show q'.2 ≤ max q.2 w.2; omega⟩
/-- a store fits wherever it may lie -/
def jb_sf (segs : List (Nat × Int × Int)) (q : Int × Int) : Bool := segs.all fun s => decide (s.2.1 ≤ q.1) && decide (q.2 ≤ s.2.2)

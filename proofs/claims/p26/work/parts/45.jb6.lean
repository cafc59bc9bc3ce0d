/-- a store fits in every segment of lo .. hi -/
def jb_so : List (Nat × Int × Int) → Int → Int → Int × Int → Bool
  | [], _, _, _ => false
  | (u, q) :: r, lo, hi, z => bif decide ((u : Int) ≤ lo) then jb_so r lo hi z else decide (q.1 ≤ z.1) && (decide (z.2 ≤ q.2) && (decide (hi < u) || jb_so r lo hi z))
theorem jb_so_ok {lo hi : Int} {i : Nat} {z : Int × Int} (h1 : lo ≤ i) (h2 : (i : Int) ≤ hi) : ∀ {segs : List (Nat × Int × Int)}, jb_so segs lo hi z = true → ∀ q : Int × Int, jb_sg segs i = some q → q.1 ≤ z.1 ∧ z.2 ≤ q.2
  | [], h, _, _ => by cases h
  | (u, q) :: r, h, q', hq => by
    unfold jb_so at h
    unfold jb_sg at hq
    cases c1 : decide ((u : Int) ≤ lo) with
    | true =>
      rw [c1, cond_true] at h
      have c1 := of_decide_eq_true c1
      have hb : Nat.ble (i + 1) u = false := by
        cases hb : Nat.ble (i + 1) u with
        | false => rfl
        | true => have := Nat.le_of_ble_eq_true hb; omega
      rw [hb, cond_false] at hq
      exact jb_so_ok h1 h2 h q' hq
    | false =>
      rw [c1, cond_false] at h
      obtain ⟨a1, a2⟩ := Bool.and_eq_true_iff.mp h
      obtain ⟨a2, a3⟩ := Bool.and_eq_true_iff.mp a2
      cases hb : Nat.ble (i + 1) u with
      | true =>
        rw [hb, cond_true] at hq
        cases hq
        exact ⟨of_decide_eq_true a1, of_decide_eq_true a2⟩
      | false =>
        rw [hb, cond_false] at hq
        rcases Bool.or_eq_true_iff.mp a3 with c | c
        · have c := of_decide_eq_true c
          have : Nat.ble (i + 1) u = true := Nat.ble_eq_true_of_le (by omega)
          rw [hb] at this
          cases this
        · exact jb_so_ok h1 h2 c q' hq
def jb_inx (q : Int × Int) (n : Nat) : Bool := decide (0 ≤ q.1) && decide (q.2 < n)
theorem jb_inx_ok {q : Int × Int} {n : Nat} {x : Int32} (h : jb_inx q n = true) (hx : jb_i q x) : j_ix x n = true ∧ x.toNatClampNeg < n ∧ q.1 ≤ (x.toNatClampNeg : Int) ∧ (x.toNatClampNeg : Int) ≤ q.2 := by
  obtain ⟨h1, h2⟩ := Bool.and_eq_true_iff.mp h
  have h1 := of_decide_eq_true h1
  have h2 := of_decide_eq_true h2
  obtain ⟨a, b, c⟩ := jb_ix hx h1 h2
  obtain ⟨x1, x2⟩ := hx
  rw [b]
  refine ⟨a, c, ?_, ?_⟩ <;> omega
def jb_ald (K : jb_Ks) (ins : Instr) (S : jb_S) : Option jb_S := match ins, S with
  | .iaload, (.inl q, _) :: (.inr (some (k, false)), _) :: S => match K[k]? with
    | some (.inr (.inl d)) => bif Nat.beq d.1 0 && jb_inx q d.2.1 then (jb_sj 0 d.2.2 q.1 q.2).map fun z => (.inl z, none) :: S else none
    | _ => none
  | .baload, (.inl q, _) :: (.inr (some (k, false)), _) :: S => match K[k]? with
    | some (.inr (.inl d)) => bif Nat.beq d.1 1 && jb_inx q d.2.1 then (jb_sj 0 d.2.2 q.1 q.2).map fun z => (.inl z, none) :: S else none
    | _ => none
  | .laload, (.inl q, _) :: (.inr (some (k, false)), _) :: S => match K[k]? with
    | some (.inr (.inr (.inl n))) => bif jb_inx q n then some ((.inr none, none) :: S) else none
    | _ => none
  | .aaload, (.inl q, _) :: (.inr (some (k, false)), _) :: S => match K[k]? with
    | some (.inr (.inr (.inr d))) => bif jb_inx q d.1 then some ((.inr (some (d.2, false)), none) :: S) else none
    | _ => none
  | .arraylength, (.inr (some (k, false)), _) :: S => match K[k]? with
    | some (.inr (.inl d)) => bif Nat.ble d.2.1 65536 then some ((.inl (d.2.1, d.2.1), none) :: S) else none
    | _ => none
  | _, _ => none
theorem jb_ald_ok {K : jb_Ks} {G : List Nat} {lv : J_L} {h : J_H} {ins : Instr} {S S' : jb_S} {st : List Value} (hj : jb_ald K ins S = some S') (hT : jb_T K G h) (hS : jb_st G lv S st) : ∃ stJ : List Value, j_ald ins h st = some stJ ∧ jb_st G lv S' stJ := by
  unfold jb_ald at hj
  split at hj
  · rename_i q o1 k o2 S0
    obtain ⟨v, stJ, rfl, h1, h2⟩ := jb_st_cons hS
    obtain ⟨w, st'', rfl, h3, h4⟩ := jb_st_cons h2
    obtain ⟨x, rfl, hx⟩ := jb_int h1.1
    obtain ⟨a, rfl, ha⟩ := jb_ref h3.1
    split at hj
    · rename_i d hk
      obtain ⟨l, e1, e2, e3⟩ := hT.arr ha hk
      cases hb : Nat.beq d.1 0 && jb_inx q d.2.1 with
      | false => rw [hb] at hj; cases hj
      | true =>
        rw [hb, cond_true] at hj
        obtain ⟨b1, b2⟩ := Bool.and_eq_true_iff.mp hb
        obtain ⟨i1, i2, i3, i4⟩ := jb_inx_ok b2 hx
        obtain ⟨z, hz, e⟩ := Option.map_eq_some_iff.mp hj
        cases e
        obtain ⟨q', g1, g2, g3⟩ := jb_sj_ok i3 i4 hz
        have hlt : x.toNatClampNeg < l.length := by rw [e2]; exact i2
        have hv : l[x.toNatClampNeg]? = some (l.getD x.toNatClampNeg 0) := by rw [List.getD_eq_getElem?_getD, List.getElem?_eq_getElem hlt]; rfl
        obtain ⟨f1, f2⟩ := e3 _ _ _ hv g1
        refine ⟨.int (l.getD x.toNatClampNeg 0) :: st'', ?_, jb_none ⟨Int.le_trans g2 f1, Int.le_trans f2 g3⟩, h4⟩
        simp only [j_ald, e1]
        rw [if_pos ⟨Nat.eq_of_beq_eq_true b1, by rw [e2]; exact i1⟩]
    · cases hj
  · rename_i q o1 k o2 S0
    obtain ⟨v, stJ, rfl, h1, h2⟩ := jb_st_cons hS
    obtain ⟨w, st'', rfl, h3, h4⟩ := jb_st_cons h2
    obtain ⟨x, rfl, hx⟩ := jb_int h1.1
    obtain ⟨a, rfl, ha⟩ := jb_ref h3.1
    split at hj
    · rename_i d hk
      obtain ⟨l, e1, e2, e3⟩ := hT.arr ha hk
      cases hb : Nat.beq d.1 1 && jb_inx q d.2.1 with
      | false => rw [hb] at hj; cases hj
      | true =>
        rw [hb, cond_true] at hj
        obtain ⟨b1, b2⟩ := Bool.and_eq_true_iff.mp hb
        obtain ⟨i1, i2, i3, i4⟩ := jb_inx_ok b2 hx
        obtain ⟨z, hz, e⟩ := Option.map_eq_some_iff.mp hj
        cases e
        obtain ⟨q', g1, g2, g3⟩ := jb_sj_ok i3 i4 hz
        have hlt : x.toNatClampNeg < l.length := by rw [e2]; exact i2
        have hv : l[x.toNatClampNeg]? = some (l.getD x.toNatClampNeg 0) := by rw [List.getD_eq_getElem?_getD, List.getElem?_eq_getElem hlt]; rfl
        obtain ⟨f1, f2⟩ := e3 _ _ _ hv g1
        refine ⟨.int (l.getD x.toNatClampNeg 0) :: st'', ?_, jb_none ⟨Int.le_trans g2 f1, Int.le_trans f2 g3⟩, h4⟩
        have h1 := Nat.eq_of_beq_eq_true b1
        simp only [j_ald, e1]
        rw [if_pos ⟨by rw [h1]; exact Nat.one_ne_zero, by rw [e2]; exact i1⟩]
    · cases hj
  · rename_i q o1 k o2 S0
    obtain ⟨v, stJ, rfl, h1, h2⟩ := jb_st_cons hS
    obtain ⟨w, st'', rfl, h3, h4⟩ := jb_st_cons h2
    obtain ⟨x, rfl, hx⟩ := jb_int h1.1
    obtain ⟨a, rfl, ha⟩ := jb_ref h3.1
    split at hj
    · rename_i n hk
      obtain ⟨l, e1, e2⟩ := hT.arrL ha hk
      cases hb : jb_inx q n with
      | false => rw [hb] at hj; cases hj
      | true =>
        rw [hb] at hj
        cases hj
        obtain ⟨i1, -⟩ := jb_inx_ok hb hx
        refine ⟨.long (l.getD x.toNatClampNeg 0) :: st'', ?_, jb_none trivial, h4⟩
        simp only [j_ald, e1]
        rw [if_pos (by rw [e2]; exact i1)]
    · cases hj
  · rename_i q o1 k o2 S0
    obtain ⟨v, stJ, rfl, h1, h2⟩ := jb_st_cons hS
    obtain ⟨w, st'', rfl, h3, h4⟩ := jb_st_cons h2
    obtain ⟨x, rfl, hx⟩ := jb_int h1.1
    obtain ⟨a, rfl, ha⟩ := jb_ref h3.1
    split at hj
    · rename_i d hk
      obtain ⟨l, e1, e2, e3⟩ := hT.arrQ ha hk
      cases hb : jb_inx q d.1 with
      | false => rw [hb] at hj; cases hj
      | true =>
        rw [hb] at hj
        cases hj
        obtain ⟨i1, i2, -, -⟩ := jb_inx_ok hb hx
        have hlt : x.toNatClampNeg < l.length := by rw [e2]; exact i2
        have hv : l[x.toNatClampNeg]? = some (l.getD x.toNatClampNeg none) := by rw [List.getD_eq_getElem?_getD, List.getElem?_eq_getElem hlt]; rfl
        obtain ⟨a', f1, f2⟩ := e3 _ _ hv
        refine ⟨.ref a' :: st'', ?_, jb_none f2, h4⟩
        simp only [j_ald, e1]
        rw [if_pos (by rw [e2]; exact i1), f1]
    · cases hj
  · rename_i k o2 S0
    obtain ⟨v, stJ, rfl, h1, h2⟩ := jb_st_cons hS
    obtain ⟨a, rfl, ha⟩ := jb_ref h1.1
    split at hj
    · rename_i d hk
      obtain ⟨l, e1, e2, e3⟩ := hT.arr ha hk
      cases hb : Nat.ble d.2.1 65536 with
      | false => rw [hb] at hj; cases hj
      | true =>
        rw [hb] at hj
        cases hj
        have hle := Nat.le_of_ble_eq_true hb
        refine ⟨.int (Int32.ofNat l.length) :: stJ, ?_, jb_none ?_, h2⟩
        · simp only [j_ald, e1]
        · show (d.2.1 : Int) ≤ (Int32.ofNat l.length).toInt ∧ (Int32.ofNat l.length).toInt ≤ (d.2.1 : Int)
          rw [e2, Int32.toInt_ofNat_of_lt (by omega)]
          exact ⟨Int.le_refl _, Int.le_refl _⟩
    · cases hj
  · cases hj
def jb_ast (K : jb_Ks) (ins : Instr) (S : jb_S) : Option jb_S := match ins, S with
  | .iastore, (.inl z, _) :: (.inl q, _) :: (.inr (some (k, false)), _) :: S => match K[k]? with
    | some (.inr (.inl d)) => bif Nat.beq d.1 0 && (jb_inx q d.2.1 && jb_so d.2.2 q.1 q.2 z) then some S else none
    | _ => none
  | .bastore, (.inl z, _) :: (.inl q, _) :: (.inr (some (k, false)), _) :: S => match K[k]? with
    | some (.inr (.inl d)) => bif Nat.beq d.1 1 && (jb_inx q d.2.1 && jb_so d.2.2 q.1 q.2 (-128, 127)) then some S else none
    | _ => none
  | .lastore, (.inr none, _) :: (.inl q, _) :: (.inr (some (k, false)), _) :: S => match K[k]? with
    | some (.inr (.inr (.inl n))) => bif jb_inx q n then some S else none
    | _ => none
  | _, _ => none
theorem jb_set {G : List Nat} {l : List Int32} {segs : List (Nat × Int × Int)} {j : Nat} {x : Int32} (h : ∀ (i : Nat) (x : Int32) (q : Int × Int), l[i]? = some x → jb_sg segs i = some q → q.1 ≤ x.toInt ∧ x.toInt ≤ q.2) (hx : ∀ q : Int × Int, jb_sg segs j = some q → q.1 ≤ x.toInt ∧ x.toInt ≤ q.2) : ∀ (i : Nat) (y : Int32) (q : Int × Int), (l.set j x)[i]? = some y → jb_sg segs i = some q → q.1 ≤ y.toInt ∧ y.toInt ≤ q.2 := by
  intro i y q hy hq
  by_cases e : j = i
  · subst e
    by_cases hl : j < l.length
    · rw [List.getElem?_set_self hl] at hy
      cases hy
      exact hx q hq
    · rw [List.getElem?_eq_none (by rw [List.length_set]; omega)] at hy
      cases hy
  · rw [List.getElem?_set_ne e] at hy
    exact h i y q hy hq
theorem jb_ast_ok {K : jb_Ks} {G : List Nat} {lv : J_L} {h : J_H} {ins : Instr} {S S' : jb_S} {st : List Value} (hj : jb_ast K ins S = some S') (hT : jb_T K G h) (hS : jb_st G lv S st) : ∃ (stJ : List Value) (h' : J_H), j_ast ins h st = some (stJ, h') ∧ jb_T K G h' ∧ jb_st G lv S' stJ := by
  unfold jb_ast at hj
  split at hj
  · rename_i z o0 q o1 k o2 S0
    obtain ⟨u, st0, rfl, h1, h2⟩ := jb_st_cons hS
    obtain ⟨v, st1, rfl, h3, h4⟩ := jb_st_cons h2
    obtain ⟨w, st2, rfl, h5, h6⟩ := jb_st_cons h4
    obtain ⟨y, rfl, hy⟩ := jb_int h1.1
    obtain ⟨x, rfl, hx⟩ := jb_int h3.1
    obtain ⟨a, rfl, ha⟩ := jb_ref h5.1
    split at hj
    · rename_i d hk
      obtain ⟨l, e1, e2, e3⟩ := hT.arr ha hk
      cases hb : Nat.beq d.1 0 && (jb_inx q d.2.1 && jb_so d.2.2 q.1 q.2 z) with
      | false => rw [hb] at hj; cases hj
      | true =>
        rw [hb] at hj
        cases hj
        obtain ⟨b1, b2⟩ := Bool.and_eq_true_iff.mp hb
        obtain ⟨b2, b3⟩ := Bool.and_eq_true_iff.mp b2
        obtain ⟨i1, i2, i3, i4⟩ := jb_inx_ok b2 hx
        refine ⟨st2, _, ?_, hT.set ha hk (c := .inr (.inl (d.1, l.set x.toNatClampNeg y))) ⟨rfl, by rw [List.length_set]; exact e2, jb_set (G := G) e3 fun q' hq' => ?_⟩, h6⟩
        · simp only [j_ast, e1]
          rw [if_pos ⟨Nat.eq_of_beq_eq_true b1, by rw [e2]; exact i1⟩]
        · obtain ⟨f1, f2⟩ := jb_so_ok i3 i4 b3 q' hq'
          exact ⟨Int.le_trans f1 hy.1, Int.le_trans hy.2 f2⟩
    · cases hj
  · rename_i z o0 q o1 k o2 S0
    obtain ⟨u, st0, rfl, h1, h2⟩ := jb_st_cons hS
    obtain ⟨v, st1, rfl, h3, h4⟩ := jb_st_cons h2
    obtain ⟨w, st2, rfl, h5, h6⟩ := jb_st_cons h4
    obtain ⟨y, rfl, hy⟩ := jb_int h1.1
    obtain ⟨x, rfl, hx⟩ := jb_int h3.1
    obtain ⟨a, rfl, ha⟩ := jb_ref h5.1
    split at hj
    · rename_i d hk
      obtain ⟨l, e1, e2, e3⟩ := hT.arr ha hk
      cases hb : Nat.beq d.1 1 && (jb_inx q d.2.1 && jb_so d.2.2 q.1 q.2 (-128, 127)) with
      | false => rw [hb] at hj; cases hj
      | true =>
        rw [hb] at hj
        cases hj
        obtain ⟨b1, b2⟩ := Bool.and_eq_true_iff.mp hb
        obtain ⟨b2, b3⟩ := Bool.and_eq_true_iff.mp b2
        obtain ⟨i1, i2, i3, i4⟩ := jb_inx_ok b2 hx
        have h1 := Nat.eq_of_beq_eq_true b1
        refine ⟨st2, _, ?_, hT.set ha hk (c := .inr (.inl (d.1, l.set x.toNatClampNeg y.toInt8.toInt32))) ⟨rfl, by rw [List.length_set]; exact e2, jb_set (G := G) e3 fun q' hq' => ?_⟩, h6⟩
        · simp only [j_ast, e1]
          rw [if_pos ⟨by rw [h1]; exact Nat.one_ne_zero, by rw [e2]; exact i1⟩]
        · obtain ⟨f1, f2⟩ := jb_so_ok i3 i4 b3 q' hq'
          obtain ⟨g1, g2⟩ := jb_i8 y
          exact ⟨Int.le_trans f1 g1, Int.le_trans g2 f2⟩
    · cases hj
  · rename_i o0 q o1 k o2 S0
    obtain ⟨u, st0, rfl, h1, h2⟩ := jb_st_cons hS
    obtain ⟨v, st1, rfl, h3, h4⟩ := jb_st_cons h2
    obtain ⟨w, st2, rfl, h5, h6⟩ := jb_st_cons h4
    obtain ⟨y, rfl⟩ := jb_long h1.1
    obtain ⟨x, rfl, hx⟩ := jb_int h3.1
    obtain ⟨a, rfl, ha⟩ := jb_ref h5.1
    split at hj
    · rename_i n hk
      obtain ⟨l, e1, e2⟩ := hT.arrL ha hk
      cases hb : jb_inx q n with
      | false => rw [hb] at hj; cases hj
      | true =>
        rw [hb] at hj
        cases hj
        obtain ⟨i1, -⟩ := jb_inx_ok hb hx
        refine ⟨st2, _, ?_, hT.set ha hk (c := .inr (.inr (.inl (l.set x.toNatClampNeg y)))) (by show (l.set x.toNatClampNeg y).length = n; rw [List.length_set]; exact e2), h6⟩
        simp only [j_ast, e1]
        rw [if_pos (by rw [e2]; exact i1)]
    · cases hj
  · cases hj

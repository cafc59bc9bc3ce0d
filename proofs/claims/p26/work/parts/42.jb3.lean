/-! one instruction -/
def jb_q (n : Int32) : jb_V × Option Nat := (.inl (n.toInt, n.toInt), none)
theorem jb_q_ok {G : List Nat} {lv : J_L} (n : Int32) : jb_s1 G lv (jb_q n) (.int n) := ⟨⟨Int.le_refl _, Int.le_refl _⟩, fun i h => by cases h⟩
def jb_lbin : Instr → Bool
  | .ladd => true
  | .lsub => true
  | .land => true
  | .lor => true
  | .lxor => true
  | _ => false
def jb_lsh : Instr → Bool
  | .lshl => true
  | .lshr => true
  | _ => false
def jb_stk (ins : Instr) (S : jb_S) : Option jb_S := match ins, S with
  | .iconst n, S => some (jb_q (Int32.ofInt n) :: S)
  | .bipush n, S => some (jb_q (Int8.ofInt n).toInt32 :: S)
  | .sipush n, S => some (jb_q (Int16.ofInt n).toInt32 :: S)
  | .lconst _, S => some ((.inr none, none) :: S)
  | .dup, q :: S => bif jb_isL q.1 then none else some (q :: q :: S)
  | .pop, q :: S => bif jb_isL q.1 then none else some S
  | .dup2, q :: r :: S => bif jb_isL q.1 || jb_isL r.1 then none else some (q :: r :: q :: r :: S)
  | .i2l, (.inl _, _) :: S => some ((.inr none, none) :: S)
  | .l2i, (.inr none, _) :: S => some ((.inl jb_full, none) :: S)
  | .i2b, (.inl _, _) :: S => some ((.inl (-128, 127), none) :: S)
  | .ineg, (.inl _, _) :: S => some ((.inl jb_full, none) :: S)
  | .lcmp, (.inr none, _) :: (.inr none, _) :: S => some ((.inl jb_full, none) :: S)
  | i, (.inl b, _) :: (.inl a, _) :: S => (jb_bin i a b).map fun z => (.inl z, none) :: S
  | i, (.inr none, _) :: (.inr none, _) :: S => bif jb_lbin i then some ((.inr none, none) :: S) else none
  | i, (.inl _, _) :: (.inr none, _) :: S => bif jb_lsh i then some ((.inr none, none) :: S) else none
  | _, _ => none
theorem jb_none {G : List Nat} {lv : J_L} {t : jb_V} {v : Value} (h : jb_v G t v) : jb_s1 G lv (t, none) v := ⟨h, fun i h => by cases h⟩
theorem jb_i8 (x : Int32) : jb_i (-128, 127) x.toInt8.toInt32 := by
  have h1 := Int8.le_toInt x.toInt8
  have h2 := Int8.toInt_lt x.toInt8
  have e : x.toInt8.toInt32.toInt = x.toInt8.toInt := Int8.toInt_toInt32 _
  show (-128 : Int) ≤ x.toInt8.toInt32.toInt ∧ x.toInt8.toInt32.toInt ≤ 127
  rw [e]
  omega
set_option maxHeartbeats 4000000 in
theorem jb_stk_ok {G : List Nat} {lv : J_L} {ins : Instr} {S S' : jb_S} {st : List Value} (h : jb_stk ins S = some S') (hS : jb_st G lv S st) : ∃ stJ : List Value, j_stk ins st = some stJ ∧ jb_st G lv S' stJ := by
  unfold jb_stk at h
  split at h
  · cases h; exact ⟨_, rfl, jb_q_ok _, hS⟩
  · cases h; exact ⟨_, rfl, jb_q_ok _, hS⟩
  · cases h; exact ⟨_, rfl, jb_q_ok _, hS⟩
  · cases h; exact ⟨_, rfl, jb_none trivial, hS⟩
  · rename_i q S
    obtain ⟨v, stJ, rfl, h1, h2⟩ := jb_st_cons hS
    cases hb : jb_isL q.1 with
    | true => rw [hb] at h; cases h
    | false =>
      rw [hb] at h
      cases h
      have hc := jb_cat hb h1.1
      refine ⟨v :: v :: stJ, ?_, h1, h1, h2⟩
      have hc1 : v.category = 1 := by cases v <;> first | rfl | exact absurd rfl hc
      show (if v.category = 1 then some (v :: v :: stJ) else none) = _
      rw [if_pos hc1]
  · rename_i q S
    obtain ⟨v, stJ, rfl, h1, h2⟩ := jb_st_cons hS
    cases hb : jb_isL q.1 with
    | true => rw [hb] at h; cases h
    | false =>
      rw [hb] at h
      cases h
      have hc := jb_cat hb h1.1
      refine ⟨stJ, ?_, h2⟩
      have hc1 : v.category = 1 := by cases v <;> first | rfl | exact absurd rfl hc
      show (if v.category = 1 then some stJ else none) = _
      rw [if_pos hc1]
  · rename_i q r S
    obtain ⟨v, stJ, rfl, h1, h2⟩ := jb_st_cons hS
    obtain ⟨w, st'', rfl, h3, h4⟩ := jb_st_cons h2
    cases hb : jb_isL q.1 || jb_isL r.1 with
    | true => rw [hb] at h; cases h
    | false =>
      rw [hb] at h
      cases h
      obtain ⟨b1, b2⟩ := Bool.or_eq_false_iff.mp hb
      have hc := jb_cat b1 h1.1
      have hd := jb_cat b2 h3.1
      refine ⟨v :: w :: v :: w :: st'', ?_, h1, h3, h1, h3, h4⟩
      have hc1 : v.category = 1 := by cases v <;> first | rfl | exact absurd rfl hc
      have hd1 : w.category = 1 := by cases w <;> first | rfl | exact absurd rfl hd
      show (if v.category = 1 ∧ w.category = 1 then some (v :: w :: v :: w :: st'') else none) = _
      rw [if_pos ⟨hc1, hd1⟩]
  · obtain ⟨v, stJ, rfl, h1, h2⟩ := jb_st_cons hS
    obtain ⟨x, rfl, -⟩ := jb_int h1.1
    cases h
    exact ⟨_, rfl, jb_none trivial, h2⟩
  · obtain ⟨v, stJ, rfl, h1, h2⟩ := jb_st_cons hS
    obtain ⟨x, rfl⟩ := jb_long h1.1
    cases h
    exact ⟨_, rfl, jb_none (jb_full_ok _), h2⟩
  · obtain ⟨v, stJ, rfl, h1, h2⟩ := jb_st_cons hS
    obtain ⟨x, rfl, -⟩ := jb_int h1.1
    cases h
    exact ⟨_, rfl, jb_none (jb_i8 x), h2⟩
  · obtain ⟨v, stJ, rfl, h1, h2⟩ := jb_st_cons hS
    obtain ⟨x, rfl, -⟩ := jb_int h1.1
    cases h
    exact ⟨_, rfl, jb_none (jb_full_ok _), h2⟩
  · obtain ⟨v, stJ, rfl, h1, h2⟩ := jb_st_cons hS
    obtain ⟨w, st'', rfl, h3, h4⟩ := jb_st_cons h2
    obtain ⟨x, rfl⟩ := jb_long h1.1
    obtain ⟨y, rfl⟩ := jb_long h3.1
    cases h
    exact ⟨_, rfl, jb_none (jb_full_ok _), h4⟩
  · obtain ⟨v, stJ, rfl, h1, h2⟩ := jb_st_cons hS
    obtain ⟨w, st'', rfl, h3, h4⟩ := jb_st_cons h2
    obtain ⟨y, rfl, hy⟩ := jb_int h1.1
    obtain ⟨x, rfl, hx⟩ := jb_int h3.1
    obtain ⟨c, hc, e⟩ := Option.map_eq_some_iff.mp h
    cases e
    obtain ⟨z, hz, hz2⟩ := jb_bin_ok hc hx hy
    refine ⟨.int z :: st'', ?_, jb_none hz2, h4⟩
    unfold j_bin at hz
    split at hz
    all_goals first | (cases hz; rfl) | (split at hz
                                         · cases hz
                                         · rename_i hn
                                           cases hz
                                           simp [j_stk, j_bin, hn]) | cases hz
  · obtain ⟨v, stJ, rfl, h1, h2⟩ := jb_st_cons hS
    obtain ⟨w, st'', rfl, h3, h4⟩ := jb_st_cons h2
    obtain ⟨x, rfl⟩ := jb_long h1.1
    obtain ⟨y, rfl⟩ := jb_long h3.1
    cases hb : jb_lbin ins with
    | false => rw [hb] at h; cases h
    | true =>
      rw [hb] at h
      cases h
      unfold jb_lbin at hb
      split at hb <;> first | exact ⟨_, rfl, jb_none trivial, h4⟩ | cases hb
  · obtain ⟨v, stJ, rfl, h1, h2⟩ := jb_st_cons hS
    obtain ⟨w, st'', rfl, h3, h4⟩ := jb_st_cons h2
    obtain ⟨x, rfl, -⟩ := jb_int h1.1
    obtain ⟨y, rfl⟩ := jb_long h3.1
    cases hb : jb_lsh ins with
    | false => rw [hb] at h; cases h
    | true =>
      rw [hb] at h
      cases h
      unfold jb_lsh at hb
      split at hb <;> first | exact ⟨_, rfl, jb_none trivial, h4⟩ | cases hb
  · cases h

/-! branches: what a comparison says narrows the ints that were compared, and the locals they were read from -/
def jb_cmp (c : ClassFile.Cond) (a b : Int × Int) : List ((Int × Int) × (Int × Int) × Bool) :=
  let lt (v : Bool) := ((a.1, min a.2 (b.2 - 1)), (max b.1 (a.1 + 1), b.2), v)
  let ge (v : Bool) := ((max a.1 b.1, a.2), (b.1, min b.2 a.2), v)
  let gt (v : Bool) := ((max a.1 (b.1 + 1), a.2), (b.1, min b.2 (a.2 - 1)), v)
  let le (v : Bool) := ((a.1, min a.2 b.2), (max b.1 a.1, b.2), v)
  let eq (v : Bool) := ((max a.1 b.1, min a.2 b.2), (max a.1 b.1, min a.2 b.2), v)
  match c with
  | .lt => [lt true, ge false]
  | .ge => [lt false, ge true]
  | .gt => [gt true, le false]
  | .le => [gt false, le true]
  | .eq => [eq true, lt false, gt false]
  | .ne => [eq false, lt true, gt true]
theorem jb_cmp_ok {c : ClassFile.Cond} {a b : Int × Int} {x y : Int32} (hx : jb_i a x) (hy : jb_i b y) : ∃ q ∈ jb_cmp c a b, jb_i q.1 x ∧ jb_i q.2.1 y ∧ j_cond c x y = q.2.2 := by
  have hlt : ∀ u v : Int32, decide (u < v) = decide (u.toInt < v.toInt) := fun u v => by rw [decide_eq_decide]; exact Int32.lt_iff_toInt_lt
  have hle : ∀ u v : Int32, decide (u ≤ v) = decide (u.toInt ≤ v.toInt) := fun u v => by rw [decide_eq_decide]; exact Int32.le_iff_toInt_le
  have heq : ∀ u v : Int32, decide (u = v) = decide (u.toInt = v.toInt) := fun u v => by rw [decide_eq_decide]; exact Int32.toInt_inj.symm
  obtain ⟨x1, x2⟩ := hx
  obtain ⟨y1, y2⟩ := hy
  have L : x.toInt < y.toInt → jb_i (a.1, min a.2 (b.2 - 1)) x ∧ jb_i (max b.1 (a.1 + 1), b.2) y := fun h => ⟨⟨x1, by show x.toInt ≤ min a.2 (b.2 - 1); omega⟩, ⟨by show max b.1 (a.1 + 1) ≤ y.toInt; omega, y2⟩⟩
  have Ge : y.toInt ≤ x.toInt → jb_i (max a.1 b.1, a.2) x ∧ jb_i (b.1, min b.2 a.2) y := fun h => ⟨⟨by show max a.1 b.1 ≤ x.toInt; omega, x2⟩, ⟨y1, by show y.toInt ≤ min b.2 a.2; omega⟩⟩
  have Gt : y.toInt < x.toInt → jb_i (max a.1 (b.1 + 1), a.2) x ∧ jb_i (b.1, min b.2 (a.2 - 1)) y := fun h => ⟨⟨by show max a.1 (b.1 + 1) ≤ x.toInt; omega, x2⟩, ⟨y1, by show y.toInt ≤ min b.2 (a.2 - 1); omega⟩⟩
  have Le : x.toInt ≤ y.toInt → jb_i (a.1, min a.2 b.2) x ∧ jb_i (max b.1 a.1, b.2) y := fun h => ⟨⟨x1, by show x.toInt ≤ min a.2 b.2; omega⟩, ⟨by show max b.1 a.1 ≤ y.toInt; omega, y2⟩⟩
  have Eq : x.toInt = y.toInt → jb_i (max a.1 b.1, min a.2 b.2) x ∧ jb_i (max a.1 b.1, min a.2 b.2) y := fun h => ⟨⟨by show max a.1 b.1 ≤ x.toInt; omega, by show x.toInt ≤ min a.2 b.2; omega⟩, ⟨by show max a.1 b.1 ≤ y.toInt; omega, by show y.toInt ≤ min a.2 b.2; omega⟩⟩
  rcases Int.lt_trichotomy x.toInt y.toInt with h | h | h
  · cases c
    · exact ⟨_, by simp only [jb_cmp]; exact List.mem_cons_of_mem _ List.mem_cons_self, (L h).1, (L h).2, by simp only [j_cond, heq]; simp; omega⟩
    · exact ⟨_, by simp only [jb_cmp]; exact List.mem_cons_of_mem _ List.mem_cons_self, (L h).1, (L h).2, by simp only [j_cond, heq]; simp; omega⟩
    · exact ⟨_, by simp only [jb_cmp]; exact List.mem_cons_self, (L h).1, (L h).2, by simp only [j_cond, hlt]; simp; omega⟩
    · exact ⟨_, by simp only [jb_cmp]; exact List.mem_cons_self, (L h).1, (L h).2, by simp only [j_cond, hle]; simp; omega⟩
    · exact ⟨_, by simp only [jb_cmp]; exact List.mem_cons_of_mem _ List.mem_cons_self, (Le (by omega)).1, (Le (by omega)).2, by simp only [j_cond, hlt]; simp; omega⟩
    · exact ⟨_, by simp only [jb_cmp]; exact List.mem_cons_of_mem _ List.mem_cons_self, (Le (by omega)).1, (Le (by omega)).2, by simp only [j_cond, hle]; simp; omega⟩
  · cases c
    · exact ⟨_, by simp only [jb_cmp]; exact List.mem_cons_self, (Eq h).1, (Eq h).2, by simp only [j_cond, heq]; simp; omega⟩
    · exact ⟨_, by simp only [jb_cmp]; exact List.mem_cons_self, (Eq h).1, (Eq h).2, by simp only [j_cond, heq]; simp; omega⟩
    · exact ⟨_, by simp only [jb_cmp]; exact List.mem_cons_of_mem _ List.mem_cons_self, (Ge (by omega)).1, (Ge (by omega)).2, by simp only [j_cond, hlt]; simp; omega⟩
    · exact ⟨_, by simp only [jb_cmp]; exact List.mem_cons_of_mem _ List.mem_cons_self, (Ge (by omega)).1, (Ge (by omega)).2, by simp only [j_cond, hle]; simp; omega⟩
    · exact ⟨_, by simp only [jb_cmp]; exact List.mem_cons_of_mem _ List.mem_cons_self, (Le (by omega)).1, (Le (by omega)).2, by simp only [j_cond, hlt]; simp; omega⟩
    · exact ⟨_, by simp only [jb_cmp]; exact List.mem_cons_of_mem _ List.mem_cons_self, (Le (by omega)).1, (Le (by omega)).2, by simp only [j_cond, hle]; simp; omega⟩
  · cases c
    · exact ⟨_, by simp only [jb_cmp]; exact List.mem_cons_of_mem _ (List.mem_cons_of_mem _ List.mem_cons_self), (Gt h).1, (Gt h).2, by simp only [j_cond, heq]; simp; omega⟩
    · exact ⟨_, by simp only [jb_cmp]; exact List.mem_cons_of_mem _ (List.mem_cons_of_mem _ List.mem_cons_self), (Gt h).1, (Gt h).2, by simp only [j_cond, heq]; simp; omega⟩
    · exact ⟨_, by simp only [jb_cmp]; exact List.mem_cons_of_mem _ List.mem_cons_self, (Ge (by omega)).1, (Ge (by omega)).2, by simp only [j_cond, hlt]; simp; omega⟩
    · exact ⟨_, by simp only [jb_cmp]; exact List.mem_cons_of_mem _ List.mem_cons_self, (Ge (by omega)).1, (Ge (by omega)).2, by simp only [j_cond, hle]; simp; omega⟩
    · exact ⟨_, by simp only [jb_cmp]; exact List.mem_cons_self, (Gt h).1, (Gt h).2, by simp only [j_cond, hlt]; simp; omega⟩
    · exact ⟨_, by simp only [jb_cmp]; exact List.mem_cons_self, (Gt h).1, (Gt h).2, by simp only [j_cond, hle]; simp; omega⟩
/-- a local's range is narrowed -/
def jb_nar (o : Option Nat) (q : Int × Int) (L : jb_L) : jb_L := match o with
  | some i => L.map fun z => (z.1, bif Nat.beq z.1 i then .inl q else z.2)
  | none => L
theorem jb_nar_ok {G : List Nat} {lv : J_L} {L : jb_L} {o : Option Nat} {q : Int × Int} {x : Int32} (hL : jb_lv G L lv) (ho : ∀ i : Nat, o = some i → j_ld lv i = some (.int x)) (hx : jb_i q x) : jb_lv G (jb_nar o q L) lv := by
  cases o with
  | none => exact hL
  | some i =>
    intro z hz
    obtain ⟨w, hw, e⟩ := List.mem_map.mp hz
    subst e
    obtain ⟨v, v1, v2⟩ := hL w hw
    cases hb : Nat.beq w.1 i with
    | true =>
      have e := Nat.eq_of_beq_eq_true hb
      exact ⟨.int x, by rw [show w.1 = i from e]; exact ho i rfl, hx⟩
    | false => exact ⟨v, v1, v2⟩
/-- where a branch goes: place, locals, stack -/
def jb_br (ins : Instr) (pc : Nat) (L : jb_L) (S : jb_S) : Option (List (Nat × jb_L × jb_S)) := match ins, S with
  | .goto off, S => (j_tgt pc off).map fun t => [(t, L, S)]
  | .ifCond c off, (.inl a, o) :: S => (j_tgt pc off).map fun t => ((jb_cmp c a (0, 0)).filter fun q => decide (q.1.1 ≤ q.1.2) && decide (q.2.1.1 ≤ q.2.1.2)).map fun q => (bif q.2.2 then t else pc + 3, jb_nar o q.1 L, S)
  | .if_icmp c off, (.inl b, o2) :: (.inl a, o1) :: S => (j_tgt pc off).map fun t => ((jb_cmp c a b).filter fun q => decide (q.1.1 ≤ q.1.2) && decide (q.2.1.1 ≤ q.2.1.2)).map fun q => (bif q.2.2 then t else pc + 3, jb_nar o2 q.2.1 (jb_nar o1 q.1 L), S)
  | .tableswitch dflt lo hi offs, (.inl a, o) :: S => bif decide (hi < lo + offs.size) && ((j_tgt pc dflt).isSome && (List.range offs.size).all fun k => (j_tgt pc (offs.getD k 0)).isSome) then some ((ja_sw pc dflt lo hi offs a.1 a.2).map fun q => (q.2.2, jb_nar o (q.1, q.2.1) L, S)) else none
  | _, _ => none
theorem jb_or {G : List Nat} {lv : J_L} {q : Int × Int} {o : Option Nat} {x : Int32} (h : jb_s1 G lv (.inl q, o) (.int x)) : ∀ i : Nat, o = some i → j_ld lv i = some (.int x) := fun i hi => (h.2 i hi).1
theorem jb_br_ok {G : List Nat} {lv : J_L} {ins : Instr} {pc : Nat} {L : jb_L} {S : jb_S} {st : List Value} {l : List (Nat × jb_L × jb_S)} (hj : jb_br ins pc L S = some l) (hL : jb_lv G L lv) (hS : jb_st G lv S st) : ∃ q ∈ l, ∃ stJ : List Value, j_br ins pc st = some (q.1, stJ) ∧ jb_lv G q.2.1 lv ∧ jb_st G lv q.2.2 stJ := by
  unfold jb_br at hj
  split at hj
  · rename_i off S0
    obtain ⟨t, ht, e⟩ := Option.map_eq_some_iff.mp hj
    cases e
    exact ⟨_, List.mem_singleton.mpr rfl, st, by simp only [j_br, ht, Option.map_some], hL, hS⟩
  · rename_i c off a o S0
    obtain ⟨t, ht, e⟩ := Option.map_eq_some_iff.mp hj
    cases e
    obtain ⟨v, stJ, rfl, h1, h2⟩ := jb_st_cons hS
    obtain ⟨x, rfl, hx⟩ := jb_int h1.1
    obtain ⟨q, q1, q2, q3, q4⟩ := jb_cmp_ok (c := c) (b := (0, 0)) (y := 0) hx ⟨by decide, by decide⟩
    refine ⟨_, List.mem_map.mpr ⟨q, List.mem_filter.mpr ⟨q1, ?_⟩, rfl⟩, stJ, ?_, jb_nar_ok hL (jb_or h1) q2, h2⟩
    · rw [Bool.and_eq_true]
      exact ⟨decide_eq_true (Int.le_trans q2.1 q2.2), decide_eq_true (Int.le_trans q3.1 q3.2)⟩
    · simp only [j_br, ht, Option.map_some, q4]
      cases q.2.2 <;> rfl
  · rename_i c off b o2 a o1 S0
    obtain ⟨t, ht, e⟩ := Option.map_eq_some_iff.mp hj
    cases e
    obtain ⟨v, stJ, rfl, h1, h2⟩ := jb_st_cons hS
    obtain ⟨w, st'', rfl, h3, h4⟩ := jb_st_cons h2
    obtain ⟨y, rfl, hy⟩ := jb_int h1.1
    obtain ⟨x, rfl, hx⟩ := jb_int h3.1
    obtain ⟨q, q1, q2, q3, q4⟩ := jb_cmp_ok (c := c) hx hy
    refine ⟨_, List.mem_map.mpr ⟨q, List.mem_filter.mpr ⟨q1, ?_⟩, rfl⟩, st'', ?_, jb_nar_ok (jb_nar_ok hL (jb_or h3) q2) (jb_or h1) q3, h4⟩
    · rw [Bool.and_eq_true]
      exact ⟨decide_eq_true (Int.le_trans q2.1 q2.2), decide_eq_true (Int.le_trans q3.1 q3.2)⟩
    · simp only [j_br, ht, Option.map_some, q4]
      cases q.2.2 <;> rfl
  · rename_i dflt lo hi offs a o S0
    cases hb : decide (hi < lo + offs.size) && ((j_tgt pc dflt).isSome && (List.range offs.size).all fun k => (j_tgt pc (offs.getD k 0)).isSome) with
    | false => rw [hb] at hj; cases hj
    | true =>
      rw [hb] at hj
      cases hj
      obtain ⟨v, stJ, rfl, h1, h2⟩ := jb_st_cons hS
      obtain ⟨x, rfl, hx⟩ := jb_int h1.1
      obtain ⟨b1, b2⟩ := Bool.and_eq_true_iff.mp hb
      obtain ⟨b2, b3⟩ := Bool.and_eq_true_iff.mp b2
      obtain ⟨q, q1, q2, q3, q4⟩ := ja_sw_ok (r := stJ) hx.1 hx.2 (of_decide_eq_true b1) b2 (fun k hk => List.all_eq_true.mp b3 k (List.mem_range.mpr hk))
      exact ⟨_, List.mem_map.mpr ⟨q, q1, rfl⟩, stJ, q4, jb_nar_ok hL (jb_or h1) ⟨q2, q3⟩, h2⟩
  · cases hj

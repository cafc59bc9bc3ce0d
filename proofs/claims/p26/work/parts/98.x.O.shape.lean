/-! no run changes an array's length, or what kind of thing lies at an address -/
def j_ky : J_C → Nat × Nat × Nat
  | .inl (c, fs) => (0, c, fs.length)
  | .inr (.inl (kd, l)) => (1, kd, l.length)
  | .inr (.inr (.inl l)) => (2, 0, l.length)
  | .inr (.inr (.inr l)) => (3, 0, l.length)
def j_sm (h h' : J_H) : Prop := ∀ (a : Nat) (c : J_C), h[a]? = some c → ∃ c' : J_C, h'[a]? = some c' ∧ j_ky c' = j_ky c
theorem j_sm.rf (h : J_H) : j_sm h h := fun _ c hc => ⟨c, hc, rfl⟩
theorem j_sm.tr {h h1 h2 : J_H} (a : j_sm h h1) (b : j_sm h1 h2) : j_sm h h2 := fun x c hc => by
  obtain ⟨c1, e1, k1⟩ := a x c hc
  obtain ⟨c2, e2, k2⟩ := b x c1 e1
  exact ⟨c2, e2, k2.trans k1⟩
theorem j_sm.st {h : J_H} {k : Nat} {c c' : J_C} (hc : h[k]? = some c) (e : j_ky c' = j_ky c) : j_sm h (h.set k c') := fun a x hx => by
  by_cases g : k = a
  · subst g
    rw [hc] at hx
    cases hx
    exact ⟨c', List.getElem?_set_self (by have := List.getElem?_eq_some_iff.mp hc; exact this.1), e⟩
  · exact ⟨x, by rw [List.getElem?_set_ne g]; exact hx, rfl⟩
theorem j_sm.ps (h : J_H) (l : J_H) : j_sm h (h ++ l) := fun a x hx => ⟨x, by rw [List.getElem?_append_left ((List.getElem?_eq_some_iff.mp hx).1)]; exact hx, rfl⟩
theorem j_put_sm {isI : Bool} {fl : Option j_F} {h h' : J_H} {st stJ : List Value} (hj : j_put isI fl h st = some (stJ, h')) : j_sm h h' := by
  unfold j_put at hj
  split at hj
  · split at hj
    · rename_i hc
      split at hj
      · rename_i g
        cases hj
        exact j_sm.st hc (by rw [g.1]; simp [j_ky])
      · cases hj
    · cases hj
  · cases hj
theorem j_ast_sm {ins : Instr} {h h' : J_H} {st stJ : List Value} (hj : j_ast ins h st = some (stJ, h')) : j_sm h h' := by
  unfold j_ast at hj
  split at hj
  · split at hj
    · rename_i hc
      split at hj
      · cases hj
        exact j_sm.st hc (by simp [j_ky])
      · cases hj
    · cases hj
  · split at hj
    · rename_i hc
      split at hj
      · cases hj
        exact j_sm.st hc (by simp [j_ky])
      · cases hj
    · cases hj
  · split at hj
    · rename_i hc
      split at hj
      · cases hj
        exact j_sm.st hc (by simp [j_ky])
      · cases hj
    · cases hj
  · split at hj
    · rename_i hc hv
      split at hj
      · cases hj
        exact j_sm.st hc (by simp [j_ky])
      · cases hj
    · cases hj
  · cases hj
theorem j_acp_sm {h h' : J_H} {st stJ : List Value} (hj : j_acp h st = some (stJ, h')) : j_sm h h' := by
  unfold j_acp at hj
  split at hj
  · split at hj
    · rename_i hc
      split at hj
      · cases hj
        exact j_sm.st hc (by simp [j_ky, j_cpy_len])
      · cases hj
    · rename_i hc
      split at hj
      · cases hj
        exact j_sm.st hc (by simp [j_ky, j_cpy_len])
      · cases hj
    · cases hj
  · cases hj
theorem j_obj_sm {P : j_P} {mi : Nat} {isI : Bool} {ins : Instr} {st stJ : List Value} {h h' : J_H} (hj : j_obj P mi isI ins st h = some (stJ, h')) : j_sm h h' := by
  unfold j_obj at hj
  split at hj
  · obtain ⟨x, -, he⟩ := Option.map_eq_some_iff.mp hj
    cases he
    exact j_sm.rf _
  · exact j_put_sm hj
  · obtain ⟨x, -, he⟩ := Option.map_eq_some_iff.mp hj
    cases he
    exact j_sm.ps _ _
  · split at hj
    · split at hj
      · obtain ⟨x, -, he⟩ := Option.map_eq_some_iff.mp hj
        cases he
        exact j_sm.ps _ _
      · cases hj
    · cases hj
  · split at hj
    · split at hj
      · cases hj
        exact j_sm.ps _ _
      · cases hj
    · cases hj
  · cases hj
theorem j_one_sm {P : j_P} {mi nL : Nat} {isI : Bool} {pc pcJ : Nat} {ins : Instr} {lv lv' : J_L} {st stJ : List Value} {h h' : J_H} (hj : j_one P mi nL isI pc ins lv st h = some (pcJ, lv', stJ, h')) : j_sm h h' := by
  unfold j_one at hj
  split at hj
  all_goals first
    | (cases hj; done)
    | (obtain ⟨x, hx, he⟩ := Option.map_eq_some_iff.mp hj
       cases he
       first
         | exact j_sm.rf _
         | exact j_obj_sm hx
         | exact j_ast_sm hx)
theorem j_run_sm (P : j_P) : ∀ (f d mi pc : Nat) (lv : J_L) (st : List Value) (h : J_H) (r : Option Value) (hf : J_H), j_run P f d mi pc lv st h = some (r, hf) → j_sm h hf := by
  intro f
  induction f with
  | zero => intro d mi pc lv st h r hf hj; cases hj
  | succ f ih =>
    intro d mi pc lv st h r hf hj
    unfold j_run at hj
    split at hj
    · split at hj
      · obtain ⟨x, -, he⟩ := Option.map_eq_some_iff.mp hj
        cases he
        exact j_sm.rf _
      · split at hj
        · split at hj
          · exact ih _ _ _ _ _ _ _ _ hj
          · cases hj
        · split at hj
          · rename_i stJ h' ha
            exact (j_acp_sm ha).tr (ih _ _ _ _ _ _ _ _ hj)
          · cases hj
        · split at hj
          · exact ih _ _ _ _ _ _ _ _ hj
          · cases hj
        · split at hj
          · exact ih _ _ _ _ _ _ _ _ hj
          · cases hj
        · split at hj
          · split at hj
            · split at hj
              · rename_i r' h' hc
                exact (ih _ _ _ _ _ _ _ _ hc).tr (ih _ _ _ _ _ _ _ _ hj)
              · cases hj
            · cases hj
          · cases hj
        · cases hj
      · split at hj
        · rename_i pcJ lv' stJ h' ho
          exact (j_one_sm ho).tr (ih _ _ _ _ _ _ _ _ hj)
        · cases hj
    · cases hj
/-- a contract, and what never changes -/
theorem j_V.sm {P : j_P} {d mi pc : Nat} {lv : J_L} {st : List Value} {h : J_H} {Q : Option Value → J_H → Prop} (k : j_V P d mi pc lv st h Q) : j_V P d mi pc lv st h (fun r h' => Q r h' ∧ j_sm h h') := fun f r h' z => ⟨k f r h' z, j_run_sm P f d mi pc lv st h r h' z⟩
theorem j_sm.arr {h h' : J_H} (s : j_sm h h') {a kd : Nat} {l l' : List Int32} (e : h[a]? = some (.inr (.inl (kd, l)))) (e' : h'[a]? = some (.inr (.inl (kd, l')))) : l'.length = l.length := by
  obtain ⟨c, h1, h2⟩ := s a _ e
  rw [e'] at h1
  cases h1
  exact congrArg (fun z : Nat × Nat × Nat => z.2.2) h2
theorem j_sm.ex {h h' : J_H} (s : j_sm h h') {a kd : Nat} {l : List Int32} (e : h[a]? = some (.inr (.inl (kd, l)))) : ∃ l', h'[a]? = some (.inr (.inl (kd, l'))) ∧ l'.length = l.length := by
  obtain ⟨c, h1, h2⟩ := s a _ e
  match c, h1, h2 with
  | .inl (c, fs), h1, h2 => exact absurd (congrArg Prod.fst h2) (by show ¬ (0 : Nat) = 1; decide)
  | .inr (.inl (k, l')), h1, h2 =>
    have e1 : k = kd := congrArg (fun z : Nat × Nat × Nat => z.2.1) h2
    exact ⟨l', by rw [h1, e1], congrArg (fun z : Nat × Nat × Nat => z.2.2) h2⟩
  | .inr (.inr (.inl l')), h1, h2 => exact absurd (congrArg Prod.fst h2) (by show ¬ (2 : Nat) = 1; decide)
  | .inr (.inr (.inr l')), h1, h2 => exact absurd (congrArg Prod.fst h2) (by show ¬ (3 : Nat) = 1; decide)

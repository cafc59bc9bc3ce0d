/-! locals -/
def jb_vk : jb_V → Nat
  | .inl _ => 0
  | .inr none => 1
  | .inr (some q) => cond q.2 3 2
theorem jb_vk_ok {G : List Nat} {t : jb_V} {v : Value} {k : Nat} (h : jb_v G t v) (hk : jb_vk t = k) (h3 : k < 3) : j_vk v = k := by
  rcases t with q | _ | ⟨q, b⟩
  · cases v <;> first | exact h.elim | exact hk
  · cases v <;> first | exact h.elim | exact hk
  · cases b with
    | true => subst hk; exact absurd h3 (show ¬ (3 : Nat) < 3 from Nat.lt_irrefl 3)
    | false => cases v <;> first | exact h.elim | exact hk | exact absurd h Bool.false_ne_true
def jb_lod (ins : Instr) (L : jb_L) (S : jb_S) : Option jb_S := match j_lix ins with
  | none => none
  | some (i, kd) => match jb_ld L i with
    | some t => bif Nat.beq (jb_vk t) kd && Nat.ble (kd + 1) 3 then some ((t, bif Nat.beq kd 0 then some i else none) :: S) else none
    | none => none
theorem jb_lod_ok {G : List Nat} {L : jb_L} {lv : J_L} {ins : Instr} {S S' : jb_S} {st : List Value} (h : jb_lod ins L S = some S') (hL : jb_lv G L lv) (hS : jb_st G lv S st) : ∃ stJ : List Value, j_lod ins lv st = some stJ ∧ jb_st G lv S' stJ := by
  unfold jb_lod at h
  unfold j_lod
  split at h
  · cases h
  · rename_i i kd he
    rw [he]
    split at h
    · rename_i t ht
      obtain ⟨v, hv, hvt⟩ := hL _ (jb_ld_mem ht)
      cases hb : Nat.beq (jb_vk t) kd && Nat.ble (kd + 1) 3 with
      | false => rw [hb] at h; cases h
      | true =>
        rw [hb] at h
        cases h
        obtain ⟨b1, b2⟩ := Bool.and_eq_true_iff.mp hb
        have e1 := Nat.eq_of_beq_eq_true b1
        have e2 := jb_vk_ok hvt e1 (Nat.le_of_ble_eq_true b2)
        have hv : j_ld lv i = some v := hv
        refine ⟨v :: st, by simp only [hv, e2, if_true], ⟨hvt, fun j hj => ?_⟩, hS⟩
        cases h0 : Nat.beq kd 0 with
        | false => rw [h0] at hj; cases hj
        | true =>
          rw [h0] at hj
          cases hj
          have e3 := Nat.eq_of_beq_eq_true h0
          subst e3
          refine ⟨hv, ?_⟩
          cases v <;> first | (cases e2; done) | exact ⟨_, rfl⟩
    · cases h
def jb_str (ins : Instr) (nL : Nat) (L : jb_L) (S : jb_S) : Option (jb_L × jb_S) := match j_six ins, S with
  | some (i, kd), (t, _) :: S => bif Nat.beq (jb_vk t) kd && Nat.ble (kd + 1) 3 then (bif Nat.beq kd 1 then (bif Nat.ble (i + 2) nL then some (jb_sto i (.inr none) L, jb_cut i S) else none) else (bif Nat.ble (i + 1) nL then some (jb_sto i t L, jb_cut i S) else none)) else none
  | _, _ => none
theorem jb_vk_L {t : jb_V} (h : jb_vk t ≠ 1) : jb_isL t = false := by
  rcases t with q | _ | q
  · rfl
  · exact absurd rfl h
  · rfl
theorem jb_str_ok {G : List Nat} {L L' : jb_L} {lv : J_L} {ins : Instr} {nL : Nat} {S S' : jb_S} {st : List Value} (h : jb_str ins nL L S = some (L', S')) (hL : jb_lv G L lv) (hS : jb_st G lv S st) : ∃ (lv' : J_L) (stJ : List Value), j_sto ins nL lv st = some (lv', stJ) ∧ jb_lv G L' lv' ∧ jb_st G lv' S' stJ := by
  unfold jb_str at h
  split at h
  · rename_i i kd t o S0 he
    obtain ⟨v, stJ, rfl, h1, h2⟩ := jb_st_cons hS
    cases hb : Nat.beq (jb_vk t) kd && Nat.ble (kd + 1) 3 with
    | false => rw [hb] at h; cases h
    | true =>
      rw [hb, cond_true] at h
      obtain ⟨b1, b2⟩ := Bool.and_eq_true_iff.mp hb
      have e1 := Nat.eq_of_beq_eq_true b1
      have e2 := jb_vk_ok h1.1 e1 (Nat.le_of_ble_eq_true b2)
      unfold j_sto
      simp only [he, e2, if_true]
      cases h3 : Nat.beq kd 1 with
      | true =>
        rw [h3, cond_true] at h
        have e3 := Nat.eq_of_beq_eq_true h3
        subst e3
        cases h4 : Nat.ble (i + 2) nL with
        | false => rw [h4] at h; cases h
        | true =>
          rw [h4] at h
          cases h
          have hv : jb_v G (.inr none) v := by cases v <;> first | (cases e2; done) | trivial
          refine ⟨_, _, ?_, jb_sto_2 hL hv, jb_cut_2 h2⟩
          rw [if_pos rfl, if_pos (show i + 1 < nL from Nat.le_of_ble_eq_true h4)]
      | false =>
        rw [h3, cond_false] at h
        cases h4 : Nat.ble (i + 1) nL with
        | false => rw [h4] at h; cases h
        | true =>
          rw [h4] at h
          cases h
          refine ⟨_, _, ?_, jb_sto_1 hL (jb_vk_L (by rw [e1]; exact jb_ne h3)) h1.1, jb_cut_1 h2⟩
          rw [if_neg (jb_ne h3), if_pos (show i < nL from Nat.le_of_ble_eq_true h4)]
  · cases h
def jb_inc (ins : Instr) (nL : Nat) (L : jb_L) (S : jb_S) : Option (jb_L × jb_S) := match ins with
  | .iinc i n => match jb_ld L i with
    | some (.inl q) => bif Nat.ble (i + 1) nL then some (jb_sto i (.inl (jb_fit (q.1 + (Int32.ofInt n).toInt) (q.2 + (Int32.ofInt n).toInt))) L, jb_cut i S) else none
    | _ => none
  | _ => none
theorem jb_inc_ok {G : List Nat} {L L' : jb_L} {lv : J_L} {ins : Instr} {nL : Nat} {S S' : jb_S} {st : List Value} (h : jb_inc ins nL L S = some (L', S')) (hL : jb_lv G L lv) (hS : jb_st G lv S st) : ∃ lv' : J_L, j_inc ins nL lv = some lv' ∧ jb_lv G L' lv' ∧ jb_st G lv' S' st := by
  unfold jb_inc at h
  split at h
  · rename_i i n
    split at h
    · rename_i q hq
      obtain ⟨v, hv, hvt⟩ := hL _ (jb_ld_mem hq)
      obtain ⟨x, rfl, hx⟩ := jb_int hvt
      cases h4 : Nat.ble (i + 1) nL with
      | false => rw [h4] at h; cases h
      | true =>
        rw [h4] at h
        cases h
        have hv : j_ld lv i = some (.int x) := hv
        refine ⟨_, ?_, jb_sto_1 (v := .int (x + Int32.ofInt n)) hL rfl (jb_add (b := ((Int32.ofInt n).toInt, (Int32.ofInt n).toInt)) hx ⟨Int.le_refl _, Int.le_refl _⟩), jb_cut_1 hS⟩
        unfold j_inc
        simp only [hv]
        rw [if_pos (show i < nL from Nat.le_of_ble_eq_true h4)]
    · cases h
  · cases h

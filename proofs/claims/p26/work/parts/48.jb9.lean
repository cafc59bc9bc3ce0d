/-! JB's run of a block: from a node to nodes of smaller number -/
abbrev jb_N : Type := List (Option (List (Option (List (Nat × jb_L)))))
/-- a contract: the method, how deep it goes, its arguments, its answer -/
abbrev jb_Cn : Type := Nat × Nat × List jb_V × Option jb_V
def jb_vs (G : List Nat) : List jb_V → List Value → Prop
  | [], [] => True
  | t :: T, v :: V => jb_v G t v ∧ jb_vs G T V
  | _, _ => False
def jb_an (G : List Nat) : Option jb_V → Option Value → Prop
  | none, none => True
  | some t, some v => jb_v G t v
  | _, _ => False
def jb_Q (K : jb_Ks) (G : List Nat) (R : Option jb_V) (r : Option Value) (h : J_H) : Prop := jb_T K G h ∧ jb_an G R r
def jb_Con (P : j_P) (K : jb_Ks) (G : List Nat) (c : jb_Cn) : Prop := ∀ (d : Nat), c.2.1 ≤ d → ∀ (h : J_H) (As : List Value), jb_T K G h → jb_vs G c.2.2.1 As → j_W P d c.1 0 (lv_args 0 As) [] h (jb_Q K G c.2.2.2)
def jb_leL (L L' : jb_L) : Bool := L'.all fun q => match jb_ld L q.1 with
  | some t => jb_le t q.2
  | none => false
theorem jb_leL_ok {G : List Nat} {L L' : jb_L} {lv : J_L} (h : jb_leL L L' = true) (hL : jb_lv G L lv) : jb_lv G L' lv := by
  intro q hq
  have h1 := List.all_eq_true.mp h q hq
  split at h1
  · rename_i t ht
    obtain ⟨v, v1, v2⟩ := hL _ (jb_ld_mem ht)
    exact ⟨v, v1, jb_le_ok h1 v2⟩
  · cases h1
def jb_one (K : jb_Ks) (fl : Option j_F) (ct : Option Value) (nL pc : Nat) (ins : Instr) (L : jb_L) (S : jb_S) : Option (Nat × jb_L × jb_S) := match j_kd ins with
  | 0 => (jb_stk ins S).map fun S' => (pc + j_ln ins, L, S')
  | 1 => (jb_lod ins L S).map fun S' => (pc + j_ln ins, L, S')
  | 2 => (jb_str ins nL L S).map fun q => (pc + j_ln ins, q.1, q.2)
  | 3 => (jb_inc ins nL L S).map fun q => (pc + j_ln ins, q.1, q.2)
  | 5 => (jb_ald K ins S).map fun S' => (pc + j_ln ins, L, S')
  | 6 => (jb_ast K ins S).map fun S' => (pc + j_ln ins, L, S')
  | 7 => match ins with
    | .getfield _ => (jb_getf K fl S).map fun S' => (pc + j_ln ins, L, S')
    | .putfield _ => (jb_putf K fl S).map fun S' => (pc + j_ln ins, L, S')
    | _ => none
  | 8 => (jb_ldk ct ins S).map fun S' => (pc + j_ln ins, L, S')
  | _ => none
theorem jb_one_ok {P : j_P} {K : jb_Ks} {G : List Nat} {mi pc nL : Nat} {isI : Bool} {ins : Instr} {fl : Option j_F} {cl : Option (Nat × Nat)} {ct : Option Value} {L L' : jb_L} {S S' : jb_S} {lv : J_L} {st : List Value} {h : J_H} {pcJ : Nat} (he : ja_e P mi pc (ins, fl, cl, ct) = true) (hT : jb_T K G h) (hL : jb_lv G L lv) (hS : jb_st G lv S st) (hj : jb_one K fl ct nL pc ins L S = some (pcJ, L', S')) : ∃ (lv' : J_L) (stJ : List Value) (h' : J_H), j_one P mi nL isI pc ins lv st h = some (pcJ, lv', stJ, h') ∧ jb_T K G h' ∧ jb_lv G L' lv' ∧ jb_st G lv' S' stJ := by
  unfold ja_e at he
  obtain ⟨he, he4⟩ := Bool.and_eq_true_iff.mp he
  obtain ⟨he, -⟩ := Bool.and_eq_true_iff.mp he
  obtain ⟨-, he2⟩ := Bool.and_eq_true_iff.mp he
  unfold jb_one at hj
  unfold j_one
  split at hj
  · rename_i hk
    obtain ⟨x, hx, e⟩ := Option.map_eq_some_iff.mp hj
    cases e
    rw [hk]
    obtain ⟨stJ, a1, a2⟩ := jb_stk_ok hx hS
    exact ⟨lv, stJ, h, by simp only [a1, Option.map_some], hT, hL, a2⟩
  · rename_i hk
    obtain ⟨x, hx, e⟩ := Option.map_eq_some_iff.mp hj
    cases e
    rw [hk]
    obtain ⟨stJ, a1, a2⟩ := jb_lod_ok hx hL hS
    exact ⟨lv, stJ, h, by simp only [a1, Option.map_some], hT, hL, a2⟩
  · rename_i hk
    obtain ⟨x, hx, e⟩ := Option.map_eq_some_iff.mp hj
    cases e
    rw [hk]
    obtain ⟨lv', stJ, a1, a2, a3⟩ := jb_str_ok hx hL hS
    exact ⟨lv', stJ, h, by simp only [a1, Option.map_some], hT, a2, a3⟩
  · rename_i hk
    obtain ⟨x, hx, e⟩ := Option.map_eq_some_iff.mp hj
    cases e
    rw [hk]
    obtain ⟨lv', a1, a2, a3⟩ := jb_inc_ok hx hL hS
    exact ⟨lv', st, h, by simp only [a1, Option.map_some], hT, a2, a3⟩
  · rename_i hk
    obtain ⟨x, hx, e⟩ := Option.map_eq_some_iff.mp hj
    cases e
    rw [hk]
    obtain ⟨stJ, a1, a2⟩ := jb_ald_ok hx hT hS
    exact ⟨lv, stJ, h, by simp only [a1, Option.map_some], hT, hL, a2⟩
  · rename_i hk
    obtain ⟨x, hx, e⟩ := Option.map_eq_some_iff.mp hj
    cases e
    rw [hk]
    obtain ⟨stJ, h', a1, a2, a3⟩ := jb_ast_ok hx hT hS
    exact ⟨lv, stJ, h', by simp only [a1, Option.map_some], a2, hL, a3⟩
  · rename_i hk
    split at hj
    · obtain ⟨x, hx, e⟩ := Option.map_eq_some_iff.mp hj
      cases e
      cases fl with
      | none => cases hx
      | some f =>
        have hf : j_fld P mi _ = some f := of_decide_eq_true he2
        obtain ⟨stJ, a1, a2⟩ := jb_getf_ok hx hT hS
        refine ⟨lv, stJ, h, ?_, hT, hL, a2⟩
        show (j_obj P mi isI (.getfield _) _ h).map _ = _
        simp only [j_obj, hf, a1, Option.map_some]
    · obtain ⟨x, hx, e⟩ := Option.map_eq_some_iff.mp hj
      cases e
      cases fl with
      | none => cases hx
      | some f =>
        have hf : j_fld P mi _ = some f := of_decide_eq_true he2
        obtain ⟨stJ, h', a1, a2, a3⟩ := jb_putf_ok (isI := isI) hx hT hS
        refine ⟨lv, stJ, h', ?_, a2, hL, a3⟩
        show (j_obj P mi isI (.putfield _) _ h).map _ = _
        simp only [j_obj, hf, a1, Option.map_some]
    · cases hj
  · rename_i hk
    obtain ⟨x, hx, e⟩ := Option.map_eq_some_iff.mp hj
    cases e
    rw [hk]
    obtain ⟨stJ, a1, a2⟩ := jb_ldk_ok hx hS
    refine ⟨lv, stJ, h, ?_, hT, hL, a2⟩
    have e2 : j_ldk ins (j_ldc P mi) st = j_ldk ins (fun _ => ct) st := by
      cases ct with
      | none =>
        unfold j_ldk at a1
        split at a1 <;> first | (simp only at a1; cases a1; done) | cases a1
      | some v =>
        cases ins <;> first | rfl | (have hf := of_decide_eq_true he4; simp only [j_ldk, hf])
    simp only [e2, a1, Option.map_some]
  · cases hj
/-- an answer -/
def jb_ret (rt : Option FieldType) (ins : Instr) (S : jb_S) (R : Option jb_V) : Bool := match ins, S, rt, R with
  | .ireturn, [(.inl q, _)], some ty, some r => jb_fld ty (.inl q) && jb_le (.inl q) r
  | .lreturn, [(.inr none, _)], some .long, some r => jb_le (.inr none) r
  | .areturn, [(.inr (some (k, false)), _)], some (.object _), some r => jb_le (.inr (some (k, false))) r
  | .areturn, [(.inr (some (k, false)), _)], some (.array _), some r => jb_le (.inr (some (k, false))) r
  | .return_, [], none, none => true
  | _, _, _, _ => false
theorem jb_st1 {G : List Nat} {lv : J_L} {q : jb_V × Option Nat} {st : List Value} (h : jb_st G lv [q] st) : ∃ v : Value, st = [v] ∧ jb_v G q.1 v := by
  obtain ⟨v, stJ, rfl, h1, h2⟩ := jb_st_cons h
  cases stJ with
  | nil => exact ⟨v, rfl, h1.1⟩
  | cons w r => exact h2.elim
theorem jb_ret_ok {G : List Nat} {lv : J_L} {rt : Option FieldType} {ins : Instr} {S : jb_S} {st : List Value} {R : Option jb_V} (h : jb_ret rt ins S R = true) (hS : jb_st G lv S st) : ∃ r : Option Value, j_ret rt ins st = some r ∧ jb_an G R r := by
  unfold jb_ret at h
  split at h
  · obtain ⟨v, rfl, hv⟩ := jb_st1 hS
    obtain ⟨x, rfl, -⟩ := jb_int hv
    obtain ⟨h1, h2⟩ := Bool.and_eq_true_iff.mp h
    refine ⟨some (.int x), ?_, jb_le_ok h2 hv⟩
    simp only [j_ret]
    rw [if_pos (jb_fld_ok h1 hv)]
  · obtain ⟨v, rfl, hv⟩ := jb_st1 hS
    obtain ⟨x, rfl⟩ := jb_long hv
    exact ⟨some (.long x), rfl, jb_le_ok h hv⟩
  · obtain ⟨v, rfl, hv⟩ := jb_st1 hS
    obtain ⟨x, rfl, hx⟩ := jb_ref hv
    exact ⟨some (.ref x), rfl, jb_le_ok h hv⟩
  · obtain ⟨v, rfl, hv⟩ := jb_st1 hS
    obtain ⟨x, rfl, hx⟩ := jb_ref hv
    exact ⟨some (.ref x), rfl, jb_le_ok h hv⟩
  · cases st with
    | nil => exact ⟨none, rfl, trivial⟩
    | cons v r => exact hS.elim
  · cases h

/-! the reference's calls leave longs, bytes and the text's length: written by wip/py/gen_lg.py -/
/-- arrays of longs and of bytes stay -/
def lgR (h h' : J_H) : Prop := (∀ (a : Nat) (l : List Int64), h[a]? = some (.inr (.inr (.inl l))) → h'[a]? = some (.inr (.inr (.inl l)))) ∧ ∀ (a : Nat) (l : List Int32), h[a]? = some (.inr (.inl (1, l))) → h'[a]? = some (.inr (.inl (1, l)))
theorem lgR.rf {h : J_H} : lgR h h := ⟨fun _ _ z => z, fun _ _ z => z⟩
theorem lgR.tr {h h1 h2 : J_H} (a : lgR h h1) (b : lgR h1 h2) : lgR h h2 := ⟨fun x l z => b.1 x l (a.1 x l z), fun x l z => b.2 x l (a.2 x l z)⟩
theorem lgR.st {h : J_H} {k : Nat} {c c' : J_C} (hc : h[k]? = some c) (h1 : ∀ l : List Int64, c ≠ .inr (.inr (.inl l))) (h2 : ∀ l : List Int32, c ≠ .inr (.inl (1, l))) : lgR h (h.set k c') := by
  refine ⟨fun a l hd => ?_, fun a l hd => ?_⟩
  · by_cases e : k = a
    · subst e
      rw [hc] at hd
      exact absurd (Option.some.inj hd) (h1 l)
    · rw [List.getElem?_set_ne e]; exact hd
  · by_cases e : k = a
    · subst e
      rw [hc] at hd
      exact absurd (Option.some.inj hd) (h2 l)
    · rw [List.getElem?_set_ne e]; exact hd
def lg_i : Instr → Bool
  | .lastore => false
  | .bastore => false
  | .new _ => false
  | .newarray _ => false
  | .anewarray _ => false
  | _ => true
theorem lg_put {isI : Bool} {fl : Option j_F} {h h' : J_H} {st stJ : List Value} (hj : j_put isI fl h st = some (stJ, h')) : lgR h h' := by
  unfold j_put at hj
  split at hj
  · split at hj
    · rename_i hc
      split at hj
      · cases hj
        exact lgR.st hc (fun _ z => nomatch z) (fun _ z => nomatch z)
      · cases hj
    · cases hj
  · cases hj
theorem lg_ast {ins : Instr} {h h' : J_H} {st stJ : List Value} (hn : lg_i ins = true) (hj : j_ast ins h st = some (stJ, h')) : lgR h h' := by
  unfold j_ast at hj
  split at hj
  · split at hj
    · rename_i kd l hc
      split at hj
      · rename_i hq
        cases hj
        refine lgR.st hc (fun _ z => nomatch z) (fun l2 z => ?_)
        have z := Sum.inr.inj z
        have z := Sum.inl.inj z
        have e : kd = 1 := congrArg Prod.fst z
        have := hq.1
        omega
      · cases hj
    · cases hj
  · cases hn
  · cases hn
  · split at hj
    · rename_i hc hv
      split at hj
      · cases hj
        exact lgR.st hc (fun _ z => nomatch z) (fun _ z => nomatch z)
      · cases hj
    · cases hj
  · cases hj
theorem lg_obj {P : j_P} {mi : Nat} {isI : Bool} {ins : Instr} {st stJ : List Value} {h h' : J_H} (hn : lg_i ins = true) (hj : j_obj P mi isI ins st h = some (stJ, h')) : lgR h h' := by
  unfold j_obj at hj
  split at hj
  · obtain ⟨x, -, he⟩ := Option.map_eq_some_iff.mp hj
    cases he
    exact lgR.rf
  · exact lg_put hj
  · cases hn
  · cases hn
  · cases hn
  · cases hj
theorem lg_one {P : j_P} {mi nL pc : Nat} {isI : Bool} {ins : Instr} {lv lv' : J_L} {st stJ : List Value} {h h' : J_H} {pcJ : Nat} (hn : lg_i ins = true) (hj : j_one P mi nL isI pc ins lv st h = some (pcJ, lv', stJ, h')) : lgR h h' := by
  unfold j_one at hj
  split at hj
  all_goals first
    | (cases hj; done)
    | (obtain ⟨x, hx, he⟩ := Option.map_eq_some_iff.mp hj
       cases he
       first
         | exact lgR.rf
         | exact lg_obj hn hx
         | exact lg_ast hn hx)
def lg_N (P : j_P) (S : Nat → Bool) : Prop := ∀ mi pc ins, S mi = true → j_code P mi pc = some ins → lg_i ins = true ∧ ∀ md mj, j_inv P mi ins = some (md, mj) → md ≠ 1 ∧ (md ≠ 0 → md ≠ 7 → md ≠ 8 → S mj = true)
theorem lg_run {P : j_P} {S : Nat → Bool} (hS : lg_N P S) : ∀ (f d mi pc : Nat) (lv : J_L) (st : List Value) (h : J_H) (r : Option Value) (hf : J_H), S mi = true → j_run P f d mi pc lv st h = some (r, hf) → lgR h hf := by
  intro f
  induction f with
  | zero => intro d mi pc lv st h r hf _ hj; cases hj
  | succ f ih =>
    intro d mi pc lv st h r hf hm hj
    unfold j_run at hj
    split at hj
    · rename_i M ins hM hins
      obtain ⟨n1, n2⟩ := hS mi pc ins hm hins
      split at hj
      · obtain ⟨x, -, he⟩ := Option.map_eq_some_iff.mp hj
        cases he
        exact lgR.rf
      · split at hj
        · split at hj
          · exact ih _ _ _ _ _ _ _ _ hm hj
          · cases hj
        · rename_i hi
          exact absurd rfl (n2 _ _ hi).1
        · split at hj
          · exact ih _ _ _ _ _ _ _ _ hm hj
          · cases hj
        · split at hj
          · exact ih _ _ _ _ _ _ _ _ hm hj
          · cases hj
        · rename_i md mj k0 k1 k7 k8 hi
          have hmj : S mj = true := (n2 md mj hi).2 (fun z => k0 z) (fun z => k7 z) (fun z => k8 z)
          split at hj
          · split at hj
            · split at hj
              · rename_i r' h' hc
                exact (ih _ _ _ _ _ _ _ _ hmj hc).tr (ih _ _ _ _ _ _ _ _ hm hj)
              · cases hj
            · cases hj
          · cases hj
        · cases hj
      · split at hj
        · rename_i pcJ lv' stJ h' ho
          exact (lg_one n1 ho).tr (ih _ _ _ _ _ _ _ _ hm hj)
        · cases hj
    · cases hj
theorem lg_V {S : Nat → Bool} (hS : lg_N jP S) {d mi : Nat} {lv : J_L} {st : List Value} {h : J_H} (hm : S mi = true) : j_V jP d mi 0 lv st h (fun _ h' => lgR h h') := fun f r h' hj => lg_run hS f d mi 0 lv st h r h' hm hj
noncomputable def lg_b (S : Nat → Bool) : Bool := jm_all.all fun c => c.2.all fun q => !S q.1 || q.2.2.2.all fun c2 => c2.2.all fun e => lg_i e.2 && (match j_inv jP q.1 e.2 with
  | some (md, mj) => !Nat.beq md 1 && (Nat.beq md 0 || (Nat.beq md 7 || (Nat.beq md 8 || S mj)))
  | none => true)
theorem lg_N_of {S : Nat → Bool} (hb : lg_b S = true) : lg_N jP S := by
  intro mi pc ins hm hc
  have hc : (match j_fc jm_all mi with
    | some q => j_fc q.2.2 pc
    | none => none) = some ins := hc
  split at hc
  · rename_i q hq
    have h1 := j_fc_all (p := fun (q : Nat × j_MT) => !S q.1 || q.2.2.2.all fun c2 => c2.2.all fun e => lg_i e.2 && (match j_inv jP q.1 e.2 with
      | some (md, mj) => !Nat.beq md 1 && (Nat.beq md 0 || (Nat.beq md 7 || (Nat.beq md 8 || S mj)))
      | none => true)) hb hq
    rw [show (!S mi) = false by rw [hm]; rfl, Bool.false_or] at h1
    have h2 := j_fc_all (p := fun (e : Nat × Instr) => lg_i e.2 && (match j_inv jP mi e.2 with
      | some (md, mj) => !Nat.beq md 1 && (Nat.beq md 0 || (Nat.beq md 7 || (Nat.beq md 8 || S mj)))
      | none => true)) h1 hc
    obtain ⟨a1, a2⟩ := Bool.and_eq_true_iff.mp h2
    refine ⟨a1, fun md mj hi => ?_⟩
    have a2 : (match j_inv jP mi ins with
      | some (md, mj) => !Nat.beq md 1 && (Nat.beq md 0 || (Nat.beq md 7 || (Nat.beq md 8 || S mj)))
      | none => true) = true := a2
    rw [hi] at a2
    obtain ⟨a3, a4⟩ := Bool.and_eq_true_iff.mp (show (!Nat.beq md 1 && (Nat.beq md 0 || (Nat.beq md 7 || (Nat.beq md 8 || S mj)))) = true from a2)
    refine ⟨fun e => ?_, fun n0 n7 n8 => ?_⟩
    · rw [e] at a3; cases a3
    · rw [jc_nbeq n0, jc_nbeq n7, jc_nbeq n8] at a4
      exact a4
  · cases hc
def lgS (m : Nat) : Bool := (Nat.ble 168 m && Nat.ble m 179) || ((Nat.ble 201 m && Nat.ble m 290) || Nat.beq m 297)
set_option maxRecDepth 1000000 in
theorem lg_NS : lg_N jP lgS := lg_N_of (by decide +kernel)
def lgP (ci j : Nat) : Bool := Nat.beq ci 10 && Nat.beq j 27
set_option maxRecDepth 1000000 in
theorem lg_NP : jv_N jP lgS lgP := jv_N_of (by decide +kernel)
def pKg (mi : Nat) (As : List Value) (h : J_H) : Prop := j_V jP 15 mi 0 (lv_args 0 As) [] h (fun _ h' => lgR h h' ∧ jv_kp lgP h h')
theorem pKg_of {mi : Nat} {As : List Value} {h : J_H} (hm : lgS mi = true) : pKg mi As h := fun f r h' hj => ⟨lg_V lg_NS hm f r h' hj, jv_V lg_NP hm f r h' hj⟩

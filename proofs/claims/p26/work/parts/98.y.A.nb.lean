/-! runs that store bytes alone, and some fields that are ints -/
def nbC (pf : Nat → Nat → Bool) (c c' : J_C) : Prop := match c with
  | .inl (ci, fs) => ∃ fs', c' = .inl (ci, fs') ∧ fs'.length = fs.length ∧ ∀ j, (pf ci j = false → fs'[j]? = fs[j]?) ∧ ∀ x, fs[j]? = some (.int x) → ∃ y, fs'[j]? = some (.int y)
  | .inr (.inl (kd, l)) => (kd = 0 → c' = .inr (.inl (kd, l))) ∧ ∃ l', c' = .inr (.inl (kd, l')) ∧ l'.length = l.length
  | .inr (.inr x) => c' = .inr (.inr x)
def nbR (pf : Nat → Nat → Bool) (h h' : J_H) : Prop := h'.length = h.length ∧ ∀ (a : Nat) (c : J_C), h[a]? = some c → ∃ c', h'[a]? = some c' ∧ nbC pf c c'
theorem nbC.rf {pf : Nat → Nat → Bool} (c : J_C) : nbC pf c c := by
  match c with
  | .inl (ci, fs) => exact ⟨fs, rfl, rfl, fun j => ⟨fun _ => rfl, fun x e => ⟨x, e⟩⟩⟩
  | .inr (.inl (kd, l)) => exact ⟨fun _ => rfl, l, rfl, rfl⟩
  | .inr (.inr x) => exact rfl
theorem nbC.tr {pf : Nat → Nat → Bool} {a b c : J_C} (h : nbC pf a b) (g : nbC pf b c) : nbC pf a c := by
  match a with
  | .inl (ci, fs) =>
    obtain ⟨f1, rfl, l1, k1⟩ := h
    obtain ⟨f2, rfl, l2, k2⟩ := g
    exact ⟨f2, rfl, l2.trans l1, fun j => ⟨fun e => ((k2 j).1 e).trans ((k1 j).1 e), fun x e => by
      obtain ⟨y, ey⟩ := (k1 j).2 x e
      exact (k2 j).2 y ey⟩⟩
  | .inr (.inl (kd, l)) =>
    obtain ⟨h1, l1, rfl, e1⟩ := h
    obtain ⟨g1, l2, rfl, e2⟩ := g
    exact ⟨fun z => (g1 z).trans (h1 z), l2, rfl, e2.trans e1⟩
  | .inr (.inr x) =>
    obtain rfl := h
    exact g
theorem nbR.rf {pf : Nat → Nat → Bool} (h : J_H) : nbR pf h h := ⟨rfl, fun _ c hc => ⟨c, hc, nbC.rf c⟩⟩
theorem nbR.tr {pf : Nat → Nat → Bool} {h h1 h2 : J_H} (a : nbR pf h h1) (b : nbR pf h1 h2) : nbR pf h h2 := ⟨b.1.trans a.1, fun x c hc => by
  obtain ⟨c1, e1, k1⟩ := a.2 x c hc
  obtain ⟨c2, e2, k2⟩ := b.2 x c1 e1
  exact ⟨c2, e2, k1.tr k2⟩⟩
theorem nbR.st {pf : Nat → Nat → Bool} {h : J_H} {k : Nat} {c c' : J_C} (hc : h[k]? = some c) (e : nbC pf c c') : nbR pf h (h.set k c') := ⟨List.length_set, fun a x hx => by
  by_cases g : k = a
  · subst g
    rw [hc] at hx
    cases hx
    exact ⟨c', List.getElem?_set_self (List.getElem?_eq_some_iff.mp hc).1, e⟩
  · exact ⟨x, by rw [List.getElem?_set_ne g]; exact hx, nbC.rf x⟩⟩
def nb_i (P : j_P) (pf : Nat → Nat → Bool) (mi : Nat) : Instr → Bool
  | .putfield i => match j_fld P mi i with
    | some (ci, j, .int, _) => pf ci j
    | some _ => false
    | none => true
  | .new _ => false
  | .newarray _ => false
  | .anewarray _ => false
  | .iastore => false
  | .lastore => false
  | .aastore => false
  | _ => true
theorem nb_fit {v : Value} (h : j_fit .int v = true) : ∃ x, v = .int x := by
  cases v with
  | int x => exact ⟨x, rfl⟩
  | _ => exact absurd h (by simp [j_fit])
theorem nb_put {pf : Nat → Nat → Bool} {isI : Bool} {fl : Option j_F} {h h' : J_H} {st stJ : List Value} (hp : ∀ ci j ty fin, fl = some (ci, j, ty, fin) → pf ci j = true ∧ ty = .int) (hj : j_put isI fl h st = some (stJ, h')) : nbR pf h h' := by
  unfold j_put at hj
  split at hj
  · rename_i ci j ty fin v k r
    split at hj
    · rename_i ci' fs hc
      split at hj
      · rename_i hq
        obtain ⟨e1, e2⟩ := hp _ _ _ _ rfl
        subst e2
        obtain ⟨x, rfl⟩ := nb_fit hq.2.2.1
        cases hj
        obtain rfl := hq.1
        refine nbR.st hc ⟨fs.set j (.int x), rfl, List.length_set, fun i => ⟨fun z => ?_, fun y e => ?_⟩⟩
        · exact List.getElem?_set_ne (fun q => by rw [q, z] at e1; cases e1)
        · by_cases q : j = i
          · subst q
            exact ⟨x, List.getElem?_set_self hq.2.1⟩
          · exact ⟨y, by rw [List.getElem?_set_ne q]; exact e⟩
      · cases hj
    · cases hj
  · cases hj
theorem nb_ast {pf : Nat → Nat → Bool} {ins : Instr} {h h' : J_H} {st stJ : List Value} (n1 : ins ≠ .iastore) (n2 : ins ≠ .lastore) (n3 : ins ≠ .aastore) (hj : j_ast ins h st = some (stJ, h')) : nbR pf h h' := by
  unfold j_ast at hj
  split at hj
  · exact absurd rfl n1
  · split at hj
    · rename_i kd l hc
      split at hj
      · rename_i hq
        cases hj
        exact nbR.st hc ⟨fun z => absurd z hq.1, _, rfl, List.length_set⟩
      · cases hj
    · cases hj
  · exact absurd rfl n2
  · exact absurd rfl n3
  · cases hj
theorem nb_obj {P : j_P} {pf : Nat → Nat → Bool} {mi : Nat} {isI : Bool} {ins : Instr} {st stJ : List Value} {h h' : J_H} (hn : nb_i P pf mi ins = true) (hj : j_obj P mi isI ins st h = some (stJ, h')) : nbR pf h h' := by
  unfold j_obj at hj
  split at hj
  · obtain ⟨x, hx, he⟩ := Option.map_eq_some_iff.mp hj
    cases he
    exact nbR.rf _
  · rename_i i
    refine nb_put (fun ci j ty fin hf => ?_) hj
    have hn : (match j_fld P mi i with
      | some (ci, j, .int, _) => pf ci j
      | some _ => false
      | none => true) = true := hn
    rw [hf] at hn
    cases ty with
    | int => exact ⟨hn, rfl⟩
    | _ => cases hn
  · cases hn
  · cases hn
  · cases hn
  · cases hj
theorem nb_one {P : j_P} {pf : Nat → Nat → Bool} {mi nL pc : Nat} {isI : Bool} {ins : Instr} {lv lv' : J_L} {st stJ : List Value} {h h' : J_H} {pcJ : Nat} (hn : nb_i P pf mi ins = true) (hj : j_one P mi nL isI pc ins lv st h = some (pcJ, lv', stJ, h')) : nbR pf h h' := by
  unfold j_one at hj
  split at hj
  all_goals first
    | (cases hj; done)
    | (obtain ⟨x, hx, he⟩ := Option.map_eq_some_iff.mp hj
       cases he
       first
         | exact nbR.rf _
         | exact nb_obj hn hx
         | exact nb_ast (fun e => by rw [e] at hn; cases hn) (fun e => by rw [e] at hn; cases hn) (fun e => by rw [e] at hn; cases hn) hx)
def nb_N (P : j_P) (S : Nat → Bool) (pf : Nat → Nat → Bool) : Prop := ∀ mi pc ins, S mi = true → j_code P mi pc = some ins → nb_i P pf mi ins = true ∧ ∀ md mj, j_inv P mi ins = some (md, mj) → md ≠ 1 ∧ (md ≠ 0 → md ≠ 7 → md ≠ 8 → S mj = true)
theorem nb_run {P : j_P} {S : Nat → Bool} {pf : Nat → Nat → Bool} (hS : nb_N P S pf) : ∀ (f d mi pc : Nat) (lv : J_L) (st : List Value) (h : J_H) (r : Option Value) (hf : J_H), S mi = true → j_run P f d mi pc lv st h = some (r, hf) → nbR pf h hf := by
  intro f
  induction f with
  | zero => intro d mi pc lv st h r hf _ hj; cases hj
  | succ f ih =>
    intro d mi pc lv st h r hf hm hj
    unfold j_run at hj
    split at hj
    · rename_i M ins hM hins
      obtain ⟨n1, n2⟩ := hS mi pc ins hm hins
      split at hj
      · obtain ⟨x, -, he⟩ := Option.map_eq_some_iff.mp hj
        cases he
        exact nbR.rf _
      · split at hj
        · split at hj
          · exact ih _ _ _ _ _ _ _ _ hm hj
          · cases hj
        · rename_i hi
          exact absurd rfl (n2 _ _ hi).1
        · split at hj
          · exact ih _ _ _ _ _ _ _ _ hm hj
          · cases hj
        · split at hj
          · exact ih _ _ _ _ _ _ _ _ hm hj
          · cases hj
        · rename_i md mj k0 k1 k7 k8 hi
          have hmj : S mj = true := (n2 md mj hi).2 (fun z => k0 z) (fun z => k7 z) (fun z => k8 z)
          split at hj
          · split at hj
            · split at hj
              · rename_i r' h' hc
                exact (ih _ _ _ _ _ _ _ _ hmj hc).tr (ih _ _ _ _ _ _ _ _ hm hj)
              · cases hj
            · cases hj
          · cases hj
        · cases hj
      · split at hj
        · rename_i pcJ lv' stJ h' ho
          exact (nb_one n1 ho).tr (ih _ _ _ _ _ _ _ _ hm hj)
        · cases hj
    · cases hj
noncomputable def nb_b (S : Nat → Bool) (pf : Nat → Nat → Bool) : Bool := jm_all.all fun c => c.2.all fun q => !S q.1 || q.2.2.2.all fun c2 => c2.2.all fun e => nb_i jP pf q.1 e.2 && (match j_inv jP q.1 e.2 with
  | some (md, mj) => !Nat.beq md 1 && (Nat.beq md 0 || (Nat.beq md 7 || (Nat.beq md 8 || S mj)))
  | none => true)
theorem nb_N_of {S : Nat → Bool} {pf : Nat → Nat → Bool} (hb : nb_b S pf = true) : nb_N jP S pf := by
  intro mi pc ins hm hc
  have hc : (match j_fc jm_all mi with
    | some q => j_fc q.2.2 pc
    | none => none) = some ins := hc
  split at hc
  · rename_i q hq
    have h1 := j_fc_all (p := fun (q : Nat × j_MT) => !S q.1 || q.2.2.2.all fun c2 => c2.2.all fun e => nb_i jP pf q.1 e.2 && (match j_inv jP q.1 e.2 with
      | some (md, mj) => !Nat.beq md 1 && (Nat.beq md 0 || (Nat.beq md 7 || (Nat.beq md 8 || S mj)))
      | none => true)) hb hq
    rw [show (!S mi) = false by rw [hm]; rfl, Bool.false_or] at h1
    have h2 := j_fc_all (p := fun (e : Nat × Instr) => nb_i jP pf mi e.2 && (match j_inv jP mi e.2 with
      | some (md, mj) => !Nat.beq md 1 && (Nat.beq md 0 || (Nat.beq md 7 || (Nat.beq md 8 || S mj)))
      | none => true)) h1 hc
    obtain ⟨a1, a2⟩ := Bool.and_eq_true_iff.mp h2
    refine ⟨a1, fun md mj hi => ?_⟩
    have a2 : (match j_inv jP mi ins with
      | some (md, mj) => !Nat.beq md 1 && (Nat.beq md 0 || (Nat.beq md 7 || (Nat.beq md 8 || S mj)))
      | none => true) = true := a2
    rw [hi] at a2
    obtain ⟨a3, a4⟩ := Bool.and_eq_true_iff.mp (show (!Nat.beq md 1 && (Nat.beq md 0 || (Nat.beq md 7 || (Nat.beq md 8 || S mj)))) = true from a2)
    refine ⟨fun e => ?_, fun n0 n7 n8 => ?_⟩
    · rw [e] at a3; cases a3
    · rw [jc_nbeq n0, jc_nbeq n7, jc_nbeq n8] at a4
      exact a4
  · cases hc
theorem nb_V {S : Nat → Bool} {pf : Nat → Nat → Bool} (hS : nb_N jP S pf) {d mi : Nat} {lv : J_L} {st : List Value} {h : J_H} (hm : S mi = true) : j_V jP d mi 0 lv st h (fun _ h' => nbR pf h h') := fun f r h' hj => nb_run hS f d mi 0 lv st h r h' hm hj
/-- cells that such a run leaves -/
theorem nbR.int0 {pf : Nat → Nat → Bool} {h h' : J_H} (R : nbR pf h h') {a : Nat} {l : List Int32} (hc : h[a]? = some (.inr (.inl (0, l)))) : h'[a]? = some (.inr (.inl (0, l))) := by
  obtain ⟨c', e, k⟩ := R.2 a _ hc
  rw [e, k.1 rfl]
theorem nbR.oth {pf : Nat → Nat → Bool} {h h' : J_H} (R : nbR pf h h') {a : Nat} {x : List Int64 ⊕ List (Option Nat)} (hc : h[a]? = some (.inr (.inr x))) : h'[a]? = some (.inr (.inr x)) := by
  obtain ⟨c', e, k⟩ := R.2 a _ hc
  rw [e, show c' = .inr (.inr x) from k]
theorem nbR.obj {pf : Nat → Nat → Bool} {h h' : J_H} (R : nbR pf h h') {a ci : Nat} {fs : List Value} (hp : ∀ j, pf ci j = false) (hc : h[a]? = some (.inl (ci, fs))) : h'[a]? = some (.inl (ci, fs)) := by
  obtain ⟨c', e, fs', rfl, -, k⟩ := R.2 a _ hc
  rw [e, List.ext_getElem? (fun j => (k j).1 (hp j))]

/-! runs that never load some fields: what those alone refer to stays as it is -/
/-- not a reference to what is protected -/
def nf (B : Nat → Bool) (v : Value) : Prop := ∀ a, v = .ref a → B a = false
theorem nf.int {B : Nat → Bool} (x : Int32) : nf B (.int x) := fun _ h => nomatch h
theorem nf.long {B : Nat → Bool} (x : Int64) : nf B (.long x) := fun _ h => nomatch h
def nrS (B : Nat → Bool) (st : List Value) : Prop := ∀ v, v ∈ st → nf B v
def nrL (B : Nat → Bool) (lv : J_L) : Prop := ∀ q, q ∈ lv → nf B q.2
/-- the reference's object, of whose fields one (23) changes; what is not protected beside it is no object -/
def nrH (B : Nat → Bool) (F : Int32 → List Value) (h : J_H) : Prop := (∃ tm, h[359]? = some (.inl (10, F tm))) ∧ ∀ x, B x = false → x ≠ 359 → ∀ ci fs, h[x]? ≠ some (.inl (ci, fs))
def nrO (B G : Nat → Bool) (F : Int32 → List Value) : Prop := (∀ tm j v, G j = true → (F tm)[j]? = some v → nf B v) ∧ ∀ tm x, (F tm).set 23 (.int x) = F x
theorem nrS.nil {B : Nat → Bool} : nrS B [] := fun _ h => nomatch h
theorem nrS.cons {B : Nat → Bool} {v : Value} {st : List Value} (h : nf B v) (g : nrS B st) : nrS B (v :: st) := fun w hw => by
  rcases List.mem_cons.mp hw with e | e
  · rw [e]; exact h
  · exact g w e
theorem nrS.hd {B : Nat → Bool} {v : Value} {st : List Value} (h : nrS B (v :: st)) : nf B v := h v List.mem_cons_self
theorem nrS.tl {B : Nat → Bool} {v : Value} {st : List Value} (h : nrS B (v :: st)) : nrS B st := fun w hw => h w (List.mem_cons_of_mem _ hw)
theorem nr_stk {B : Nat → Bool} {ins : Instr} {st stJ : List Value} (hj : j_stk ins st = some stJ) (h : nrS B st) : nrS B stJ := by
  unfold j_stk at hj
  split at hj
  · cases hj; exact h.cons (nf.int _)
  · cases hj; exact h.cons (nf.int _)
  · cases hj; exact h.cons (nf.int _)
  · cases hj; exact h.cons (nf.long _)
  · split at hj
    · cases hj; exact (h.cons h.hd)
    · cases hj
  · split at hj
    · cases hj; exact h.tl
    · cases hj
  · split at hj
    · cases hj; exact (h.cons h.tl.hd).cons h.hd
    · cases hj
  · cases hj; exact h.tl.cons (nf.long _)
  · cases hj; exact h.tl.cons (nf.int _)
  · cases hj; exact h.tl.cons (nf.int _)
  · cases hj; exact h.tl.cons (nf.int _)
  · cases hj; exact h.tl.tl.cons (nf.int _)
  · obtain ⟨z, -, e⟩ := Option.map_eq_some_iff.mp hj
    cases e; exact h.tl.tl.cons (nf.int _)
  · obtain ⟨z, -, e⟩ := Option.map_eq_some_iff.mp hj
    cases e; exact h.tl.tl.cons (nf.long _)
  · obtain ⟨z, -, e⟩ := Option.map_eq_some_iff.mp hj
    cases e; exact h.tl.tl.cons (nf.long _)
  · cases hj
theorem nr_ld {B : Nat → Bool} : ∀ {lv : J_L} {i : Nat} {v : Value}, j_ld lv i = some v → nrL B lv → nf B v
  | [], _, _, h, _ => nomatch h
  | (k, w) :: r, i, v, h, g => by
    have h : (if k = i then some w else j_ld r i) = some v := h
    split at h
    · cases h; exact g _ List.mem_cons_self
    · exact nr_ld h (fun q hq => g q (List.mem_cons_of_mem _ hq))
theorem nr_lod {B : Nat → Bool} {ins : Instr} {lv : J_L} {st stJ : List Value} (hj : j_lod ins lv st = some stJ) (h : nrS B st) (g : nrL B lv) : nrS B stJ := by
  unfold j_lod at hj
  split at hj
  · cases hj
  · split at hj
    · rename_i v hv
      split at hj
      · cases hj; exact h.cons (nr_ld hv g)
      · cases hj
    · cases hj
theorem nrL.s1 {B : Nat → Bool} {lv : J_L} {i : Nat} {v : Value} (g : nrL B lv) (h : nf B v) : nrL B (j_s1 i v lv) := fun q hq => by
  unfold j_s1 at hq
  rcases List.mem_cons.mp hq with e | e
  · rw [e]; exact h
  · exact g q ((List.mem_filter.mp e).1)
theorem nrL.s2 {B : Nat → Bool} {lv : J_L} {i : Nat} {v : Value} (g : nrL B lv) (h : nf B v) : nrL B (j_s2 i v lv) := fun q hq => by
  unfold j_s2 at hq
  rcases List.mem_cons.mp hq with e | e
  · rw [e]; exact h
  · exact g q ((List.mem_filter.mp e).1)
theorem nr_sto {B : Nat → Bool} {ins : Instr} {nL : Nat} {lv lv' : J_L} {st stJ : List Value} (hj : j_sto ins nL lv st = some (lv', stJ)) (h : nrS B st) (g : nrL B lv) : nrL B lv' ∧ nrS B stJ := by
  unfold j_sto at hj
  split at hj
  · split at hj
    · split at hj
      · split at hj
        · cases hj; exact ⟨g.s2 h.hd, h.tl⟩
        · cases hj
      · split at hj
        · cases hj; exact ⟨g.s1 h.hd, h.tl⟩
        · cases hj
    · cases hj
  · cases hj
theorem nr_inc {B : Nat → Bool} {ins : Instr} {nL : Nat} {lv lv' : J_L} (hj : j_inc ins nL lv = some lv') (g : nrL B lv) : nrL B lv' := by
  unfold j_inc at hj
  split at hj
  · split at hj
    · split at hj
      · cases hj; exact g.s1 (nf.int _)
      · cases hj
    · cases hj
  · cases hj
theorem nr_br {B : Nat → Bool} {ins : Instr} {pc t : Nat} {st stJ : List Value} (hj : j_br ins pc st = some (t, stJ)) (h : nrS B st) : nrS B stJ := by
  unfold j_br at hj
  split at hj
  · obtain ⟨z, -, e⟩ := Option.map_eq_some_iff.mp hj
    cases e; exact h
  · obtain ⟨z, -, e⟩ := Option.map_eq_some_iff.mp hj
    cases e; exact h.tl
  · obtain ⟨z, -, e⟩ := Option.map_eq_some_iff.mp hj
    cases e; exact h.tl.tl
  · split at hj
    · obtain ⟨z, -, e⟩ := Option.map_eq_some_iff.mp hj
      cases e; exact h.tl
    · split at hj
      · obtain ⟨z, -, e⟩ := Option.map_eq_some_iff.mp hj
        cases e; exact h.tl
      · cases hj
  · split at hj
    · obtain ⟨z, -, e⟩ := Option.map_eq_some_iff.mp hj
      cases e; exact h.tl
    · cases hj
  · cases hj
/-- what an instruction of such a method may be -/
def nr_i (P : j_P) (G : Nat → Bool) (mi : Nat) : Instr → Bool
  | .getfield i => match j_fld P mi i with
    | some (ci, j, _, _) => Nat.beq ci 10 && G j
    | none => true
  | .putfield i => match j_fld P mi i with
    | some (ci, j, .int, _) => Nat.beq ci 10 && Nat.beq j 23
    | some _ => false
    | none => true
  | .new _ => false
  | .newarray _ => false
  | .anewarray _ => false
  | .aaload => false
  | _ => true
theorem nr_ald {B : Nat → Bool} {ins : Instr} {h : J_H} {st stJ : List Value} (hn : ins ≠ .aaload) (hj : j_ald ins h st = some stJ) (g : nrS B st) : nrS B stJ := by
  unfold j_ald at hj
  split at hj
  · split at hj
    · split at hj
      · cases hj; exact g.tl.tl.cons (nf.int _)
      · cases hj
    · cases hj
  · split at hj
    · split at hj
      · cases hj; exact g.tl.tl.cons (nf.int _)
      · cases hj
    · cases hj
  · split at hj
    · split at hj
      · cases hj; exact g.tl.tl.cons (nf.long _)
      · cases hj
    · cases hj
  · exact absurd rfl hn
  · split at hj
    · cases hj; exact g.tl.cons (nf.int _)
    · cases hj; exact g.tl.cons (nf.int _)
    · cases hj
  · cases hj
/-- what is protected stays; what is seen of it -/
def nrF (B : Nat → Bool) (h h' : J_H) : Prop := (∀ a, B a = true → h'[a]? = h[a]?) ∧ h'.length = h.length
theorem nrF.rf {B : Nat → Bool} {h : J_H} : nrF B h h := ⟨fun _ _ => rfl, rfl⟩
theorem nrF.tr {B : Nat → Bool} {h h1 h2 : J_H} (a : nrF B h h1) (b : nrF B h1 h2) : nrF B h h2 := ⟨fun x hx => (b.1 x hx).trans (a.1 x hx), b.2.trans a.2⟩
theorem nrF.st {B : Nat → Bool} {h : J_H} {k : Nat} {c : J_C} (hk : nf B (.ref k)) : nrF B h (h.set k c) := ⟨fun a ha => List.getElem?_set_ne (fun e => by
  rw [← e] at ha
  rw [hk k rfl] at ha
  cases ha), List.length_set⟩
theorem nrH.arr {B : Nat → Bool} {F : Int32 → List Value} {h : J_H} {k : Nat} {c c0 : (Nat × List Int32) ⊕ (List Int64 ⊕ List (Option Nat))} (H : nrH B F h) (hc : h[k]? = some (.inr c0)) : nrH B F (h.set k (.inr c)) := by
  obtain ⟨⟨tm, h1⟩, h2⟩ := H
  refine ⟨⟨tm, ?_⟩, fun x hx hn ci fs e => ?_⟩
  · rw [List.getElem?_set_ne (fun e => by rw [e, h1] at hc; cases hc)]; exact h1
  · by_cases q : k = x
    · subst q
      rw [List.getElem?_set_self (List.getElem?_eq_some_iff.mp hc).1] at e
      cases e
    · rw [List.getElem?_set_ne q] at e
      exact h2 x hx hn ci fs e
theorem nr_fit {v : Value} (h : j_fit .int v = true) : ∃ x, v = .int x := by
  cases v with
  | int x => exact ⟨x, rfl⟩
  | _ => exact absurd h (by simp [j_fit])
theorem nr_put {B G : Nat → Bool} {F : Int32 → List Value} (O : nrO B G F) {isI : Bool} {fl : Option j_F} {h h' : J_H} {st stJ : List Value} (hp : ∀ ci j ty fin, fl = some (ci, j, ty, fin) → ci = 10 ∧ j = 23 ∧ ty = .int) (hj : j_put isI fl h st = some (stJ, h')) (g : nrS B st) (H : nrH B F h) : nrS B stJ ∧ nrH B F h' ∧ nrF B h h' := by
  unfold j_put at hj
  split at hj
  · rename_i ci j ty fin v k r
    split at hj
    · rename_i ci' fs hc
      split at hj
      · rename_i hq
        obtain ⟨e1, e2, e3⟩ := hp _ _ _ _ rfl
        subst e1; subst e2; subst e3
        obtain ⟨x, rfl⟩ := nr_fit hq.2.2.1
        cases hj
        obtain ⟨⟨tm, h1⟩, h2⟩ := H
        have hk := g.tl.hd k rfl
        have e9 : k = 359 := Decidable.byContradiction fun q => h2 k hk q _ _ hc
        subst e9
        rw [h1] at hc
        cases hc
        refine ⟨g.tl.tl, ⟨⟨x, ?_⟩, fun y hy hn ca fa e => ?_⟩, nrF.st g.tl.hd⟩
        · rw [List.getElem?_set_self (List.getElem?_eq_some_iff.mp h1).1, O.2]
        · rw [List.getElem?_set_ne (fun q => hn q.symm)] at e
          exact h2 y hy hn ca fa e
      · cases hj
    · cases hj
  · cases hj
theorem nr_ast {B : Nat → Bool} {F : Int32 → List Value} {ins : Instr} {h h' : J_H} {st stJ : List Value} (hj : j_ast ins h st = some (stJ, h')) (g : nrS B st) (H : nrH B F h) : nrS B stJ ∧ nrH B F h' ∧ nrF B h h' := by
  unfold j_ast at hj
  split at hj
  · split at hj
    · split at hj
      · cases hj; exact ⟨g.tl.tl.tl, H.arr (by assumption), nrF.st g.tl.tl.hd⟩
      · cases hj
    · cases hj
  · split at hj
    · split at hj
      · cases hj; exact ⟨g.tl.tl.tl, H.arr (by assumption), nrF.st g.tl.tl.hd⟩
      · cases hj
    · cases hj
  · split at hj
    · split at hj
      · cases hj; exact ⟨g.tl.tl.tl, H.arr (by assumption), nrF.st g.tl.tl.hd⟩
      · cases hj
    · cases hj
  · split at hj
    · split at hj
      · cases hj; exact ⟨g.tl.tl.tl, H.arr (by assumption), nrF.st g.tl.tl.hd⟩
      · cases hj
    · cases hj
  · cases hj
theorem nr_acp {B : Nat → Bool} {F : Int32 → List Value} {h h' : J_H} {st stJ : List Value} (hj : j_acp h st = some (stJ, h')) (g : nrS B st) (H : nrH B F h) : nrS B stJ ∧ nrH B F h' ∧ nrF B h h' := by
  unfold j_acp at hj
  split at hj
  · split at hj
    · split at hj
      · cases hj; exact ⟨g.tl.tl.tl.tl.tl, H.arr (by assumption), nrF.st g.tl.tl.hd⟩
      · cases hj
    · split at hj
      · cases hj; exact ⟨g.tl.tl.tl.tl.tl, H.arr (by assumption), nrF.st g.tl.tl.hd⟩
      · cases hj
    · cases hj
  · cases hj
theorem nr_mm {B : Nat → Bool} {mx : Bool} {st stJ : List Value} (hj : j_mm mx st = some stJ) (g : nrS B st) : nrS B stJ := by
  unfold j_mm at hj
  split at hj
  · split at hj
    · cases hj; exact g.tl.tl.cons (nf.int _)
    · cases hj
  · cases hj
theorem nr_obi {B : Nat → Bool} {st stJ : List Value} (hj : j_obi st = some stJ) (g : nrS B st) : nrS B stJ := by
  unfold j_obi at hj
  split at hj
  · split at hj
    · cases hj; exact g.tl
    · cases hj
  · cases hj
theorem nr_ldk {B : Nat → Bool} {ins : Instr} {kk : Nat → Option Value} {st stJ : List Value} (hj : j_ldk ins kk st = some stJ) (g : nrS B st) : nrS B stJ := by
  unfold j_ldk at hj
  split at hj
  · split at hj
    · cases hj; exact g.cons (nf.int _)
    · cases hj
  · split at hj
    · cases hj; exact g.cons (nf.int _)
    · cases hj
  · split at hj
    · cases hj; exact g.cons (nf.long _)
    · cases hj
  · cases hj
theorem nr_get {B G : Nat → Bool} {F : Int32 → List Value} (O : nrO B G F) {fl : Option j_F} {h : J_H} {st stJ : List Value} (hp : ∀ ci j ty fin, fl = some (ci, j, ty, fin) → ci = 10 ∧ G j = true) (hj : j_get fl h st = some stJ) (g : nrS B st) (H : nrH B F h) : nrS B stJ := by
  unfold j_get at hj
  split at hj
  · rename_i ci j ty fin k r
    split at hj
    · rename_i ci' fs hc
      split at hj
      · rename_i e
        split at hj
        · rename_i v hv
          cases hj
          obtain ⟨⟨tm, h1⟩, h2⟩ := H
          have e9 : k = 359 := Decidable.byContradiction fun q => h2 k (g.hd k rfl) q _ _ hc
          subst e9
          rw [h1] at hc
          cases hc
          exact g.tl.cons (O.1 tm j v (hp _ _ _ _ rfl).2 hv)
        · cases hj
      · cases hj
    · cases hj
  · cases hj
theorem nr_obj {P : j_P} {B G : Nat → Bool} {F : Int32 → List Value} (O : nrO B G F) {mi : Nat} {isI : Bool} {ins : Instr} {st stJ : List Value} {h h' : J_H} (hn : nr_i P G mi ins = true) (hj : j_obj P mi isI ins st h = some (stJ, h')) (g : nrS B st) (H : nrH B F h) : nrS B stJ ∧ nrH B F h' ∧ nrF B h h' := by
  unfold j_obj at hj
  split at hj
  · rename_i i
    obtain ⟨x, hx, he⟩ := Option.map_eq_some_iff.mp hj
    cases he
    refine ⟨nr_get O (fun ci j ty fin hf => ?_) hx g H, H, nrF.rf⟩
    have hn : (match j_fld P mi i with
      | some (ci, j, _, _) => Nat.beq ci 10 && G j
      | none => true) = true := hn
    rw [hf] at hn
    obtain ⟨a, b⟩ := Bool.and_eq_true_iff.mp hn
    exact ⟨Nat.eq_of_beq_eq_true a, b⟩
  · rename_i i
    refine nr_put O (fun ci j ty fin hf => ?_) hj g H
    have hn : (match j_fld P mi i with
      | some (ci, j, .int, _) => Nat.beq ci 10 && Nat.beq j 23
      | some _ => false
      | none => true) = true := hn
    rw [hf] at hn
    cases ty with
    | int =>
      obtain ⟨a, b⟩ := Bool.and_eq_true_iff.mp hn
      exact ⟨Nat.eq_of_beq_eq_true a, Nat.eq_of_beq_eq_true b, rfl⟩
    | _ => cases hn
  · cases hn
  · cases hn
  · cases hn
  · cases hj
theorem nr_one {P : j_P} {B G : Nat → Bool} {F : Int32 → List Value} (O : nrO B G F) {mi nL pc : Nat} {isI : Bool} {ins : Instr} {lv lv' : J_L} {st stJ : List Value} {h h' : J_H} {pcJ : Nat} (hn : nr_i P G mi ins = true) (hj : j_one P mi nL isI pc ins lv st h = some (pcJ, lv', stJ, h')) (l : nrL B lv) (g : nrS B st) (H : nrH B F h) : nrL B lv' ∧ nrS B stJ ∧ nrH B F h' ∧ nrF B h h' := by
  unfold j_one at hj
  split at hj
  · obtain ⟨x, hx, he⟩ := Option.map_eq_some_iff.mp hj
    cases he; exact ⟨l, nr_stk hx g, H, nrF.rf⟩
  · obtain ⟨x, hx, he⟩ := Option.map_eq_some_iff.mp hj
    cases he; exact ⟨l, nr_lod hx g l, H, nrF.rf⟩
  · obtain ⟨⟨x1, x2⟩, hx, he⟩ := Option.map_eq_some_iff.mp hj
    cases he
    obtain ⟨a, b⟩ := nr_sto hx g l
    exact ⟨a, b, H, nrF.rf⟩
  · obtain ⟨x, hx, he⟩ := Option.map_eq_some_iff.mp hj
    cases he; exact ⟨nr_inc hx l, g, H, nrF.rf⟩
  · obtain ⟨⟨x1, x2⟩, hx, he⟩ := Option.map_eq_some_iff.mp hj
    cases he; exact ⟨l, nr_br hx g, H, nrF.rf⟩
  · obtain ⟨x, hx, he⟩ := Option.map_eq_some_iff.mp hj
    cases he
    refine ⟨l, nr_ald (fun e => ?_) hx g, H, nrF.rf⟩
    rw [e] at hn; cases hn
  · obtain ⟨⟨x1, x2⟩, hx, he⟩ := Option.map_eq_some_iff.mp hj
    cases he
    exact ⟨l, nr_ast hx g H⟩
  · obtain ⟨⟨x1, x2⟩, hx, he⟩ := Option.map_eq_some_iff.mp hj
    cases he
    exact ⟨l, nr_obj O hn hx g H⟩
  · obtain ⟨x, hx, he⟩ := Option.map_eq_some_iff.mp hj
    cases he; exact ⟨l, nr_ldk hx g, H, nrF.rf⟩
  · cases hj
theorem nr_args {B : Nat → Bool} : ∀ (As : List Value) (n : Nat), nrS B As → nrL B (lv_args n As)
  | [], _, _ => fun q hq => nomatch hq
  | v :: As, n, h => fun q hq => by
    unfold lv_args at hq
    rcases List.mem_cons.mp hq with e | e
    · rw [e]; exact h.hd
    · exact nr_args As _ h.tl q e
def nr_N (P : j_P) (S G : Nat → Bool) : Prop := ∀ mi pc ins, S mi = true → j_code P mi pc = some ins → nr_i P G mi ins = true ∧ ∀ md mj, j_inv P mi ins = some (md, mj) → md ≠ 0 → md ≠ 1 → md ≠ 7 → md ≠ 8 → S mj = true
theorem nr_ret {B : Nat → Bool} {ret : Option FieldType} {ins : Instr} {st : List Value} {r : Option Value} (hj : j_ret ret ins st = some r) (g : nrS B st) : ∀ v, r = some v → nf B v := by
  unfold j_ret at hj
  split at hj
  · split at hj
    · cases hj; intro v e; cases e; exact nf.int _
    · cases hj
  · cases hj; intro v e; cases e; exact nf.long _
  · cases hj; intro v e; cases e; exact g.hd
  · cases hj; intro v e; cases e; exact g.hd
  · cases hj; intro v e; cases e
  · cases hj
theorem nr_run {P : j_P} {B G S : Nat → Bool} {F : Int32 → List Value} (O : nrO B G F) (hS : nr_N P S G) : ∀ (f d mi pc : Nat) (lv : J_L) (st : List Value) (h : J_H) (r : Option Value) (hf : J_H), S mi = true → j_run P f d mi pc lv st h = some (r, hf) → nrL B lv → nrS B st → nrH B F h → (∀ v, r = some v → nf B v) ∧ nrH B F hf ∧ nrF B h hf := by
  intro f
  induction f with
  | zero => intro d mi pc lv st h r hf _ hj; cases hj
  | succ f ih =>
    intro d mi pc lv st h r hf hm hj l g H
    unfold j_run at hj
    split at hj
    · rename_i M ins hM hins
      obtain ⟨n1, n2⟩ := hS mi pc ins hm hins
      split at hj
      · obtain ⟨x, hx, he⟩ := Option.map_eq_some_iff.mp hj
        cases he
        exact ⟨nr_ret hx g, H, nrF.rf⟩
      · split at hj
        · split at hj
          · rename_i hx
            exact ih _ _ _ _ _ _ _ _ hm hj l (nr_obi hx g) H
          · cases hj
        · split at hj
          · rename_i stJ h' ha
            obtain ⟨a1, a2, a3⟩ := nr_acp ha g H
            obtain ⟨b1, b2, b3⟩ := ih _ _ _ _ _ _ _ _ hm hj l a1 a2
            exact ⟨b1, b2, a3.tr b3⟩
          · cases hj
        · split at hj
          · rename_i hx
            exact ih _ _ _ _ _ _ _ _ hm hj l (nr_mm hx g) H
          · cases hj
        · split at hj
          · rename_i hx
            exact ih _ _ _ _ _ _ _ _ hm hj l (nr_mm hx g) H
          · cases hj
        · rename_i md mj k0 k1 k7 k8 hi
          have hmj : S mj = true := n2 md mj hi (fun z => k0 z) (fun z => k1 z) (fun z => k7 z) (fun z => k8 z)
          split at hj
          · split at hj
            · rename_i As rest hs
              split at hj
              · rename_i r' h' hc
                have hs9 : nrS B As ∧ nrS B rest := by
                  unfold j_spl at hs
                  split at hs
                  · cases hs
                    exact ⟨fun v hv => g v (List.mem_of_mem_take (List.mem_reverse.mp hv)), fun v hv => g v (List.mem_of_mem_drop hv)⟩
                  · cases hs
                obtain ⟨a1, a2, a3⟩ := ih _ _ _ _ _ _ _ _ hmj hc (nr_args As 0 hs9.1) nrS.nil H
                obtain ⟨b1, b2, b3⟩ := ih _ _ _ _ _ _ _ _ hm hj l (fun v hv => by
                  rcases List.mem_append.mp hv with e | e
                  · cases r' with
                    | none => cases e
                    | some w => exact a1 v (by rw [show v = w from List.mem_singleton.mp e])
                  · exact hs9.2 v e) a2
                exact ⟨b1, b2, a3.tr b3⟩
              · cases hj
            · cases hj
          · cases hj
        · cases hj
      · split at hj
        · rename_i pcJ lv' stJ h' ho
          obtain ⟨a1, a2, a3, a4⟩ := nr_one O n1 ho l g H
          obtain ⟨b1, b2, b3⟩ := ih _ _ _ _ _ _ _ _ hm hj a1 a2 a3
          exact ⟨b1, b2, a4.tr b3⟩
        · cases hj
    · cases hj
noncomputable def nr_b (S G : Nat → Bool) : Bool := jm_all.all fun c => c.2.all fun q => !S q.1 || q.2.2.2.all fun c2 => c2.2.all fun e => nr_i jP G q.1 e.2 && (match j_inv jP q.1 e.2 with
  | some (md, mj) => Nat.beq md 0 || (Nat.beq md 1 || (Nat.beq md 7 || (Nat.beq md 8 || S mj)))
  | none => true)
theorem nr_N_of {S G : Nat → Bool} (hb : nr_b S G = true) : nr_N jP S G := by
  intro mi pc ins hm hc
  have hc : (match j_fc jm_all mi with
    | some q => j_fc q.2.2 pc
    | none => none) = some ins := hc
  split at hc
  · rename_i q hq
    have h1 := j_fc_all (p := fun (q : Nat × j_MT) => !S q.1 || q.2.2.2.all fun c2 => c2.2.all fun e => nr_i jP G q.1 e.2 && (match j_inv jP q.1 e.2 with
      | some (md, mj) => Nat.beq md 0 || (Nat.beq md 1 || (Nat.beq md 7 || (Nat.beq md 8 || S mj)))
      | none => true)) hb hq
    rw [show (!S mi) = false by rw [hm]; rfl, Bool.false_or] at h1
    have h2 := j_fc_all (p := fun (e : Nat × Instr) => nr_i jP G mi e.2 && (match j_inv jP mi e.2 with
      | some (md, mj) => Nat.beq md 0 || (Nat.beq md 1 || (Nat.beq md 7 || (Nat.beq md 8 || S mj)))
      | none => true)) h1 hc
    obtain ⟨a1, a2⟩ := Bool.and_eq_true_iff.mp h2
    refine ⟨a1, fun md mj hi n0 n1 n7 n8 => ?_⟩
    have a2 : (match j_inv jP mi ins with
      | some (md, mj) => Nat.beq md 0 || (Nat.beq md 1 || (Nat.beq md 7 || (Nat.beq md 8 || S mj)))
      | none => true) = true := a2
    rw [hi] at a2
    have a2 : (Nat.beq md 0 || (Nat.beq md 1 || (Nat.beq md 7 || (Nat.beq md 8 || S mj)))) = true := a2
    rw [jc_nbeq n0, jc_nbeq n1, jc_nbeq n7, jc_nbeq n8] at a2
    exact a2
  · cases hc
theorem nr_V {B G S : Nat → Bool} {F : Int32 → List Value} (O : nrO B G F) (hS : nr_N jP S G) {d mi : Nat} {As : List Value} {h : J_H} (hm : S mi = true) (hA : nrS B As) (H : nrH B F h) : j_V jP d mi 0 (lv_args 0 As) [] h (fun _ h' => nrH B F h' ∧ nrF B h h') := fun f r h' hj => (nr_run O hS f d mi 0 _ [] h r h' hm hj (nr_args As 0 hA) nrS.nil H).2

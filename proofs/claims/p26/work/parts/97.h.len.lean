/-! calls that make nothing: the heap keeps its cells' kinds and lengths -/
def j_same (h h' : J_H) : Prop := h'.length = h.length ∧ ∀ (a : Nat) (c : J_C), h[a]? = some c → ∃ c', h'[a]? = some c' ∧ jc_sh c' = jc_sh c
theorem j_same.rf {h : J_H} : j_same h h := ⟨rfl, fun _ c hc => ⟨c, hc, rfl⟩⟩
theorem j_same.tr {h h1 h2 : J_H} (a : j_same h h1) (b : j_same h1 h2) : j_same h h2 := ⟨b.1.trans a.1, fun x c hc => by
  obtain ⟨c1, k1, k2⟩ := a.2 x c hc
  obtain ⟨c2, k3, k4⟩ := b.2 x c1 k1
  exact ⟨c2, k3, k4.trans k2⟩⟩
theorem j_same.set {h : J_H} {k : Nat} {c c' : J_C} (hc : h[k]? = some c) (hs : jc_sh c' = jc_sh c) : j_same h (h.set k c') := by
  refine ⟨by simp, fun a d hd => ?_⟩
  by_cases e : k = a
  · subst e
    rw [hc] at hd
    cases hd
    exact ⟨c', List.getElem?_set_self (List.getElem?_eq_some_iff.mp hc).1, hs⟩
  · exact ⟨d, by rw [List.getElem?_set_ne e]; exact hd, rfl⟩
theorem j_put_same {isI : Bool} {fl : Option j_F} {h h' : J_H} {st stJ : List Value} (hj : j_put isI fl h st = some (stJ, h')) : j_same h h' := by
  unfold j_put at hj
  split at hj
  · split at hj
    · rename_i hc
      split at hj
      · rename_i hq
        cases hj
        exact j_same.set hc (by rw [hq.1]; simp [jc_sh])
      · cases hj
    · cases hj
  · cases hj
theorem j_ast_same {ins : Instr} {h h' : J_H} {st stJ : List Value} (hj : j_ast ins h st = some (stJ, h')) : j_same h h' := by
  unfold j_ast at hj
  split at hj
  · split at hj
    · rename_i hc
      split at hj
      · cases hj
        exact j_same.set hc (by simp [jc_sh])
      · cases hj
    · cases hj
  · split at hj
    · rename_i hc
      split at hj
      · cases hj
        exact j_same.set hc (by simp [jc_sh])
      · cases hj
    · cases hj
  · split at hj
    · rename_i hc
      split at hj
      · cases hj
        exact j_same.set hc (by simp [jc_sh])
      · cases hj
    · cases hj
  · split at hj
    · rename_i hc hv
      split at hj
      · cases hj
        exact j_same.set hc (by simp [jc_sh])
      · cases hj
    · cases hj
  · cases hj
theorem j_acp_same {h h' : J_H} {st stJ : List Value} (hj : j_acp h st = some (stJ, h')) : j_same h h' := by
  unfold j_acp at hj
  split at hj
  · split at hj
    · rename_i hc
      split at hj
      · cases hj
        exact j_same.set hc (by simp [jc_sh, j_cpy_len])
      · cases hj
    · rename_i hc
      split at hj
      · cases hj
        exact j_same.set hc (by simp [jc_sh, j_cpy_len])
      · cases hj
    · cases hj
  · cases hj
def j_nw1 : Instr → Bool
  | .new _ => false
  | .newarray _ => false
  | .anewarray _ => false
  | _ => true
def j_Nn (P : j_P) (S : Nat → Bool) : Prop := ∀ mi pc ins, S mi = true → j_code P mi pc = some ins → j_nw1 ins = true ∧ ∀ md mj, j_inv P mi ins = some (md, mj) → md ≠ 0 → md ≠ 1 → md ≠ 7 → md ≠ 8 → S mj = true
theorem j_obj_same {P : j_P} {mi : Nat} {isI : Bool} {ins : Instr} {st stJ : List Value} {h h' : J_H} (hn : j_nw1 ins = true) (hj : j_obj P mi isI ins st h = some (stJ, h')) : j_same h h' := by
  unfold j_obj at hj
  split at hj
  · obtain ⟨x, -, he⟩ := Option.map_eq_some_iff.mp hj
    cases he
    exact j_same.rf
  · exact j_put_same hj
  · cases hn
  · cases hn
  · cases hn
  · cases hj
theorem j_one_same {P : j_P} {mi nL pc : Nat} {isI : Bool} {ins : Instr} {lv lv' : J_L} {st stJ : List Value} {h h' : J_H} {pcJ : Nat} (hn : j_nw1 ins = true) (hj : j_one P mi nL isI pc ins lv st h = some (pcJ, lv', stJ, h')) : j_same h h' := by
  unfold j_one at hj
  split at hj
  all_goals first
    | (cases hj; done)
    | (obtain ⟨x, hx, he⟩ := Option.map_eq_some_iff.mp hj
       cases he
       first
         | exact j_same.rf
         | exact j_obj_same hn hx
         | exact j_ast_same hx)
theorem j_run_same {P : j_P} {S : Nat → Bool} (hS : j_Nn P S) : ∀ (f d mi pc : Nat) (lv : J_L) (st : List Value) (h : J_H) (r : Option Value) (hf : J_H), S mi = true → j_run P f d mi pc lv st h = some (r, hf) → j_same h hf := by
  intro f
  induction f with
  | zero => intro d mi pc lv st h r hf _ hj; cases hj
  | succ f ih =>
    intro d mi pc lv st h r hf hm hj
    unfold j_run at hj
    split at hj
    · rename_i M ins hM hins
      obtain ⟨n1, n2⟩ := hS mi pc ins hm hins
      split at hj
      · obtain ⟨x, -, he⟩ := Option.map_eq_some_iff.mp hj
        cases he
        exact j_same.rf
      · split at hj
        · split at hj
          · exact ih _ _ _ _ _ _ _ _ hm hj
          · cases hj
        · split at hj
          · rename_i stJ h' ha
            exact (j_acp_same ha).tr (ih _ _ _ _ _ _ _ _ hm hj)
          · cases hj
        · split at hj
          · exact ih _ _ _ _ _ _ _ _ hm hj
          · cases hj
        · split at hj
          · exact ih _ _ _ _ _ _ _ _ hm hj
          · cases hj
        · rename_i md mj k0 k1 k7 k8 hi
          have hmj : S mj = true := n2 md mj hi (fun z => k0 z) (fun z => k1 z) (fun z => k7 z) (fun z => k8 z)
          split at hj
          · split at hj
            · split at hj
              · rename_i r' h' hc
                exact (ih _ _ _ _ _ _ _ _ hmj hc).tr (ih _ _ _ _ _ _ _ _ hm hj)
              · cases hj
            · cases hj
          · cases hj
        · cases hj
      · split at hj
        · rename_i pcJ lv' stJ h' ho
          exact (j_one_same n1 ho).tr (ih _ _ _ _ _ _ _ _ hm hj)
        · cases hj
    · cases hj
theorem j_W.same {P : j_P} {S : Nat → Bool} (hS : j_Nn P S) {d mi pc : Nat} {lv : J_L} {st : List Value} {h : J_H} {Q : Option Value → J_H → Prop} (hm : S mi = true) (hw : j_W P d mi pc lv st h Q) : j_W P d mi pc lv st h (fun r h' => Q r h' ∧ j_same h h') := by
  obtain ⟨f, r, hf, h1, h2⟩ := hw
  exact ⟨f, r, hf, h1, h2, j_run_same hS _ _ _ _ _ _ _ _ _ hm h1⟩
/-- all methods but constructors -/
def jS (mi : Nat) : Bool := !([0, 4, 17, 26, 33, 47, 50, 58, 102, 111, 167].any (Nat.beq mi))
def jS_b : Bool := jm_all.all fun c => c.2.all fun q => !jS q.1 || q.2.2.2.all fun c2 => c2.2.all fun e => j_nw1 e.2 && (match j_inv jP q.1 e.2 with
  | some (md, mj) => Nat.beq md 0 || (Nat.beq md 1 || (Nat.beq md 7 || (Nat.beq md 8 || jS mj)))
  | none => true)
set_option maxRecDepth 1000000 in
theorem jS_1 : jS_b = true := by decide +kernel
theorem jS_ok : j_Nn jP jS := by
  intro mi pc ins hm hc
  have hc : (match j_fc jm_all mi with
    | some q => j_fc q.2.2 pc
    | none => none) = some ins := hc
  split at hc
  · rename_i q hq
    have h1 := j_fc_all (p := fun (q : Nat × j_MT) => !jS q.1 || q.2.2.2.all fun c2 => c2.2.all fun e => j_nw1 e.2 && (match j_inv jP q.1 e.2 with
      | some (md, mj) => Nat.beq md 0 || (Nat.beq md 1 || (Nat.beq md 7 || (Nat.beq md 8 || jS mj)))
      | none => true)) jS_1 hq
    rw [show (!jS mi) = false by rw [hm]; rfl, Bool.false_or] at h1
    have h2 := j_fc_all (p := fun (e : Nat × Instr) => j_nw1 e.2 && (match j_inv jP mi e.2 with
      | some (md, mj) => Nat.beq md 0 || (Nat.beq md 1 || (Nat.beq md 7 || (Nat.beq md 8 || jS mj)))
      | none => true)) h1 hc
    obtain ⟨a1, a2⟩ := Bool.and_eq_true_iff.mp h2
    refine ⟨a1, fun md mj hi n0 n1 n7 n8 => ?_⟩
    have a2 : (match j_inv jP mi ins with
      | some (md, mj) => Nat.beq md 0 || (Nat.beq md 1 || (Nat.beq md 7 || (Nat.beq md 8 || jS mj)))
      | none => true) = true := a2
    rw [hi] at a2
    have a2 : (Nat.beq md 0 || (Nat.beq md 1 || (Nat.beq md 7 || (Nat.beq md 8 || jS mj)))) = true := a2
    rw [jc_nbeq n0, jc_nbeq n1, jc_nbeq n7, jc_nbeq n8] at a2
    exact a2
  · cases hc
/-- a heap that is the same where the tables look -/
theorem jc_g.oth {E : jc_E} {X X' : J_H → Prop} {r : jc_R} {t : jc_T} {A : jc_A} {h h' : J_H} (hE : jc_Ok E) (hg : jc_g E X r t A h) (hs : j_same h h') (ha : ∀ a d, ja_n2 E.1 a = some d → ∀ i, jc_at h' a i = jc_at h a i) (hX : X' h') : jc_g E X' r t A h' := by
  obtain ⟨g1, g2, g3, g4, -⟩ := hg
  refine ⟨g1, fun a d hd => ?_, fun f m hm ho => ?_, fun p m hm ho => ?_, hX⟩
  · obtain ⟨c, c1, c2, c3⟩ := g2 a d hd
    obtain ⟨c', k1, k2⟩ := hs.2 a c c1
    refine ⟨c', k1, k2.trans c2, fun i v hv => c3 i v ?_⟩
    have := ha a d hd i
    rw [jc_at_of k1, jc_at_of c1, hv] at this
    exact this.symm
  · have := g3 f m hm ho
    unfold jc_fm at this ⊢
    split
    · rename_i e he
      rw [he] at this
      exact this
    · rename_i he
      rw [he] at this
      refine ⟨this.1, jc_in_eq (fun c hc => ?_) this.2⟩
      obtain ⟨d, g, e1, -⟩ := hE.2.1 f m hm c hc
      exact ha c.1 d e1 c.2
  · obtain ⟨x, x1, x2⟩ := g4 p m hm ho
    refine ⟨x, ?_, x2⟩
    split
    · rename_i e he
      rw [he] at x1
      exact x1
    · rename_i he
      rw [he] at x1
      obtain ⟨y, y1, y2⟩ := x1
      obtain ⟨d, g, e1, -⟩ := hE.2.2.1 p m hm
      exact ⟨y, by rw [ha _ d e1]; exact y1, y2⟩
/-- a call's ints in place of symbols, where only references are known of cells -/
def jc_refs (O : List (Nat × jc_v)) : Bool := O.all fun e => match e.2 with
  | .inl _ => false
  | .inr _ => true
theorem jc_g.args {E : jc_E} {X : J_H → Prop} {r r' : jc_R} {t : jc_T} {n n' : Nat} {B B' : jc_B} {O : List (Nat × jc_v)} {Of : List Nat} {h : J_H} (hg : jc_g E X r t (n, B, O, [], [], Of) h) (hO : jc_refs O = true) (hB : jc_gB r' n' B') : jc_g E X r' t (n', B', O, [], [], Of) h := by
  obtain ⟨g1, g2, g3, g4, g5⟩ := hg
  refine ⟨hB, fun a d hd => ?_, fun f m hm ho => g3 f m hm ho, fun p m hm ho => g4 p m hm ho, g5⟩
  obtain ⟨c, c1, c2, c3⟩ := g2 a d hd
  refine ⟨c, c1, c2, fun i v hv => ?_⟩
  have := c3 i v hv
  unfold jc_cl at this ⊢
  dsimp only at this ⊢
  split at this
  · rename_i s hs
    have hk := List.all_eq_true.mp hO _ (jc_lk_mem hs)
    rcases s with q | _ | _ | b
    · cases hk
    · obtain ⟨x, rfl⟩ := this.long; trivial
    · cases v <;> first | exact this.elim | trivial
    · have := this.ref; subst this; rfl
  · exact this

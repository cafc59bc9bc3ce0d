/-! runs that end: what they come to, if they do; fields that no method of a set writes -/
def j_V (P : j_P) (d mi pc : Nat) (lv : J_L) (st : List Value) (h : J_H) (Q : Option Value → J_H → Prop) : Prop := ∀ f r h', j_run P f d mi pc lv st h = some (r, h') → Q r h'
theorem j_V.mono {P : j_P} {d mi pc : Nat} {lv : J_L} {st : List Value} {h : J_H} {Q Q' : Option Value → J_H → Prop} (k : j_V P d mi pc lv st h Q) (hq : ∀ r h', Q r h' → Q' r h') : j_V P d mi pc lv st h Q' := fun f r h' z => hq _ _ (k f r h' z)
theorem j_W.toV {P : j_P} {d mi pc : Nat} {lv : J_L} {st : List Value} {h : J_H} {Q : Option Value → J_H → Prop} (k : j_W P d mi pc lv st h Q) : j_V P d mi pc lv st h Q := by
  obtain ⟨f, r, hf, h1, h2⟩ := k
  intro f' r' h' hj
  have e1 := j_moreK P h1 f'
  have e2 := j_moreK P hj f
  rw [Nat.add_comm f' f, e1] at e2
  cases e2
  exact h2
theorem j_W.andV {P : j_P} {d mi pc : Nat} {lv : J_L} {st : List Value} {h : J_H} {Q Q' : Option Value → J_H → Prop} (k : j_W P d mi pc lv st h Q) (v : j_V P d mi pc lv st h Q') : j_W P d mi pc lv st h (fun r h' => Q r h' ∧ Q' r h') := by
  obtain ⟨f, r, hf, h1, h2⟩ := k
  exact ⟨f, r, hf, h1, h2, v f r hf h1⟩
section JV
variable {P : j_P} {d mi pc : Nat} {lv : J_L} {st : List Value} {h h0 : J_H} {k : jk_K} {Q : Option Value → J_H → Prop}
theorem j_V.one {M : j_M} {ins : Instr} {pcJ : Nat} {lv' : J_L} {stJ : List Value} {h' : J_H} (hM : j_meth P mi = some M) (hc : j_code P mi pc = some ins) (hk : j_kd ins ≠ 9 ∧ j_kd ins ≠ 10) (ho : j_one P mi (j_nL M) (j_in M) pc ins lv st h = some (pcJ, lv', stJ, h')) (kk : j_V P d mi pcJ lv' stJ h' Q) : j_V P d mi pc lv st h Q := by
  intro f r hf hj
  cases f with
  | zero => cases hj
  | succ f =>
    unfold j_run at hj
    rw [hM, hc] at hj
    try dsimp only at hj
    split at hj
    · rename_i z; exact absurd z hk.1
    · rename_i z; exact absurd z hk.2
    · rw [ho] at hj
      exact kk f r hf hj
theorem j_V.ret {M : j_M} {ins : Instr} {r : Option Value} (hM : j_meth P mi = some M) (hc : j_code P mi pc = some ins) (hk : j_kd ins = 9) (hr : j_ret (j_rt M) ins st = some r) (hq : Q r h) : j_V P d mi pc lv st h Q := by
  intro f r' hf hj
  cases f with
  | zero => cases hj
  | succ f =>
    unfold j_run at hj
    rw [hM, hc] at hj
    try dsimp only at hj
    rw [hk] at hj
    try dsimp only at hj
    rw [hr] at hj
    cases hj
    exact hq
theorem j_V.call {M N : j_M} {ins : Instr} {md mj : Nat} {As rest : List Value} {Q1 : Option Value → J_H → Prop} (hM : j_meth P mi = some M) (hc : j_code P mi pc = some ins) (hk : j_kd ins = 10) (hi : j_inv P mi ins = some (md, mj)) (hmd : md ≠ 0 ∧ md ≠ 1 ∧ md ≠ 7 ∧ md ≠ 8) (hN : j_meth P mj = some N) (hs : j_spl md N h st = some (As, rest))
    (hcall : j_V P d mj 0 (lv_args 0 As) [] h Q1) (kk : ∀ r h', Q1 r h' → j_V P (d + 1) mi (pc + 3) lv (r.toList ++ rest) h' Q) : j_V P (d + 1) mi pc lv st h Q := by
  intro f r' hf hj
  cases f with
  | zero => cases hj
  | succ f =>
    obtain ⟨n1, n2, n3, n4⟩ := hmd
    unfold j_run at hj
    rw [hM, hc] at hj
    simp only [hk, hi, hN, hs] at hj
    split at hj
    · rename_i r1 h1 hc1
      exact kk r1 h1 (hcall f r1 h1 hc1) f r' hf hj
    · cases hj
theorem j_V.ifc {M : j_M} {c : ClassFile.Cond} {off : Int} {t : Nat} {x : Int32} (hM : j_meth P mi = some M) (hc : j_code P mi pc = some (.ifCond c off)) (ht : j_tgt pc off = some t) (kt : j_cond c x 0 = true → j_V P d mi t lv st h Q) (kf : j_cond c x 0 = false → j_V P d mi (pc + 3) lv st h Q) : j_V P d mi pc lv (.int x :: st) h Q := by
  refine j_V.one hM hc ⟨fun z => (by cases z), fun z => (by cases z)⟩ (pcJ := if j_cond c x 0 then t else pc + 3) (lv' := lv) (stJ := st) (h' := h) ?_ ?_
  · simp only [j_one, j_kd, j_br, ht, Option.map_some]
  · cases hb : j_cond c x 0 with
    | true => exact kt hb
    | false => exact kf hb
theorem j_V.icmp {M : j_M} {c : ClassFile.Cond} {off : Int} {t : Nat} {x y : Int32} (hM : j_meth P mi = some M) (hc : j_code P mi pc = some (.if_icmp c off)) (ht : j_tgt pc off = some t) (kt : j_cond c x y = true → j_V P d mi t lv st h Q) (kf : j_cond c x y = false → j_V P d mi (pc + 3) lv st h Q) : j_V P d mi pc lv (.int y :: .int x :: st) h Q := by
  refine j_V.one hM hc ⟨fun z => (by cases z), fun z => (by cases z)⟩ (pcJ := if j_cond c x y then t else pc + 3) (lv' := lv) (stJ := st) (h' := h) ?_ ?_
  · simp only [j_one, j_kd, j_br, ht, Option.map_some]
  · cases hb : j_cond c x y with
    | true => exact kt hb
    | false => exact kf hb
theorem j_V.getK {M : j_M} {i a ci j : Nat} {ty : FieldType} {fin : Nat} {fs : List Value} {v : Value} (hM : j_meth P mi = some M) (hc : j_code P mi pc = some (.getfield i)) (hf : j_fld P mi i = some (ci, j, ty, fin)) (K : KN h k h0) (ha : jk_lk k a = some (.inl (ci, fs))) (hv : fs[j]? = some v) (kk : j_V P d mi (pc + 3) lv (v :: st) h Q) : j_V P d mi pc lv (.ref a :: st) h Q :=
  j_V.one hM hc ⟨fun z => (by cases z), fun z => (by cases z)⟩ (by simp only [j_one, j_kd, j_obj, j_get, hf, K.at ha, if_true, hv, Option.map_some, j_ln]) kk
theorem j_V.putK {M : j_M} {i a ci j : Nat} {ty : FieldType} {fin : Nat} {fs fs' : List Value} {v : Value} {k' : jk_K} (hM : j_meth P mi = some M) (hc : j_code P mi pc = some (.putfield i)) (hf : j_fld P mi i = some (ci, j, ty, fin)) (K : KN h k h0) (ha : jk_lk k a = some (.inl (ci, fs))) (hj : j < fs.length) (hv : j_fit ty v = true) (hfin : fin = 0 ∨ (fin = 1 ∧ j_in M = true)) (hs : fs.set j v = fs') (hk : jk_st k a (.inl (ci, fs')) = k') (kk : ∀ h', KN h' k' h0 → j_V P d mi (pc + 3) lv st h' Q) : j_V P d mi pc lv (v :: .ref a :: st) h Q := by
  subst hs
  refine j_V.one hM hc ⟨fun z => (by cases z), fun z => (by cases z)⟩ (pcJ := pc + 3) (lv' := lv) (stJ := st) (h' := h.set a (.inl (ci, fs.set j v))) ?_ (kk _ (K.set ha hk))
  simp only [j_one, j_kd, j_obj, j_put, hf, K.at ha, j_ln]
  rw [if_pos ⟨trivial, hj, hv, hfin⟩]
  rfl
end JV
/-- objects keep their fields, those of p -/
def jv_kp (p : Nat → Nat → Bool) (h h' : J_H) : Prop := ∀ (a ci : Nat) (fs : List Value), h[a]? = some (.inl (ci, fs)) → ∃ fs', h'[a]? = some (.inl (ci, fs')) ∧ fs'.length = fs.length ∧ ∀ j, p ci j = true → fs'[j]? = fs[j]?
theorem jv_kp.rf {p : Nat → Nat → Bool} {h : J_H} : jv_kp p h h := fun _ _ fs hc => ⟨fs, hc, rfl, fun _ _ => rfl⟩
theorem jv_kp.tr {p : Nat → Nat → Bool} {h h1 h2 : J_H} (a : jv_kp p h h1) (b : jv_kp p h1 h2) : jv_kp p h h2 := fun x ci fs hc => by
  obtain ⟨f1, k1, k2, k3⟩ := a x ci fs hc
  obtain ⟨f2, k4, k5, k6⟩ := b x ci f1 k1
  exact ⟨f2, k4, k5.trans k2, fun j hj => (k6 j hj).trans (k3 j hj)⟩
theorem jv_kp.arr {p : Nat → Nat → Bool} {h : J_H} {k : Nat} {c c' : (Nat × List Int32) ⊕ (List Int64 ⊕ List (Option Nat))} (hc : h[k]? = some (.inr c)) : jv_kp p h (h.set k (.inr c')) := fun a ci fs hd => by
  by_cases e : k = a
  · subst e
    rw [hc] at hd
    cases hd
  · exact ⟨fs, by rw [List.getElem?_set_ne e]; exact hd, rfl, fun _ _ => rfl⟩
def jv_i (P : j_P) (p : Nat → Nat → Bool) (mi : Nat) : Instr → Bool
  | .putfield i => match j_fld P mi i with
    | some (ci, j, _, _) => !p ci j
    | none => true
  | .new _ => false
  | .newarray _ => false
  | .anewarray _ => false
  | _ => true
theorem jv_put {p : Nat → Nat → Bool} {isI : Bool} {fl : Option j_F} {h h' : J_H} {st stJ : List Value} (hp : ∀ ci j ty fin, fl = some (ci, j, ty, fin) → p ci j = false) (hj : j_put isI fl h st = some (stJ, h')) : jv_kp p h h' := by
  unfold j_put at hj
  split at hj
  · rename_i ci j ty fin v k r
    split at hj
    · rename_i ci' fs hc
      split at hj
      · rename_i hq
        cases hj
        intro a ca fa hd
        by_cases e : k = a
        · subst e
          rw [hc] at hd
          cases hd
          refine ⟨fs.set j v, by rw [List.getElem?_set_self (List.getElem?_eq_some_iff.mp hc).1, hq.1], by simp, fun i hi => ?_⟩
          have hne : j ≠ i := fun z => by
            subst z
            rw [hq.1, hp _ _ _ _ rfl] at hi
            cases hi
          exact List.getElem?_set_ne hne
        · exact ⟨fa, by rw [List.getElem?_set_ne e]; exact hd, rfl, fun _ _ => rfl⟩
      · cases hj
    · cases hj
  · cases hj
theorem jv_ast {p : Nat → Nat → Bool} {ins : Instr} {h h' : J_H} {st stJ : List Value} (hj : j_ast ins h st = some (stJ, h')) : jv_kp p h h' := by
  unfold j_ast at hj
  split at hj
  · split at hj
    · rename_i hc
      split at hj
      · cases hj; exact jv_kp.arr hc
      · cases hj
    · cases hj
  · split at hj
    · rename_i hc
      split at hj
      · cases hj; exact jv_kp.arr hc
      · cases hj
    · cases hj
  · split at hj
    · rename_i hc
      split at hj
      · cases hj; exact jv_kp.arr hc
      · cases hj
    · cases hj
  · split at hj
    · rename_i hc hv
      split at hj
      · cases hj; exact jv_kp.arr hc
      · cases hj
    · cases hj
  · cases hj
theorem jv_acp {p : Nat → Nat → Bool} {h h' : J_H} {st stJ : List Value} (hj : j_acp h st = some (stJ, h')) : jv_kp p h h' := by
  unfold j_acp at hj
  split at hj
  · split at hj
    · rename_i hc
      split at hj
      · cases hj; exact jv_kp.arr hc
      · cases hj
    · rename_i hc
      split at hj
      · cases hj; exact jv_kp.arr hc
      · cases hj
    · cases hj
  · cases hj
theorem jv_obj {P : j_P} {p : Nat → Nat → Bool} {mi : Nat} {isI : Bool} {ins : Instr} {st stJ : List Value} {h h' : J_H} (hn : jv_i P p mi ins = true) (hj : j_obj P mi isI ins st h = some (stJ, h')) : jv_kp p h h' := by
  unfold j_obj at hj
  split at hj
  · obtain ⟨x, -, he⟩ := Option.map_eq_some_iff.mp hj
    cases he
    exact jv_kp.rf
  · rename_i i
    refine jv_put (fun ci j ty fin hf => ?_) hj
    have hn : (match j_fld P mi i with
      | some (ci, j, _, _) => !p ci j
      | none => true) = true := hn
    rw [hf] at hn
    simpa using hn
  · cases hn
  · cases hn
  · cases hn
  · cases hj
theorem jv_one {P : j_P} {p : Nat → Nat → Bool} {mi nL pc : Nat} {isI : Bool} {ins : Instr} {lv lv' : J_L} {st stJ : List Value} {h h' : J_H} {pcJ : Nat} (hn : jv_i P p mi ins = true) (hj : j_one P mi nL isI pc ins lv st h = some (pcJ, lv', stJ, h')) : jv_kp p h h' := by
  unfold j_one at hj
  split at hj
  all_goals first
    | (cases hj; done)
    | (obtain ⟨x, hx, he⟩ := Option.map_eq_some_iff.mp hj
       cases he
       first
         | exact jv_kp.rf
         | exact jv_obj hn hx
         | exact jv_ast hx)
def jv_N (P : j_P) (S : Nat → Bool) (p : Nat → Nat → Bool) : Prop := ∀ mi pc ins, S mi = true → j_code P mi pc = some ins → jv_i P p mi ins = true ∧ ∀ md mj, j_inv P mi ins = some (md, mj) → md ≠ 0 → md ≠ 1 → md ≠ 7 → md ≠ 8 → S mj = true
theorem jv_run {P : j_P} {S : Nat → Bool} {p : Nat → Nat → Bool} (hS : jv_N P S p) : ∀ (f d mi pc : Nat) (lv : J_L) (st : List Value) (h : J_H) (r : Option Value) (hf : J_H), S mi = true → j_run P f d mi pc lv st h = some (r, hf) → jv_kp p h hf := by
  intro f
  induction f with
  | zero => intro d mi pc lv st h r hf _ hj; cases hj
  | succ f ih =>
    intro d mi pc lv st h r hf hm hj
    unfold j_run at hj
    split at hj
    · rename_i M ins hM hins
      obtain ⟨n1, n2⟩ := hS mi pc ins hm hins
      split at hj
      · obtain ⟨x, -, he⟩ := Option.map_eq_some_iff.mp hj
        cases he
        exact jv_kp.rf
      · split at hj
        · split at hj
          · exact ih _ _ _ _ _ _ _ _ hm hj
          · cases hj
        · split at hj
          · rename_i stJ h' ha
            exact (jv_acp ha).tr (ih _ _ _ _ _ _ _ _ hm hj)
          · cases hj
        · split at hj
          · exact ih _ _ _ _ _ _ _ _ hm hj
          · cases hj
        · split at hj
          · exact ih _ _ _ _ _ _ _ _ hm hj
          · cases hj
        · rename_i md mj k0 k1 k7 k8 hi
          have hmj : S mj = true := n2 md mj hi (fun z => k0 z) (fun z => k1 z) (fun z => k7 z) (fun z => k8 z)
          split at hj
          · split at hj
            · split at hj
              · rename_i r' h' hc
                exact (ih _ _ _ _ _ _ _ _ hmj hc).tr (ih _ _ _ _ _ _ _ _ hm hj)
              · cases hj
            · cases hj
          · cases hj
        · cases hj
      · split at hj
        · rename_i pcJ lv' stJ h' ho
          exact (jv_one n1 ho).tr (ih _ _ _ _ _ _ _ _ hm hj)
        · cases hj
    · cases hj
theorem jv_V {P : j_P} {S : Nat → Bool} {p : Nat → Nat → Bool} (hS : jv_N P S p) {d mi : Nat} {lv : J_L} {st : List Value} {h : J_H} (hm : S mi = true) : j_V P d mi 0 lv st h (fun _ h' => jv_kp p h h') := fun f r h' hj => jv_run hS f d mi 0 lv st h r h' hm hj
noncomputable def jv_b (S : Nat → Bool) (p : Nat → Nat → Bool) : Bool := jm_all.all fun c => c.2.all fun q => !S q.1 || q.2.2.2.all fun c2 => c2.2.all fun e => jv_i jP p q.1 e.2 && (match j_inv jP q.1 e.2 with
  | some (md, mj) => Nat.beq md 0 || (Nat.beq md 1 || (Nat.beq md 7 || (Nat.beq md 8 || S mj)))
  | none => true)
theorem jv_N_of {S : Nat → Bool} {p : Nat → Nat → Bool} (hb : jv_b S p = true) : jv_N jP S p := by
  intro mi pc ins hm hc
  have hc : (match j_fc jm_all mi with
    | some q => j_fc q.2.2 pc
    | none => none) = some ins := hc
  split at hc
  · rename_i q hq
    have h1 := j_fc_all (p := fun (q : Nat × j_MT) => !S q.1 || q.2.2.2.all fun c2 => c2.2.all fun e => jv_i jP p q.1 e.2 && (match j_inv jP q.1 e.2 with
      | some (md, mj) => Nat.beq md 0 || (Nat.beq md 1 || (Nat.beq md 7 || (Nat.beq md 8 || S mj)))
      | none => true)) hb hq
    rw [show (!S mi) = false by rw [hm]; rfl, Bool.false_or] at h1
    have h2 := j_fc_all (p := fun (e : Nat × Instr) => jv_i jP p mi e.2 && (match j_inv jP mi e.2 with
      | some (md, mj) => Nat.beq md 0 || (Nat.beq md 1 || (Nat.beq md 7 || (Nat.beq md 8 || S mj)))
      | none => true)) h1 hc
    obtain ⟨a1, a2⟩ := Bool.and_eq_true_iff.mp h2
    refine ⟨a1, fun md mj hi n0 n1 n7 n8 => ?_⟩
    have a2 : (match j_inv jP mi ins with
      | some (md, mj) => Nat.beq md 0 || (Nat.beq md 1 || (Nat.beq md 7 || (Nat.beq md 8 || S mj)))
      | none => true) = true := a2
    rw [hi] at a2
    have a2 : (Nat.beq md 0 || (Nat.beq md 1 || (Nat.beq md 7 || (Nat.beq md 8 || S mj)))) = true := a2
    rw [jc_nbeq n0, jc_nbeq n1, jc_nbeq n7, jc_nbeq n8] at a2
    exact a2
  · cases hc

/-! known cells: a heap that differs from another one in cells that are named -/
abbrev jk_K : Type := List (Nat × J_C)
def jk_lk : jk_K → Nat → Option J_C
  | [], _ => none
  | q :: k, a => match Nat.beq q.1 a with
    | true => some q.2
    | false => jk_lk k a
def jk_st : jk_K → Nat → J_C → jk_K
  | [], _, _ => []
  | q :: k, a, c => match Nat.beq q.1 a with
    | true => (q.1, c) :: k
    | false => q :: jk_st k a c
/-- all of l's cells written over k's -/
def jk_up : jk_K → jk_K → jk_K
  | k, [] => k
  | k, q :: l => jk_up (jk_st k q.1 q.2) l
def KN (h : J_H) (k : jk_K) (h0 : J_H) : Prop := (∀ a c, jk_lk k a = some c → h[a]? = some c) ∧ (∀ a, jk_lk k a = none → h[a]? = h0[a]?) ∧ h.length = h0.length
theorem jk_lk_st (a : Nat) (c : J_C) (x : Nat) : ∀ (k : jk_K), jk_lk (jk_st k a c) x = (match jk_lk k x with
  | none => none
  | some y => if a = x then some c else some y)
  | [] => rfl
  | q :: k => by
    have ih := jk_lk_st a c x k
    unfold jk_st
    by_cases h1 : q.1 = a
    · rw [show Nat.beq q.1 a = true from Nat.beq_eq.mpr h1]
      unfold jk_lk
      dsimp only
      by_cases h2 : q.1 = x
      · rw [show Nat.beq q.1 x = true from Nat.beq_eq.mpr h2]
        dsimp only
        rw [if_pos (h1.symm.trans h2)]
      · rw [show Nat.beq q.1 x = false from Bool.eq_false_iff.mpr fun z => h2 (Nat.beq_eq.mp z)]
        dsimp only
        cases hk : jk_lk k x with
        | none => rfl
        | some y => dsimp only; rw [if_neg (fun z => h2 (h1.trans z))]
    · rw [show Nat.beq q.1 a = false from Bool.eq_false_iff.mpr fun z => h1 (Nat.beq_eq.mp z)]
      dsimp only
      show jk_lk (q :: jk_st k a c) x = _
      unfold jk_lk
      by_cases h2 : q.1 = x
      · rw [show Nat.beq q.1 x = true from Nat.beq_eq.mpr h2]
        dsimp only
        rw [if_neg (fun z => h1 (h2.trans z.symm))]
      · rw [show Nat.beq q.1 x = false from Bool.eq_false_iff.mpr fun z => h2 (Nat.beq_eq.mp z)]
        exact ih
theorem KN.at {h h0 : J_H} {k : jk_K} {a : Nat} {c : J_C} (K : KN h k h0) (ha : jk_lk k a = some c) : h[a]? = some c := K.1 a c ha
theorem KN.set {h h0 : J_H} {k k' : jk_K} {a : Nat} {c c' : J_C} (K : KN h k h0) (ha : jk_lk k a = some c) (hk : jk_st k a c' = k') : KN (h.set a c') k' h0 := by
  subst hk
  have h1 := K.1 a c ha
  have hlt : a < h.length := (List.getElem?_eq_some_iff.mp h1).1
  refine ⟨fun x d hd => ?_, fun x hx => ?_, by rw [List.length_set]; exact K.2.2⟩
  · rw [jk_lk_st] at hd
    cases hy : jk_lk k x with
    | none => rw [hy] at hd; cases hd
    | some y =>
      rw [hy] at hd
      dsimp only at hd
      by_cases e : a = x
      · rw [if_pos e] at hd
        cases hd
        subst e
        exact List.getElem?_set_self hlt
      · rw [if_neg e] at hd
        cases hd
        rw [List.getElem?_set_ne e]
        exact K.1 x _ hy
  · rw [jk_lk_st] at hx
    cases hy : jk_lk k x with
    | none =>
      rw [List.getElem?_set_ne (fun e => by subst e; rw [ha] at hy; cases hy)]
      exact K.2.1 x hy
    | some y =>
      rw [hy] at hx
      dsimp only at hx
      split at hx <;> cases hx
theorem jk_st_is {k : jk_K} {a x : Nat} {c : J_C} (h : (jk_lk k x).isSome = true) : (jk_lk (jk_st k a c) x).isSome = true := by
  rw [jk_lk_st]
  cases hk : jk_lk k x with
  | none => rw [hk] at h; cases h
  | some y => dsimp only; split <;> rfl
theorem jk_up_lk : ∀ (l k : jk_K) (a : Nat), l.all (fun q => (jk_lk k q.1).isSome) = true → (l.map (·.1)).Nodup → jk_lk (jk_up k l) a = (match jk_lk l a with
  | some c => some c
  | none => jk_lk k a)
  | [], _, _, _, _ => rfl
  | q :: l, k, a, hs, hn => by
    obtain ⟨s1, s2⟩ := Bool.and_eq_true_iff.mp (show ((jk_lk k q.1).isSome && l.all (fun q => (jk_lk k q.1).isSome)) = true from hs)
    obtain ⟨n1, n2⟩ := List.nodup_cons.mp hn
    have ih := jk_up_lk l (jk_st k q.1 q.2) a (List.all_eq_true.mpr fun x hx => jk_st_is (List.all_eq_true.mp s2 x hx)) n2
    show jk_lk (jk_up (jk_st k q.1 q.2) l) a = _
    rw [ih]
    have e0 : jk_lk (q :: l) a = match Nat.beq q.1 a with
      | true => some q.2
      | false => jk_lk l a := rfl
    rw [e0]
    by_cases h2 : q.1 = a
    · rw [show Nat.beq q.1 a = true from Nat.beq_eq.mpr h2]
      dsimp only
      have hno : jk_lk l a = none := by
        cases hl : jk_lk l a with
        | none => rfl
        | some c =>
          exfalso
          refine n1 ?_
          show q.1 ∈ l.map (fun x => x.1)
          rw [h2]
          clear ih s2 n2 hs hn n1 e0
          induction l with
          | nil => cases hl
          | cons z l il =>
            unfold jk_lk at hl
            by_cases hz : z.1 = a
            · exact List.mem_map.mpr ⟨z, List.mem_cons_self, hz⟩
            · rw [show Nat.beq z.1 a = false from Bool.eq_false_iff.mpr fun y => hz (Nat.beq_eq.mp y)] at hl
              obtain ⟨w, w1, w2⟩ := List.mem_map.mp (il hl)
              exact List.mem_map.mpr ⟨w, List.mem_cons_of_mem _ w1, w2⟩
      rw [hno, jk_lk_st]
      rw [h2] at s1
      cases hk : jk_lk k a with
      | none => rw [hk] at s1; cases s1
      | some y => dsimp only; rw [if_pos h2]
    · rw [show Nat.beq q.1 a = false from Bool.eq_false_iff.mpr fun z => h2 (Nat.beq_eq.mp z)]
      dsimp only
      cases hl : jk_lk l a with
      | some c => rfl
      | none =>
        dsimp only
        rw [jk_lk_st]
        cases hk : jk_lk k a with
        | none => rfl
        | some y => dsimp only; rw [if_neg h2]
def jk_nd : jk_K → Bool
  | [] => true
  | q :: l => !(l.any fun z => Nat.beq z.1 q.1) && jk_nd l
theorem jk_nd_ok : ∀ {l : jk_K}, jk_nd l = true → (l.map (·.1)).Nodup
  | [], _ => List.nodup_nil
  | q :: l, h => by
    obtain ⟨h1, h2⟩ := Bool.and_eq_true_iff.mp (show (!(l.any fun z => Nat.beq z.1 q.1) && jk_nd l) = true from h)
    refine List.nodup_cons.mpr ⟨fun hm => ?_, jk_nd_ok h2⟩
    obtain ⟨w, w1, w2⟩ := List.mem_map.mp hm
    have : (l.any fun z => Nat.beq z.1 q.1) = true := List.any_eq_true.mpr ⟨w, w1, Nat.beq_eq.mpr w2⟩
    rw [this] at h1
    cases h1
/-- a run that started at h, knowing only some of the cells: its new cells over those known -/
theorem KN.go {h h0 h1 : J_H} {l k k' : jk_K} (K : KN h k h0) (L : KN h1 l h) (hs : l.all (fun q => (jk_lk k q.1).isSome) = true) (hn : jk_nd l = true) (hu : jk_up k l = k') : KN h1 k' h0 := by
  subst hu
  have hn := jk_nd_ok hn
  refine ⟨fun a c hc => ?_, fun a ha => ?_, L.2.2.trans K.2.2⟩
  · rw [jk_up_lk l k a hs hn] at hc
    cases hl : jk_lk l a with
    | none =>
      rw [hl] at hc
      rw [L.2.1 a hl]
      exact K.1 a c hc
    | some d =>
      rw [hl] at hc
      cases hc
      exact L.1 a _ hl
  · rw [jk_up_lk l k a hs hn] at ha
    cases hl : jk_lk l a with
    | none =>
      rw [hl] at ha
      rw [L.2.1 a hl]
      exact K.2.1 a ha
    | some d =>
      rw [hl] at ha
      cases ha
/-- where some of a heap's cells are so, it knows them of itself -/
theorem KN.of {h : J_H} {k : jk_K} (hk : ∀ q ∈ k, h[q.1]? = some q.2) : KN h k h := by
  refine ⟨fun a c hc => ?_, fun _ _ => rfl, rfl⟩
  induction k with
  | nil => cases hc
  | cons q k ih =>
    unfold jk_lk at hc
    by_cases e : q.1 = a
    · rw [show Nat.beq q.1 a = true from Nat.beq_eq.mpr e] at hc
      cases hc
      rw [← e]
      exact hk q List.mem_cons_self
    · rw [show Nat.beq q.1 a = false from Bool.eq_false_iff.mpr fun z => e (Nat.beq_eq.mp z)] at hc
      exact ih (fun x hx => hk x (List.mem_cons_of_mem _ hx)) hc
def jk_ins (k : jk_K) : jk_K → Prop
  | [] => True
  | q :: l => jk_lk k q.1 = some q.2 ∧ jk_ins k l
theorem KN.sub {h h0 : J_H} {k : jk_K} (K : KN h k h0) : ∀ {l : jk_K}, jk_ins k l → KN h l h := fun {l} hl => KN.of (by
  induction l with
  | nil => exact fun _ h => nomatch h
  | cons q l ih =>
    intro x hx
    rcases List.mem_cons.mp hx with rfl | hx
    · exact K.1 _ _ hl.1
    · exact ih hl.2 x hx)
section JKROWS
variable {P : j_P} {d mi pc : Nat} {lv : J_L} {st : List Value} {h h0 : J_H} {k : jk_K} {Q : Option Value → J_H → Prop}
theorem j_W.getK {M : j_M} {i a ci j : Nat} {ty : FieldType} {fin : Nat} {fs : List Value} {v : Value} (hM : j_meth P mi = some M) (hc : j_code P mi pc = some (.getfield i)) (hf : j_fld P mi i = some (ci, j, ty, fin)) (K : KN h k h0) (ha : jk_lk k a = some (.inl (ci, fs))) (hv : fs[j]? = some v) (kk : j_W P d mi (pc + 3) lv (v :: st) h Q) : j_W P d mi pc lv (.ref a :: st) h Q := j_W.get hM hc hf (K.at ha) hv kk
theorem j_W.putK {M : j_M} {i a ci j : Nat} {ty : FieldType} {fin : Nat} {fs fs' : List Value} {v : Value} {k' : jk_K} (hM : j_meth P mi = some M) (hc : j_code P mi pc = some (.putfield i)) (hf : j_fld P mi i = some (ci, j, ty, fin)) (K : KN h k h0) (ha : jk_lk k a = some (.inl (ci, fs))) (hj : j < fs.length) (hv : j_fit ty v = true) (hfin : fin = 0 ∨ (fin = 1 ∧ j_in M = true)) (hs : fs.set j v = fs') (hk : jk_st k a (.inl (ci, fs')) = k') (kk : ∀ h', KN h' k' h0 → j_W P d mi (pc + 3) lv st h' Q) : j_W P d mi pc lv (v :: .ref a :: st) h Q := by
  subst hs
  exact j_W.put hM hc hf (K.at ha) hj hv hfin (kk _ (K.set ha hk))
end JKROWS

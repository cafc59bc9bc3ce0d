/-! both programs stand alike: what holds between calls, once a railway is loaded -/
/-- what no act changes -/
def stA (n : Nat) (w' w : List Int32) : Prop := (∀ s k, s < 7 → k < 5 → fs w' s k = fs w s k) ∧ ∀ t k, t < n → k < 6 → k ≠ 3 → ft w' t k = ft w t k
theorem stA.rf (n : Nat) (w : List Int32) : stA n w w := ⟨fun _ _ _ _ => rfl, fun _ _ _ _ _ => rfl⟩
theorem stA.sy {n : Nat} {a b : List Int32} (h : stA n a b) : stA n b a := ⟨fun s k h1 h2 => (h.1 s k h1 h2).symm, fun t k h1 h2 h3 => (h.2 t k h1 h2 h3).symm⟩
theorem stA.tr {n : Nat} {a b c : List Int32} (h : stA n a b) (g : stA n b c) : stA n a c := ⟨fun s k h1 h2 => (h.1 s k h1 h2).trans (g.1 s k h1 h2), fun t k h1 h2 h3 => (h.2 t k h1 h2 h3).trans (g.2 t k h1 h2 h3)⟩
theorem stA.wW {n : Nat} {a b : List Int32} (h : stA n a b) (W : wW n b) : wW n a := fun t ht => by
  obtain ⟨v, h1, h2⟩ := W t ht
  exact ⟨v, h1, by rw [h.2 t 5 ht (by decide) (by decide)]; exact h2⟩
/-- what is known of now and of each saved state; w0: the state behind load -/
def wG (n S D : Nat) (w0 w : List Int32) : Prop := stA n w w0 ∧ wC n w ∧ wW n w ∧ ∃ m, m ≤ 999 ∧ wX n S w m D
def hR (L L' n S a e D : Nat) (w0 w kp : List Int32) (sst : Int32) (h : J_H) : Prop := hX L L' n S w sst h ∧ hA L n S kp a e h ∧ hM9 w kp sst (nI a) h ∧ kp.length = 6020 ∧ wG n S D w0 w ∧ ∀ i, i < a → wG n S D w0 (bk kp i)
/-- a question has been asked of the class, then of the reference -/
theorem hR.q {L L' n S a e D : Nat} {w0 w kp : List Int32} {sst st : Int32} {h h1 h2 : J_H} (R : hR L L' n S a e D w0 w kp sst h) (X : hX L L' n S w st h1) (F1 : ∀ x, 29 ≤ x → x < 281 → h1[x]? = h[x]?) (M : hM9 w kp st (nI a) h2) (F2 : ∀ x, ¬ (359 ≤ x ∧ x < 371) → h2[x]? = h1[x]?) (hL : L + 16 ≤ 359 := by decide) : hR L L' n S a e D w0 w kp st h2 :=
  ⟨⟨(F2 0 (by decide)).trans X.1, X.2.1.fr (fun x _ _ => F2 x (by omega)), X.2.2.fr (fun x _ _ => F2 x (by omega))⟩, R.2.1.fr (fun x g1 g2 => (F2 x (by omega)).trans (F1 x g1 g2)), M, R.2.2.2.1, R.2.2.2.2.1, R.2.2.2.2.2⟩
/-- a forecast on both sides: one answer, and alike again -/
theorem hR.f {L L' n S a e D : Nat} {w0 w kp : List Int32} {sst : Int32} {y : Int32 × Int32 × Int32} {rv : Option Value} {h h1 h2 : J_H} (R : hR L L' n S a e D w0 w kp sst h) (X : fqP L L' n S w y rv h h1) (M : hM9 w kp y.2.2 (nI a) h2) (F2 : ∀ x, ¬ (359 ≤ x ∧ x < 371) → h2[x]? = h1[x]?) (hL : L + 16 ≤ 359 := by decide) : hR L L' n S a e D w0 w kp y.2.2 h2 :=
  R.q X.2.1 (fun x g1 g2 => X.2.2.2 x (by omega) (by omega)) M F2 hL
theorem hR.wf {L L' n S a e D : Nat} {w0 w kp : List Int32} {sst : Int32} {h : J_H} (R : hR L L' n S a e D w0 w kp sst h) : wf n S w := hS9.opn R.1.2.1 (fun _ _ _ _ _ _ _ _ _ _ _ _ _ _ _ _ _ _ _ _ _ _ _ _ _ _ _ _ _ _ V => V.1)
/-- the reference's side, opened: of a call's contract k -/
theorem hR.m {L L' n S a e D : Nat} {w0 w kp : List Int32} {sst : Int32} {h h1 : J_H} (R : hR L L' n S a e D w0 w kp sst h) (F1 : ∀ x, 359 ≤ x → x < 371 → h1[x]? = h[x]?) : hM9 w kp sst (nI a) h1 := R.2.2.1.fr F1
/-- what undo wants -/
theorem hR.un {L L' n S a e D : Nat} {w0 w kp : List Int32} {sst : Int32} {h : J_H} (R : hR L L' n S a e D w0 w kp sst h) : ∀ i, i < a → (∀ s k, s < 7 → k < 5 → fs (bk kp i) s k = fs w s k) ∧ ∀ t k, t < n → k < 6 → k ≠ 3 → ft (bk kp i) t k = ft w t k := fun i hi => (R.2.2.2.2.2 i hi).1.tr R.2.2.2.2.1.1.sy

/-! the cells between calls, as they are known: written by wip/p5/gen_cells.py -/
def kn_all (h : J_H) : jk_K → Prop
  | [] => True
  | q :: k => h[q.1]? = some q.2 ∧ kn_all h k
theorem kn_lk {h : J_H} : ∀ {k : jk_K} {a : Nat} {c : J_C}, kn_all h k → jk_lk k a = some c → h[a]? = some c
  | [], _, _, _, hc => nomatch hc
  | q :: k, a, c, hk, hc => by
    unfold jk_lk at hc
    cases hb : Nat.beq q.1 a with
    | true =>
      rw [hb] at hc
      cases hc
      rw [← Nat.eq_of_beq_eq_true hb]
      exact hk.1
    | false =>
      rw [hb] at hc
      exact kn_lk hk.2 hc
theorem KN.all {h : J_H} {k : jk_K} (hk : kn_all h k) : KN h k h := ⟨fun _ _ hc => kn_lk hk hc, fun _ _ => rfl, rfl⟩
def i_a2 : List (Option jc_ty) → List Value → Prop
  | [], [] => True
  | T :: Ts, v :: vs => jc_tv T v ∧ i_a2 Ts vs
  | _, _ => False
theorem i_a2_of : ∀ {Ts : List (Option jc_ty)} {vs : List Value}, vs.length = Ts.length → (∀ (i : Nat) (T : Option jc_ty), Ts[i]? = some T → ∃ v, vs[i]? = some v ∧ jc_tv T v) → i_a2 Ts vs
  | [], [], _, _ => trivial
  | T :: Ts, v :: vs, hl, hi => ⟨by
      obtain ⟨w, w1, w2⟩ := hi 0 T rfl
      cases w1
      exact w2, i_a2_of (by simpa using hl) (fun i T' hT => hi (i + 1) T' hT)⟩
  | [], _ :: _, hl, _ => by cases hl
  | _ :: _, [], hl, _ => by cases hl
theorem i_a2_c {T : Option jc_ty} {Ts : List (Option jc_ty)} {fs : List Value} (h : i_a2 (T :: Ts) fs) : ∃ v vs, fs = v :: vs ∧ jc_tv T v ∧ i_a2 Ts vs := by
  cases fs with
  | nil => exact h.elim
  | cons v vs => exact ⟨v, vs, rfl, h.1, h.2⟩
theorem i_a2_n {fs : List Value} (h : i_a2 [] fs) : fs = [] := by
  cases fs with
  | nil => rfl
  | cons v vs => exact h.elim
theorem i_tv0 {v : Value} : jc_tv none v := by cases v <;> trivial
theorem i_tvl {v : Value} (h : jc_tv (some (.inr none)) v) : ∃ x : Int64, v = .long x := by
  cases v <;> first | exact h.elim | exact ⟨_, rfl⟩
noncomputable def i_ogT (E : jc_E) (O : List (Nat × jc_v)) (a i : Nat) (T : Option jc_ty) : Bool := match T with
  | none => true
  | some T' => match jc_lk O (jc_key a i) with
    | some s => (match s with
      | .inr (some (some b)) => decide (T' = .inr (some b))
      | _ => false)
    | none => (match ja_n2 E.1 a with
      | some d => (match jc_sg d.2 i with
        | some z => decide (z.1 = some T')
        | none => false)
      | none => false)
noncomputable def i_ok (E : jc_E) (a : Nat) (s : Nat × Nat × Nat) : Bool := match ja_n2 E.1 a with
  | some d => decide (d.1 = s)
  | none => false
theorem i_ok_ok {E : jc_E} {a : Nat} {s : Nat × Nat × Nat} (h : i_ok E a s = true) : ∃ d, ja_n2 E.1 a = some d ∧ d.1 = s := by
  unfold i_ok at h
  split at h
  · rename_i d hd
    exact ⟨d, hd, of_decide_eq_true h⟩
  · cases h
noncomputable def i_og (E : jc_E) (O : List (Nat × jc_v)) (a ci : Nat) (Ts : List (Option jc_ty)) : Bool := i_ok E a (0, ci, Ts.length) && i_al (fun i T => i_ogT E O a i T) Ts 0
theorem i_og_ok {E : jc_E} {X : J_H → Prop} {r : jc_R} {t : jc_T} {O : List (Nat × jc_v)} {Of : List Nat} {h : J_H} {a ci : Nat} {Ts : List (Option jc_ty)} (hg : jc_g E X r t (i_st O Of) h) (hq : i_og E O a ci Ts = true) : ∃ fs, h[a]? = some (.inl (ci, fs)) ∧ i_a2 Ts fs := by
  obtain ⟨q1, q2⟩ := Bool.and_eq_true_iff.mp hq
  obtain ⟨d, hd, e1⟩ := i_ok_ok q1
  obtain ⟨fs, f1, f2, f3⟩ := i_ob hg hd e1
  refine ⟨fs, f1, i_a2_of f2 fun i T hT => ?_⟩
  have hi : i < Ts.length := (List.getElem?_eq_some_iff.mp hT).1
  have hi2 : i < d.1.2.2 := by rw [e1]; exact hi
  have q3 : i_ogT E O a (0 + i) T = true := i_al_ok (p := fun i T => i_ogT E O a i T) q2 hT
  rw [Nat.zero_add] at q3
  cases T with
  | none => exact ⟨fs[i]'(by omega), List.getElem?_eq_getElem _, i_tv0⟩
  | some T' =>
    unfold i_ogT at q3
    dsimp only at q3
    split at q3
    · rename_i s hs
      split at q3
      · rename_i b
        obtain ⟨v, v1, v2⟩ := hg.atO hd hi2 hs
        refine ⟨v, by rw [← f3]; exact v1, ?_⟩
        rw [v2.ref, of_decide_eq_true q3]
        exact rfl
      · cases q3
    · rename_i hs
      rw [hd] at q3
      dsimp only at q3
      split at q3
      · rename_i z hz
        obtain ⟨v, v1, v2⟩ := hg.atT hd hi2 hs hz
        rw [of_decide_eq_true q3] at v2
        exact ⟨v, by rw [← f3]; exact v1, v2⟩
      · cases q3
theorem i_oi {E : jc_E} {X : J_H → Prop} {r : jc_R} {t : jc_T} {A : jc_A} {h : J_H} {a kd n : Nat} (hg : jc_g E X r t A h) (hq : i_ok E a (1, kd, n) = true) : ∃ l : List Int32, h[a]? = some (.inr (.inl (kd, l))) ∧ l.length = n := by
  obtain ⟨d, hd, e1⟩ := i_ok_ok hq
  exact i_ar hg hd e1
theorem i_ol {E : jc_E} {X : J_H → Prop} {r : jc_R} {t : jc_T} {A : jc_A} {h : J_H} {a n : Nat} (hg : jc_g E X r t A h) (hq : i_ok E a (2, 0, n) = true) : ∃ l : List Int64, h[a]? = some (.inr (.inr (.inl l))) ∧ l.length = n := by
  obtain ⟨d, hd, e1⟩ := i_ok_ok hq
  obtain ⟨c, c1, c2, -⟩ := hg.2.1 a d hd
  rw [e1] at c2
  rcases c with f | f | l | l
  · cases c2
  · cases c2
  · exact ⟨l, c1, congrArg (fun q => q.2.2) c2⟩
  · cases c2
theorem i_oo {E : jc_E} {X : J_H → Prop} {r : jc_R} {t : jc_T} {A : jc_A} {h : J_H} {a ci n : Nat} (hg : jc_g E X r t A h) (hq : i_ok E a (0, ci, n) = true) : ∃ fs : List Value, h[a]? = some (.inl (ci, fs)) ∧ fs.length = n := by
  obtain ⟨d, hd, e1⟩ := i_ok_ok hq
  obtain ⟨fs, f1, f2, -⟩ := i_ob hg hd e1
  exact ⟨fs, f1, f2⟩
theorem i_ati {h : J_H} {a i : Nat} {c : J_C} {x : Int32} {v : Value} (hc : h[a]? = some c) (hx : jc_get c i = some (.int x)) (hv : jc_at h a i = some v) : v = .int x := by
  rw [jc_at_of hc, hx] at hv
  exact (Option.some.inj hv).symm

/-! JC: loads and stores -/
noncomputable def jc_inW (W : jc_W) (a i : Nat) : Bool := List.rec (motive := fun _ => Bool) false (fun w _ ih => (Nat.beq w.1 a && (Nat.ble w.2.1 i && Nat.ble (i + 1) w.2.2)) || ih) W
def jc_fr (W : jc_W) (h h' : J_H) : Prop := ∀ a i, jc_inW W a i = false → jc_at h' a i = jc_at h a i
theorem jc_fr.rf {W : jc_W} {h : J_H} : jc_fr W h h := fun _ _ _ => rfl
theorem jc_fr.tr {W : jc_W} {h h1 h2 : J_H} (a : jc_fr W h h1) (b : jc_fr W h1 h2) : jc_fr W h h2 := fun x i hi => (b x i hi).trans (a x i hi)
def jc_Xo (E : jc_E) (X : J_H → Prop) : Prop := ∀ h h', (∀ a i, jc_inW E.2.2.2.2 a i = true → jc_at h' a i = jc_at h a i) → X h → X h'
section JC4
variable {E : jc_E} {X : J_H → Prop} {r : jc_R} {t : jc_T} {A : jc_A} {h : J_H} {W : jc_W}
theorem jc_fr.set {a i : Nat} {v : Value} {c c' : J_C} (hc : h[a]? = some c) (hp : jc_pt c i v c') (hw : jc_inW W a i = true) : jc_fr W h (h.set a c') := by
  intro b j hj
  refine (jc_at_set hc hp).2 b j ?_
  by_cases hb : b = a
  · refine Or.inr (fun z => ?_)
    rw [hb, z, hw] at hj
    cases hj
  · exact Or.inl hb
theorem jc_Xo.set {a i : Nat} {v : Value} {c c' : J_C} (hX : jc_Xo E X) (hc : h[a]? = some c) (hp : jc_pt c i v c') (hw : jc_inW E.2.2.2.2 a i = false) (hx : X h) : X (h.set a c') := by
  refine hX h _ (fun b j hj => ?_) hx
  refine (jc_at_set hc hp).2 b j ?_
  by_cases hb : b = a
  · refine Or.inr (fun z => ?_)
    rw [hb, z, hw] at hj
    cases hj
  · exact Or.inl hb
/-- a load from a known place -/
noncomputable def jc_load (E : jc_E) (A : jc_A) (a i : Nat) (K : jc_v → jc_A → Bool) : Bool := match ja_n2 E.1 a with
  | none => false
  | some d => match jc_sg d.2 i with
    | none => false
    | some g => match jc_opl E A g with
      | none => false
      | some A1 => match jc_mat E A1 a i with
        | none => false
        | some (s, A2) => match jc_rfl E g.2.2.2 A2 with
          | none => true
          | some A3 => K s (jc_ubs E g.2.2.1 A3)
theorem jc_load_ok {a i : Nat} {K : jc_v → jc_A → Bool} (hE : jc_Ok E) (hg : jc_g E X r t A h) (hj : jc_load E A a i K = true) : ∃ s A' r' v, K s A' = true ∧ jc_ext A.1 r r' ∧ A.1 ≤ A'.1 ∧ jc_g E X r' t A' h ∧ jc_at h a i = some v ∧ jc_val r' A'.1 s v := by
  unfold jc_load at hj
  split at hj
  · cases hj
  · split at hj
    · cases hj
    · rename_i g _
      split at hj
      · cases hj
      · rename_i A1 h1
        obtain ⟨r1, e1, n1, g1⟩ := jc_opl_ok hE hg h1
        split at hj
        · cases hj
        · rename_i s A2 h2
          obtain ⟨r2, e2, n2, g2, v, v1, v2⟩ := jc_mat_ok hE g1 h2
          obtain ⟨A3, a1, a2, a3⟩ := jc_rfl_ok g.2.2.2 g2
          rw [a1] at hj
          obtain ⟨b1, b2⟩ := jc_ubs_ok g.2.2.1 a3
          have hn : (jc_ubs E g.2.2.1 A3).1 = A2.1 := b1.trans a2
          exact ⟨s, _, r2, v, hj, e1.tr e2 n1, by rw [hn]; exact Nat.le_trans n1 n2, b2, v1, by rw [hn]; exact v2⟩
/-- all that a place belongs to is open or off -/
noncomputable def jc_all {α : Type} (p : α → Bool) (l : List α) : Bool := List.rec (motive := fun _ => Bool) true (fun x _ ih => p x && ih) l
theorem jc_all_ok {α : Type} {p : α → Bool} : ∀ {l : List α}, jc_all p l = true → ∀ x ∈ l, p x = true
  | [], _, _, h => nomatch h
  | y :: l, hj, x, h => by
    have hj : (p y && jc_all p l) = true := hj
    obtain ⟨j1, j2⟩ := Bool.and_eq_true_iff.mp hj
    rcases List.mem_cons.mp h with rfl | h
    · exact j1
    · exact jc_all_ok j2 x h
noncomputable def jc_isO (E : jc_E) (A : jc_A) (g : jc_Sg) : Bool := jc_all (fun f => match ja_n2 E.2.1 f with
  | some m => jc_off A.2.2.2.2.2 m.1 || (match jc_lk A.2.2.2.1 f with
    | some _ => true
    | none => false)
  | none => true) g.2.1 && jc_all (fun p => match ja_n2 E.2.2.1 p with
  | some m => jc_off A.2.2.2.2.2 m.1 || (match jc_lk A.2.2.2.2.1 p with
    | some _ => true
    | none => false)
  | none => true) g.2.2.1
theorem jc_isO_F {g : jc_Sg} (hj : jc_isO E A g = true) {f : Nat} {m : jc_Fa} (hf : f ∈ g.2.1) (hm : ja_n2 E.2.1 f = some m) (ho : jc_off A.2.2.2.2.2 m.1 = false) : jc_lk A.2.2.2.1 f ≠ none := by
  have := jc_all_ok (Bool.and_eq_true_iff.mp hj).1 f hf
  rw [hm] at this
  dsimp only at this
  rw [ho] at this
  intro z
  rw [z] at this
  cases this
theorem jc_isO_P {g : jc_Sg} (hj : jc_isO E A g = true) {p : Nat} {m : jc_Po} (hf : p ∈ g.2.2.1) (hm : ja_n2 E.2.2.1 p = some m) (ho : jc_off A.2.2.2.2.2 m.1 = false) : jc_lk A.2.2.2.2.1 p ≠ none := by
  have := jc_all_ok (Bool.and_eq_true_iff.mp hj).2 p hf
  rw [hm] at this
  dsimp only at this
  rw [ho] at this
  intro z
  rw [z] at this
  cases this
/-- a store to a known place -/
noncomputable def jc_stc (E : jc_E) (W : jc_W) (A : jc_A) (a i : Nat) (s : jc_v) : Option jc_A := match ja_n2 E.1 a with
  | none => none
  | some d => match jc_sg d.2 i with
    | none => none
    | some g => match jc_opn E A g with
      | none => none
      | some A1 => bif Nat.ble (i + 1) d.1.2.2 && (jc_inW W a i && (!jc_inW E.2.2.2.2 a i && jc_isO E A1 g)) then some (A1.1, A1.2.1, (jc_key a i, s) :: jc_wo A1.2.2.1 (jc_key a i), A1.2.2.2) else none
theorem jc_stc_ok {a i : Nat} {s : jc_v} {v : Value} {A' : jc_A} {c c' : J_C} (hE : jc_Ok E) (hX : jc_Xo E X) (hg : jc_g E X r t A h) (hs : jc_val r A.1 s v) (hj : jc_stc E W A a i s = some A') (hc : h[a]? = some c) (hp : jc_pt c i v c') : ∃ r', jc_ext A.1 r r' ∧ A.1 ≤ A'.1 ∧ jc_g E X r' t A' (h.set a c') ∧ jc_fr W h (h.set a c') := by
  unfold jc_stc at hj
  split at hj
  · cases hj
  · rename_i d hd
    split at hj
    · cases hj
    · rename_i g hsg
      split at hj
      · cases hj
      · rename_i A1 h1
        obtain ⟨r1, e1, n1, g1⟩ := jc_opn_ok hE hg h1
        cases hb : Nat.ble (i + 1) d.1.2.2 && (jc_inW W a i && (!jc_inW E.2.2.2.2 a i && jc_isO E A1 g)) with
        | false => rw [hb] at hj; cases hj
        | true =>
          rw [hb] at hj
          cases hj
          obtain ⟨b1, hb⟩ := Bool.and_eq_true_iff.mp hb
          obtain ⟨b2, hb⟩ := Bool.and_eq_true_iff.mp hb
          obtain ⟨b3, b4⟩ := Bool.and_eq_true_iff.mp hb
          have b3 : jc_inW E.2.2.2.2 a i = false := by simpa using b3
          refine ⟨r1, e1, n1, g1.put hE hd (Nat.le_of_ble_eq_true b1) hc hp (hs.up e1 n1) (fun f m hm ho hmem => ?_) (fun p m hm ho hmem => ?_) (hX.set hc hp b3 g1.2.2.2.2), jc_fr.set hc hp b2⟩
          · obtain ⟨d', g', d1, -, d3, d4⟩ := hE.2.1 f m hm _ hmem
            rw [hd] at d1
            cases d1
            rw [hsg] at d3
            cases d3
            exact jc_isO_F b4 d4 hm ho
          · obtain ⟨d', g', d1, -, d3, d4⟩ := hE.2.2.1 p m hm
            rw [← hmem] at d1 d3
            rw [hd] at d1
            cases d1
            rw [hsg] at d3
            cases d3
            exact jc_isO_P b4 d4 hm ho
/-- what lies within a type -/
noncomputable def jc_sub (B : jc_B) (s : jc_v) (T : Option jc_ty) : Bool := match T, s with
  | none, _ => true
  | some (.inl q), .inl g => (match jc_bd B g with
    | some b => jc_le q.1 b.1 && jc_le b.2 q.2
    | none => false)
  | some (.inr none), .inr none => true
  | some (.inr (some a)), .inr (some (some b)) => Nat.beq a b
  | _, _ => false
theorem jc_sub_ok {n : Nat} {B : jc_B} {s : jc_v} {T : Option jc_ty} {v : Value} (hB : jc_gB r n B) (hv : jc_val r n s v) (hj : jc_sub B s T = true) : jc_tv T v := by
  unfold jc_sub at hj
  split at hj
  · trivial
  · rename_i q g
    obtain ⟨x, rfl, x1, x2⟩ := hv.int
    split at hj
    · rename_i b hb
      obtain ⟨b1, b2⟩ := jc_bd_ok hB hb
      obtain ⟨j1, j2⟩ := Bool.and_eq_true_iff.mp hj
      have j1 := jc_le_t j1
      have j2 := jc_le_t j2
      show q.1 ≤ x.toInt ∧ x.toInt ≤ q.2
      omega
    · cases hj
  · obtain ⟨x, rfl⟩ := hv.long
    trivial
  · have hv := hv.ref
    subst hv
    exact (Nat.eq_of_beq_eq_true hj).symm
  · cases hj
/-- from where to where ints lie at places lo to hi -/
noncomputable def jc_hu (lo hi : Nat) (l : List (Nat × jc_Sg)) : Option (Int × Int) := List.rec (motive := fun _ => Option (Int × Int)) none (fun e _ ih => bif Nat.ble e.1 lo then ih else match e.2.1 with
  | some (.inl q) => bif Nat.ble (hi + 1) e.1 then some q else (match ih with
    | some z => some (jc_mn q.1 z.1, jc_mx q.2 z.2)
    | none => none)
  | _ => none) l
theorem jc_hu_ok {lo hi i : Nat} (h1 : lo ≤ i) (h2 : i ≤ hi) : ∀ {l : List (Nat × jc_Sg)} {z : Int × Int}, jc_hu lo hi l = some z → ∃ (g : jc_Sg) (q : Int × Int), jc_sg l i = some g ∧ g.1 = some (.inl q) ∧ z.1 ≤ q.1 ∧ q.2 ≤ z.2
  | [], z, h => by cases h
  | e :: l, z, h => by
    have h : (bif Nat.ble e.1 lo then jc_hu lo hi l else match e.2.1 with
      | some (.inl q) => bif Nat.ble (hi + 1) e.1 then some q else (match jc_hu lo hi l with
        | some z => some (jc_mn q.1 z.1, jc_mx q.2 z.2)
        | none => none)
      | _ => none) = some z := h
    have e0 : jc_sg (e :: l) i = cond (Nat.ble (i + 1) e.1) (some e.2) (jc_sg l i) := rfl
    rw [e0]
    cases c1 : Nat.ble e.1 lo with
    | true =>
      rw [c1, cond_true] at h
      have c1 := Nat.le_of_ble_eq_true c1
      have c2 : Nat.ble (i + 1) e.1 = false := by
        cases c2 : Nat.ble (i + 1) e.1 with
        | false => rfl
        | true => have := Nat.le_of_ble_eq_true c2; omega
      rw [c2, cond_false]
      exact jc_hu_ok h1 h2 h
    | false =>
      rw [c1, cond_false] at h
      split at h
      · rename_i q hq
        cases c3 : Nat.ble (hi + 1) e.1 with
        | true =>
          rw [c3] at h
          cases h
          have c3 := Nat.le_of_ble_eq_true c3
          rw [Nat.ble_eq_true_of_le (show i + 1 ≤ e.1 by omega), cond_true]
          exact ⟨_, _, rfl, hq, Int.le_refl _, Int.le_refl _⟩
        | false =>
          rw [c3, cond_false] at h
          split at h
          · rename_i z0 hz
            cases h
            cases c4 : Nat.ble (i + 1) e.1 with
            | true => exact ⟨_, _, rfl, hq, (jc_mn_l _ _).1, (jc_mx_l _ _).1⟩
            | false =>
              obtain ⟨g, q', a1, a2, a3, a4⟩ := jc_hu_ok h1 h2 hz
              exact ⟨g, q', a1, a2, Int.le_trans (jc_mn_l _ _).2 a3, Int.le_trans a4 (jc_mx_l _ _).2⟩
          · cases h
      · cases h
/-- whether a number lies among these -/
def jc_rng (kl kh k : Nat) : Bool := Nat.ble kl k && Nat.ble k kh
/-- a load from one of the places lo to hi -/
noncomputable def jc_ldw (E : jc_E) (A : jc_A) (a lo hi : Nat) : Option (jc_v × jc_A) := match ja_n2 E.1 a with
  | none => none
  | some d => bif Nat.ble (hi + 1) d.1.2.2 then (match jc_hu lo hi d.2 with
    | none => none
    | some z => bif jc_all (fun e => !jc_rng (jc_key a lo) (jc_key a hi) e.1 || jc_sub A.2.1 e.2 (some (.inl z))) A.2.2.1 then some (.inl (A.1, 0), (A.1 + 1, (A.1, z) :: A.2.1, A.2.2)) else none) else none
theorem jc_ldw_ok {a lo hi i : Nat} {s : jc_v} {A' : jc_A} (hg : jc_g E X r t A h) (h1 : lo ≤ i) (h2 : i ≤ hi) (hj : jc_ldw E A a lo hi = some (s, A')) : ∃ r' v, jc_ext A.1 r r' ∧ A.1 ≤ A'.1 ∧ jc_g E X r' t A' h ∧ jc_at h a i = some v ∧ jc_val r' A'.1 s v := by
  unfold jc_ldw at hj
  split at hj
  · cases hj
  · rename_i d hd
    cases hb : Nat.ble (hi + 1) d.1.2.2 with
    | false => rw [hb] at hj; cases hj
    | true =>
      rw [hb, cond_true] at hj
      have hb := Nat.le_of_ble_eq_true hb
      split at hj
      · cases hj
      · rename_i z hz
        cases hb2 : jc_all (fun e => !jc_rng (jc_key a lo) (jc_key a hi) e.1 || jc_sub A.2.1 e.2 (some (.inl z))) A.2.2.1 with
        | false => rw [hb2] at hj; cases hj
        | true =>
          rw [hb2] at hj
          cases hj
          obtain ⟨c, c1, c2, c3⟩ := hg.2.1 a d hd
          obtain ⟨v, hv⟩ := jc_get_some (c := c) (i := i) (by rw [c2]; omega)
          have hat : jc_at h a i = some v := by rw [jc_at_of c1]; exact hv
          have hcl := c3 i v hv
          have hz2 : ∃ x : Int32, v = .int x ∧ z.1 ≤ x.toInt ∧ x.toInt ≤ z.2 := by
            unfold jc_cl at hcl
            split at hcl
            · rename_i s0 hs0
              have hm := jc_all_ok hb2 _ (jc_lk_mem hs0)
              dsimp only at hm
              have hr : jc_rng (jc_key a lo) (jc_key a hi) (jc_key a i) = true := by
                unfold jc_rng jc_key
                rw [Nat.ble_eq_true_of_le (show a * 8192 + lo ≤ a * 8192 + i by omega), Nat.ble_eq_true_of_le (show a * 8192 + i ≤ a * 8192 + hi by omega)]
                rfl
              rw [hr] at hm
              have := jc_sub_ok hg.1 hcl (by simpa using hm)
              cases v <;> first | exact this.elim | exact ⟨_, rfl, this⟩
            · obtain ⟨g, q, a1, a2, a3, a4⟩ := jc_hu_ok h1 h2 hz
              have := hcl g a1
              rw [a2] at this
              cases v <;> first | exact this.elim | exact ⟨_, rfl, Int.le_trans a3 this.1, Int.le_trans this.2 a4⟩
          obtain ⟨x, rfl, hx⟩ := hz2
          have e := jc_up_ext r A.1 x.toInt
          exact ⟨_, _, e, Nat.le_succ _, hg.up (n' := A.1 + 1) e (Nat.le_succ _) (hg.1.up hx), hat, Nat.lt_succ_self _, by dsimp only; rw [jc_up_at]; omega⟩
end JC4

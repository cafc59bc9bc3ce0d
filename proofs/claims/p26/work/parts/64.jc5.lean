/-! JC: a store to one of several places -/
noncomputable def jc_sga (lo hi : Nat) (p : jc_Sg → Bool) (l : List (Nat × jc_Sg)) : Bool := List.rec (motive := fun _ => Bool) true (fun e _ ih => bif Nat.ble e.1 lo then ih else p e.2 && (bif Nat.ble (hi + 1) e.1 then true else ih)) l
theorem jc_sga_ok {lo hi i : Nat} (h1 : lo ≤ i) (h2 : i ≤ hi) {p : jc_Sg → Bool} {g : jc_Sg} : ∀ {l : List (Nat × jc_Sg)}, jc_sga lo hi p l = true → jc_sg l i = some g → p g = true
  | [], _, h => by cases h
  | e :: l, hj, h => by
    have hj : (bif Nat.ble e.1 lo then jc_sga lo hi p l else p e.2 && (bif Nat.ble (hi + 1) e.1 then true else jc_sga lo hi p l)) = true := hj
    have h : cond (Nat.ble (i + 1) e.1) (some e.2) (jc_sg l i) = some g := h
    cases c1 : Nat.ble e.1 lo with
    | true =>
      rw [c1, cond_true] at hj
      have c1 := Nat.le_of_ble_eq_true c1
      have c2 : Nat.ble (i + 1) e.1 = false := by
        cases c2 : Nat.ble (i + 1) e.1 with
        | false => rfl
        | true => have := Nat.le_of_ble_eq_true c2; omega
      rw [c2, cond_false] at h
      exact jc_sga_ok h1 h2 hj h
    | false =>
      rw [c1, cond_false] at hj
      obtain ⟨j1, j2⟩ := Bool.and_eq_true_iff.mp hj
      cases c4 : Nat.ble (i + 1) e.1 with
      | true =>
        rw [c4] at h
        cases h
        exact j1
      | false =>
        rw [c4, cond_false] at h
        cases c3 : Nat.ble (hi + 1) e.1 with
        | true =>
          have c3 := Nat.le_of_ble_eq_true c3
          rw [Nat.ble_eq_true_of_le (show i + 1 ≤ e.1 by omega)] at c4
          cases c4
        | false =>
          rw [c3, cond_false] at j2
          exact jc_sga_ok h1 h2 j2 h
theorem jc_lk_flt {α : Type} {p : Nat → Bool} (k : Nat) : ∀ l : List (Nat × α), jc_lk (jc_flt (fun e => p e.1) l) k = bif p k then jc_lk l k else none
  | [] => by
    show none = bif p k then none else none
    cases p k <;> rfl
  | e :: l => by
    have ih := jc_lk_flt (p := p) k l
    have e0 : jc_flt (fun e : Nat × α => p e.1) (e :: l) = cond (p e.1) (e :: jc_flt (fun e => p e.1) l) (jc_flt (fun e => p e.1) l) := rfl
    rw [e0]
    cases hb : Nat.beq e.1 k with
    | true =>
      have ek := Nat.eq_of_beq_eq_true hb
      rw [jc_lk_cons, hb, ek]
      cases hp : p k with
      | true =>
        rw [cond_true, cond_true, jc_lk_cons, hb]
        rfl
      | false =>
        rw [cond_false, ih, hp]
        rfl
    | false =>
      rw [jc_lk_cons, hb, cond_false]
      cases hp : p e.1 with
      | true => rw [cond_true, jc_lk_cons, hb, cond_false, ih]
      | false => rw [cond_false, ih]
noncomputable def jc_inWr (W : jc_W) (a lo hi : Nat) : Bool := List.rec (motive := fun _ => Bool) false (fun w _ ih => (Nat.beq w.1 a && (Nat.ble w.2.1 lo && Nat.ble (hi + 1) w.2.2)) || ih) W
theorem jc_inWr_ok {a lo hi i : Nat} (h1 : lo ≤ i) (h2 : i ≤ hi) : ∀ {W : jc_W}, jc_inWr W a lo hi = true → jc_inW W a i = true
  | [], h => by cases h
  | w :: W, h => by
    have h : ((Nat.beq w.1 a && (Nat.ble w.2.1 lo && Nat.ble (hi + 1) w.2.2)) || jc_inWr W a lo hi) = true := h
    show ((Nat.beq w.1 a && (Nat.ble w.2.1 i && Nat.ble (i + 1) w.2.2)) || jc_inW W a i) = true
    rcases Bool.or_eq_true_iff.mp h with h | h
    · obtain ⟨a1, a2⟩ := Bool.and_eq_true_iff.mp h
      obtain ⟨a2, a3⟩ := Bool.and_eq_true_iff.mp a2
      have a2 := Nat.le_of_ble_eq_true a2
      have a3 := Nat.le_of_ble_eq_true a3
      rw [a1, Nat.ble_eq_true_of_le (show w.2.1 ≤ i by omega), Nat.ble_eq_true_of_le (show i + 1 ≤ w.2.2 by omega)]
      rfl
    · rw [jc_inWr_ok h1 h2 h, Bool.or_true]
noncomputable def jc_nPR (W : jc_W) (a lo hi : Nat) : Bool := List.rec (motive := fun _ => Bool) true (fun w _ ih => (!Nat.beq w.1 a || (Nat.ble (hi + 1) w.2.1 || Nat.ble w.2.2 lo)) && ih) W
theorem jc_nPR_ok {a lo hi i : Nat} (h1 : lo ≤ i) (h2 : i ≤ hi) : ∀ {W : jc_W}, jc_nPR W a lo hi = true → jc_inW W a i = false
  | [], _ => rfl
  | w :: W, h => by
    have h : ((!Nat.beq w.1 a || (Nat.ble (hi + 1) w.2.1 || Nat.ble w.2.2 lo)) && jc_nPR W a lo hi) = true := h
    show ((Nat.beq w.1 a && (Nat.ble w.2.1 i && Nat.ble (i + 1) w.2.2)) || jc_inW W a i) = false
    obtain ⟨h0, h3⟩ := Bool.and_eq_true_iff.mp h
    rw [jc_nPR_ok h1 h2 h3, Bool.or_false]
    cases c0 : Nat.beq w.1 a with
    | false => rfl
    | true =>
      rw [c0] at h0
      have h0 : (Nat.ble (hi + 1) w.2.1 || Nat.ble w.2.2 lo) = true := h0
      rw [Bool.true_and]
      cases c1 : Nat.ble w.2.1 i && Nat.ble (i + 1) w.2.2 with
      | false => rfl
      | true =>
        obtain ⟨k1, k2⟩ := Bool.and_eq_true_iff.mp c1
        have k1 := Nat.le_of_ble_eq_true k1
        have k2 := Nat.le_of_ble_eq_true k2
        rcases Bool.or_eq_true_iff.mp h0 with h0 | h0 <;> have h0 := Nat.le_of_ble_eq_true h0 <;> omega
section JC5
variable {E : jc_E} {X : J_H → Prop} {r : jc_R} {t : jc_T} {A : jc_A} {h : J_H} {W : jc_W}
noncomputable def jc_stw (E : jc_E) (W : jc_W) (A : jc_A) (a lo hi : Nat) (s : jc_v) : Option jc_A := match ja_n2 E.1 a with
  | none => none
  | some d => bif Nat.ble (hi + 1) d.1.2.2 && (jc_inWr W a lo hi && (jc_nPR E.2.2.2.2 a lo hi && (jc_sga lo hi (fun g => jc_sub A.2.1 s g.1 && jc_isO E A g) d.2 && jc_all (fun e => !jc_rng (jc_key a lo) (jc_key a hi) e.1 || (match jc_sg d.2 (e.1 - jc_key a 0) with
    | some g => jc_sub A.2.1 e.2 g.1
    | none => false)) A.2.2.1))) then some (A.1, A.2.1, jc_flt (fun e => !jc_rng (jc_key a lo) (jc_key a hi) e.1) A.2.2.1, A.2.2.2) else none
theorem jc_stw_ok {a lo hi i : Nat} {s : jc_v} {v : Value} {A' : jc_A} {c c' : J_C} (hE : jc_Ok E) (hX : jc_Xo E X) (hg : jc_g E X r t A h) (hs : jc_val r A.1 s v) (h1 : lo ≤ i) (h2 : i ≤ hi) (hj : jc_stw E W A a lo hi s = some A') (hc : h[a]? = some c) (hp : jc_pt c i v c') : A'.1 = A.1 ∧ jc_g E X r t A' (h.set a c') ∧ jc_fr W h (h.set a c') := by
  unfold jc_stw at hj
  split at hj
  · cases hj
  · rename_i d hd
    cases hb : Nat.ble (hi + 1) d.1.2.2 && (jc_inWr W a lo hi && (jc_nPR E.2.2.2.2 a lo hi && (jc_sga lo hi (fun g => jc_sub A.2.1 s g.1 && jc_isO E A g) d.2 && jc_all (fun e => !jc_rng (jc_key a lo) (jc_key a hi) e.1 || (match jc_sg d.2 (e.1 - jc_key a 0) with
    | some g => jc_sub A.2.1 e.2 g.1
    | none => false)) A.2.2.1))) with
    | false => rw [hb] at hj; cases hj
    | true =>
      rw [hb] at hj
      cases hj
      obtain ⟨b1, hb⟩ := Bool.and_eq_true_iff.mp hb
      obtain ⟨b2, hb⟩ := Bool.and_eq_true_iff.mp hb
      obtain ⟨b3, hb⟩ := Bool.and_eq_true_iff.mp hb
      obtain ⟨b4, b5⟩ := Bool.and_eq_true_iff.mp hb
      have b1 := Nat.le_of_ble_eq_true b1
      have b2 := jc_inWr_ok h1 h2 b2
      have b3 := jc_nPR_ok h1 h2 b3
      have hlt := (List.getElem?_eq_some_iff.mp hc).1
      have hn := (jc_at_set hc hp).2
      obtain ⟨g1, g2, g3, g4, g5⟩ := hg
      have hd8 := hE.1 a d hd
      have hrng : ∀ b j, j < 8192 → (jc_rng (jc_key a lo) (jc_key a hi) (jc_key b j) = true ↔ b = a ∧ lo ≤ j ∧ j ≤ hi) := by
        intro b j hj
        unfold jc_rng jc_key
        rw [Bool.and_eq_true, Nat.ble_eq, Nat.ble_eq]
        omega
      refine ⟨rfl, ⟨g1, fun b e he => ?_, fun f m hm ho => ?_, fun p m hm ho => ?_, hX.set hc hp b3 g5⟩, jc_fr.set hc hp b2⟩
      · obtain ⟨c0, c1, c2, c3⟩ := g2 b e he
        have key : ∀ j w, (b ≠ a ∨ j ≠ i) → jc_get c0 j = some w → jc_cl r (A.1, A.2.1, jc_flt (fun e => !jc_rng (jc_key a lo) (jc_key a hi) e.1) A.2.2.1, A.2.2.2) e b j w := by
          intro j w hbj hw
          have hj8 : j < 8192 := by
            have := jc_get_lt hw
            rw [c2] at this
            exact Nat.lt_of_lt_of_le this (hE.1 b e he)
          have h3 := c3 j w hw
          unfold jc_cl at h3 ⊢
          dsimp only
          rw [jc_lk_flt (p := fun k => !jc_rng (jc_key a lo) (jc_key a hi) k)]
          cases hr : jc_rng (jc_key a lo) (jc_key a hi) (jc_key b j) with
          | false =>
            rw [Bool.not_false, cond_true]
            exact h3
          | true =>
            rw [Bool.not_true, cond_false]
            obtain ⟨rfl, r1, r2⟩ := (hrng b j hj8).mp hr
            rw [hd] at he
            cases he
            split at h3
            · rename_i s0 hs0
              have hm := jc_all_ok b5 _ (jc_lk_mem hs0)
              dsimp only at hm
              rw [hr] at hm
              have ej : jc_key b j - jc_key b 0 = j := by unfold jc_key; omega
              rw [ej] at hm
              intro T hT
              rw [hT] at hm
              exact jc_sub_ok g1 h3 (by simpa using hm)
            · exact h3
        by_cases hb' : b = a
        · subst hb'
          rw [hd] at he
          cases he
          rw [hc] at c1
          cases c1
          refine ⟨c', List.getElem?_set_self hlt, by rw [hp.1]; exact c2, fun j w hw => ?_⟩
          by_cases hj : j = i
          · subst hj
            rw [hp.2.1] at hw
            cases hw
            unfold jc_cl
            dsimp only
            rw [jc_lk_flt (p := fun k => !jc_rng (jc_key b lo) (jc_key b hi) k), (hrng b j (by omega)).mpr ⟨rfl, h1, h2⟩]
            intro T hT
            have := jc_sga_ok h1 h2 b4 hT
            exact jc_sub_ok g1 hs (Bool.and_eq_true_iff.mp this).1
          · rw [hp.2.2 j hj] at hw
            exact key j w (Or.inr hj) hw
        · exact ⟨c0, by rw [List.getElem?_set_ne (fun z => hb' z.symm)]; exact c1, c2, fun j w hw => key j w (Or.inl hb') hw⟩
      · have h0 := g3 f m hm ho
        unfold jc_fm at h0 ⊢
        dsimp only at h0 ⊢
        split
        · rename_i e he
          rw [he] at h0
          exact h0
        · rename_i he
          rw [he] at h0
          refine ⟨h0.1, jc_in_put hn (fun z => ?_) h0.2⟩
          obtain ⟨d', g', d1, -, d3, d4⟩ := hE.2.1 f m hm _ z
          rw [hd] at d1
          cases d1
          exact jc_isO_F (Bool.and_eq_true_iff.mp (jc_sga_ok h1 h2 b4 d3)).2 d4 hm ho he
      · obtain ⟨x, x1, x2⟩ := g4 p m hm ho
        refine ⟨x, ?_, x2⟩
        dsimp only
        split
        · rename_i e he
          rw [he] at x1
          exact x1
        · rename_i he
          rw [he] at x1
          obtain ⟨y, y1, y2⟩ := x1
          refine ⟨y, ?_, y2⟩
          rw [hn _ _ (by
            by_cases hb : m.2.1.1 = a
            · refine Or.inr (fun z => ?_)
              obtain ⟨d', g', d1, -, d3, d4⟩ := hE.2.2.1 p m hm
              rw [hb] at d1
              rw [hd] at d1
              cases d1
              rw [z] at d3
              exact jc_isO_P (Bool.and_eq_true_iff.mp (jc_sga_ok h1 h2 b4 d3)).2 d4 hm ho he
            · exact Or.inl hb)]
          exact y1
end JC5

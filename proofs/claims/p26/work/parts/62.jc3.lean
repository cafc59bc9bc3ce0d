/-! JC: bounds grow narrower, rows of open families drop out -/
def jc_le (a b : Int) : Bool := match a, b with
  | .ofNat m, .ofNat n => Nat.ble m n
  | .negSucc _, .ofNat _ => true
  | .ofNat _, .negSucc _ => false
  | .negSucc m, .negSucc n => Nat.ble n m
theorem jc_le_iff (a b : Int) : jc_le a b = true ↔ a ≤ b := by
  unfold jc_le
  cases a with
  | ofNat m =>
    cases b with
    | ofNat n =>
      dsimp only
      rw [Nat.ble_eq]
      exact Int.ofNat_le.symm
    | negSucc n =>
      dsimp only
      constructor
      · intro z; cases z
      · intro z
        have h1 : (0 : Int) ≤ Int.ofNat m := Int.natCast_nonneg m
        have h2 : Int.negSucc n < 0 := Int.negSucc_lt_zero n
        omega
  | negSucc m =>
    cases b with
    | ofNat n =>
      dsimp only
      constructor
      · intro _
        have h1 : (0 : Int) ≤ Int.ofNat n := Int.natCast_nonneg n
        have h2 : Int.negSucc m < 0 := Int.negSucc_lt_zero m
        omega
      · intro _; rfl
    | negSucc n =>
      dsimp only
      rw [Nat.ble_eq]
      have e1 : Int.negSucc m = -((m : Int) + 1) := Int.negSucc_eq m
      have e2 : Int.negSucc n = -((n : Int) + 1) := Int.negSucc_eq n
      omega
theorem jc_le_t {a b : Int} (h : jc_le a b = true) : a ≤ b := (jc_le_iff a b).mp h
theorem jc_le_f {a b : Int} (h : jc_le a b = false) : b < a := by
  have h1 : ¬ a ≤ b := fun z => by rw [(jc_le_iff a b).mpr z] at h; cases h
  omega
def jc_mx (a b : Int) : Int := bif jc_le a b then b else a
def jc_mn (a b : Int) : Int := bif jc_le a b then a else b
theorem jc_mx_ok {a b x : Int} (h1 : a ≤ x) (h2 : b ≤ x) : jc_mx a b ≤ x := by
  unfold jc_mx
  cases jc_le a b <;> assumption
theorem jc_mn_ok {a b x : Int} (h1 : x ≤ a) (h2 : x ≤ b) : x ≤ jc_mn a b := by
  unfold jc_mn
  cases jc_le a b <;> assumption
theorem jc_mx_l (a b : Int) : a ≤ jc_mx a b ∧ b ≤ jc_mx a b := by
  unfold jc_mx
  cases h : jc_le a b with
  | true => exact ⟨jc_le_t h, Int.le_refl _⟩
  | false => exact ⟨Int.le_refl _, Int.le_of_lt (jc_le_f h)⟩
theorem jc_mn_l (a b : Int) : jc_mn a b ≤ a ∧ jc_mn a b ≤ b := by
  unfold jc_mn
  cases h : jc_le a b with
  | true => exact ⟨Int.le_refl _, jc_le_t h⟩
  | false => exact ⟨Int.le_of_lt (jc_le_f h), Int.le_refl _⟩
/-- whether a row may be -/
noncomputable def jc_bs (B : jc_B) (gs : List (Nat × Int)) : List (Option (Int × Int)) := List.rec (motive := fun _ => List (Option (Int × Int))) [] (fun g _ ih => jc_bd B g :: ih) gs
noncomputable def jc_co (bs : List (Option (Int × Int))) : List (Int × Int) → Bool := List.rec (motive := fun _ => List (Int × Int) → Bool) (fun _ => true) (fun b _ ih qs => match qs with
  | [] => false
  | q :: qs => match b with
    | some b => jc_le b.1 q.2 && (jc_le q.1 b.2 && ih qs)
    | none => ih qs) bs
theorem jc_co_ok {r : jc_R} {n : Nat} {B : jc_B} (hB : jc_gB r n B) : ∀ {gs : List (Nat × Int)} {qs : List (Int × Int)}, jc_ing r n gs qs → jc_co (jc_bs B gs) qs = true
  | [], _, _ => rfl
  | g :: gs, q :: qs, h => by
    have ih := jc_co_ok hB h.2
    show (match jc_bd B g with
      | some b => jc_le b.1 q.2 && (jc_le q.1 b.2 && jc_co (jc_bs B gs) qs)
      | none => jc_co (jc_bs B gs) qs) = true
    split
    · rename_i b hb
      obtain ⟨b1, b2⟩ := jc_bd_ok hB hb
      obtain ⟨-, h1, h2⟩ := h.1
      rw [ih, (jc_le_iff _ _).mpr (Int.le_trans b1 h2), (jc_le_iff _ _).mpr (Int.le_trans h1 b2)]
      rfl
    · exact ih
  | _ :: _, [], h => h.elim
/-- from where to where the first of the rows lie -/
noncomputable def jc_hd (c : List (List (Int × Int))) : Option (Int × Int) := List.rec (motive := fun _ => Option (Int × Int)) none (fun τ _ ih => match τ with
  | [] => ih
  | q :: _ => match ih with
    | some z => some (jc_mn q.1 z.1, jc_mx q.2 z.2)
    | none => some q) c
theorem jc_hd_ok {q : Int × Int} {qs : List (Int × Int)} : ∀ {c : List (List (Int × Int))}, q :: qs ∈ c → ∃ z, jc_hd c = some z ∧ z.1 ≤ q.1 ∧ q.2 ≤ z.2
  | [], h => nomatch h
  | τ :: c, h => by
    have e : jc_hd (τ :: c) = (match (generalizing := false) τ with
      | [] => jc_hd c
      | q :: _ => match jc_hd c with
        | some z => some (jc_mn q.1 z.1, jc_mx q.2 z.2)
        | none => some q) := rfl
    rw [e]
    rcases List.mem_cons.mp h with h1 | h1
    · subst h1
      dsimp only
      split
      · rename_i z hz
        exact ⟨_, rfl, (jc_mn_l _ _).1, (jc_mx_l _ _).1⟩
      · exact ⟨_, rfl, Int.le_refl _, Int.le_refl _⟩
    · obtain ⟨z, z1, z2, z3⟩ := jc_hd_ok h1
      cases τ with
      | nil => exact ⟨z, z1, z2, z3⟩
      | cons p ps =>
        dsimp only
        rw [z1]
        exact ⟨_, rfl, Int.le_trans (jc_mn_l _ _).2 z2, Int.le_trans z3 (jc_mx_l _ _).2⟩
noncomputable def jc_tl (c : List (List (Int × Int))) : List (List (Int × Int)) := List.rec (motive := fun _ => List (List (Int × Int))) [] (fun τ _ ih => match τ with
  | [] => ih
  | _ :: qs => qs :: ih) c
theorem jc_tl_ok {q : Int × Int} {qs : List (Int × Int)} : ∀ {c : List (List (Int × Int))}, q :: qs ∈ c → qs ∈ jc_tl c
  | [], h => nomatch h
  | τ :: c, h => by
    have e : jc_tl (τ :: c) = (match (generalizing := false) τ with
      | [] => jc_tl c
      | _ :: qs => qs :: jc_tl c) := rfl
    rw [e]
    rcases List.mem_cons.mp h with h1 | h1
    · subst h1
      exact List.mem_cons_self
    · have ih := jc_tl_ok h1
      cases τ with
      | nil => exact ih
      | cons p ps => exact List.mem_cons_of_mem _ ih
/-- the symbols' bounds by the rows -/
noncomputable def jc_hl (gs : List (Nat × Int)) : List (List (Int × Int)) → jc_B → jc_B := List.rec (motive := fun _ => List (List (Int × Int)) → jc_B → jc_B) (fun _ B => B) (fun g _ ih c B => ih (jc_tl c) (match jc_hd c with
  | some z => (match jc_bd B g with
    | some b => bif jc_le z.1 b.1 && jc_le b.2 z.2 then B else jc_nar B g (jc_mx z.1 b.1, jc_mn z.2 b.2)
    | none => jc_nar B g z)
  | none => B)) gs
theorem jc_hl_ok {r : jc_R} {n : Nat} : ∀ {gs : List (Nat × Int)} {B : jc_B} {c : List (List (Int × Int))} {τ : List (Int × Int)}, jc_gB r n B → τ ∈ c → jc_ing r n gs τ → jc_gB r n (jc_hl gs c B)
  | [], B, c, τ, hB, _, _ => hB
  | g :: gs, B, c, q :: qs, hB, hm, h => by
    obtain ⟨⟨h0, h1, h2⟩, h3⟩ := h
    have e : jc_hl (g :: gs) c B = jc_hl gs (jc_tl c) (match jc_hd c with
      | some z => (match jc_bd B g with
        | some b => bif jc_le z.1 b.1 && jc_le b.2 z.2 then B else jc_nar B g (jc_mx z.1 b.1, jc_mn z.2 b.2)
        | none => jc_nar B g z)
      | none => B) := rfl
    rw [e]
    refine jc_hl_ok ?_ (jc_tl_ok hm) h3
    obtain ⟨z, z1, z2, z3⟩ := jc_hd_ok hm
    rw [z1]
    dsimp only
    split
    · rename_i b hb
      obtain ⟨b1, b2⟩ := jc_bd_ok hB hb
      cases jc_le z.1 b.1 && jc_le b.2 z.2 with
      | true => exact hB
      | false => exact jc_nar_ok hB h0 ⟨jc_mx_ok (Int.le_trans z2 h1) b1, jc_mn_ok (Int.le_trans h2 z3) b2⟩
    · exact jc_nar_ok hB h0 ⟨Int.le_trans z2 h1, Int.le_trans h2 z3⟩
  | _ :: _, _, _, [], _, _, h => h.elim
noncomputable def jc_flt {α : Type} (p : α → Bool) (l : List α) : List α := List.rec (motive := fun _ => List α) [] (fun x _ ih => cond (p x) (x :: ih) ih) l
theorem jc_flt_mem {α : Type} {p : α → Bool} {x : α} : ∀ {l : List α}, x ∈ l → p x = true → x ∈ jc_flt p l
  | [], h, _ => nomatch h
  | y :: l, h, hp => by
    have e : jc_flt p (y :: l) = cond (p y) (y :: jc_flt p l) (jc_flt p l) := rfl
    rw [e]
    rcases List.mem_cons.mp h with rfl | h
    · rw [hp]
      exact List.mem_cons_self
    · cases p y with
      | true => exact List.mem_cons_of_mem _ (jc_flt_mem h hp)
      | false => exact jc_flt_mem h hp
/-- as long -/
noncomputable def jc_sam {α : Type} (a : List α) : List α → Bool := List.rec (motive := fun _ => List α → Bool) (fun _ => true) (fun _ _ ih b => match b with
  | [] => false
  | _ :: b => ih b) a
section JC3
variable {E : jc_E} {X : J_H → Prop} {r : jc_R} {t : jc_T} {A : jc_A} {h : J_H}
/-- an open family's rows (none: it can't be) -/
noncomputable def jc_rff (E : jc_E) (A : jc_A) (f : Nat) : Option jc_A := match jc_lk A.2.2.2.1 f with
  | none => some A
  | some e => match ja_n2 E.2.1 f with
    | none => some A
    | some m => bif jc_off A.2.2.2.2.2 m.1 then some A else match jc_flt (jc_co (jc_bs A.2.1 e.2)) e.1 with
      | [] => none
      | c0 :: cs => bif jc_sam e.1 (c0 :: cs) then some A else some (A.1, jc_hl e.2 (c0 :: cs) A.2.1, A.2.2.1, (f, c0 :: cs, e.2) :: jc_wo A.2.2.2.1 f, A.2.2.2.2)
theorem jc_rff_ok (hg : jc_g E X r t A h) (f : Nat) : ∃ A', jc_rff E A f = some A' ∧ A'.1 = A.1 ∧ jc_g E X r t A' h := by
  unfold jc_rff
  split
  · exact ⟨A, rfl, rfl, hg⟩
  · rename_i e he
    split
    · exact ⟨A, rfl, rfl, hg⟩
    · rename_i m hm
      cases ho : jc_off A.2.2.2.2.2 m.1 with
      | true => exact ⟨A, rfl, rfl, hg⟩
      | false =>
        rw [cond_false]
        have hg0 := hg
        obtain ⟨g1, g2, g3, g4, g5⟩ := hg
        have hf := g3 f m hm ho
        unfold jc_fm at hf
        rw [he] at hf
        obtain ⟨f1, f0, f2⟩ := hf
        have hmem := jc_flt_mem (p := jc_co (jc_bs A.2.1 e.2)) f1 (jc_co_ok g1 f2)
        split
        · rename_i hc
          rw [hc] at hmem
          exact nomatch hmem
        · rename_i c0 cs hc
          rw [hc] at hmem
          cases jc_sam e.1 (c0 :: cs) with
          | true => exact ⟨A, rfl, rfl, hg0⟩
          | false =>
          refine ⟨_, rfl, rfl, jc_hl_ok g1 hmem f2, g2, fun f' m' hm' ho' => ?_, g4, g5⟩
          have h3 := g3 f' m' hm' ho'
          unfold jc_fm at h3 ⊢
          dsimp only
          by_cases hf' : f = f'
          · subst hf'
            rw [jc_lk_self]
            rw [hm] at hm'
            cases hm'
            exact ⟨hmem, f0, f2⟩
          · rw [jc_lk_ne _ _ hf', jc_lk_wo hf']
            exact h3
/-- those that speak of a symbol -/
noncomputable def jc_has (i : Nat) (gs : List (Nat × Int)) : Bool := List.rec (motive := fun _ => Bool) false (fun g _ ih => Nat.beq g.1 i || ih) gs
noncomputable def jc_rfs (E : jc_E) (i : Nat) (l : List (Nat × List (List (Int × Int)) × List (Nat × Int))) : jc_A → Option jc_A := List.rec (motive := fun _ => jc_A → Option jc_A) (fun A => some A) (fun e _ ih A => bif jc_has i e.2.2 then (match jc_rff E A e.1 with
  | some A1 => ih A1
  | none => none) else ih A) l
theorem jc_rfs_ok (i : Nat) : ∀ (l : List (Nat × List (List (Int × Int)) × List (Nat × Int))) {A : jc_A}, jc_g E X r t A h → ∃ A', jc_rfs E i l A = some A' ∧ A'.1 = A.1 ∧ jc_g E X r t A' h
  | [], A, hg => ⟨A, rfl, rfl, hg⟩
  | e :: l, A, hg => by
    have eq : jc_rfs E i (e :: l) A = (bif jc_has i e.2.2 then (match jc_rff E A e.1 with
      | some A1 => jc_rfs E i l A1
      | none => none) else jc_rfs E i l A) := rfl
    rw [eq]
    cases jc_has i e.2.2 with
    | false => exact jc_rfs_ok i l hg
    | true =>
      obtain ⟨A1, a1, a2, a3⟩ := jc_rff_ok hg e.1
      rw [cond_true, a1]
      obtain ⟨A2, b1, b2, b3⟩ := jc_rfs_ok i l a3
      exact ⟨A2, b1, b2.trans a2, b3⟩
/-- families of a cell, by what is known by now -/
noncomputable def jc_rfl (E : jc_E) (l : List Nat) : jc_A → Option jc_A := List.rec (motive := fun _ => jc_A → Option jc_A) (fun A => some A) (fun f _ ih A => match jc_rff E A f with
  | some A1 => ih A1
  | none => none) l
theorem jc_rfl_ok : ∀ (l : List Nat) {A : jc_A}, jc_g E X r t A h → ∃ A', jc_rfl E l A = some A' ∧ A'.1 = A.1 ∧ jc_g E X r t A' h
  | [], A, hg => ⟨A, rfl, rfl, hg⟩
  | f :: l, A, hg => by
    have eq : jc_rfl E (f :: l) A = (match jc_rff E A f with
      | some A1 => jc_rfl E l A1
      | none => none) := rfl
    rw [eq]
    obtain ⟨A1, a1, a2, a3⟩ := jc_rff_ok hg f
    rw [a1]
    obtain ⟨A2, b1, b2, b3⟩ := jc_rfl_ok l a3
    exact ⟨A2, b1, b2.trans a2, b3⟩
/-- a value lies within b (none: it can't) -/
noncomputable def jc_cut (E : jc_E) (A : jc_A) (q : Nat × Int) (b : Int × Int) : Option jc_A := bif Nat.beq q.1 0 then some A else match jc_bd A.2.1 q with
  | some b0 => bif jc_le b.1 b0.1 && jc_le b0.2 b.2 then some A else jc_rfs E q.1 A.2.2.2.1 (A.1, jc_nar A.2.1 q b, A.2.2)
  | none => jc_rfs E q.1 A.2.2.2.1 (A.1, jc_nar A.2.1 q b, A.2.2)
theorem jc_cut_ok {q : Nat × Int} {b : Int × Int} (hg : jc_g E X r t A h) (hq : q.1 < A.1) (hx : b.1 ≤ r q.1 + q.2 ∧ r q.1 + q.2 ≤ b.2) : ∃ A', jc_cut E A q b = some A' ∧ A'.1 = A.1 ∧ jc_g E X r t A' h := by
  have go : ∃ A', jc_rfs E q.1 A.2.2.2.1 (A.1, jc_nar A.2.1 q b, A.2.2) = some A' ∧ A'.1 = A.1 ∧ jc_g E X r t A' h := jc_rfs_ok q.1 _ (hg.up (n' := A.1) jc_ext.rf (Nat.le_refl _) (jc_nar_ok hg.1 hq hx))
  unfold jc_cut
  cases Nat.beq q.1 0 with
  | true => exact ⟨A, rfl, rfl, hg⟩
  | false =>
    rw [cond_false]
    split
    · rename_i b0 _
      cases jc_le b.1 b0.1 && jc_le b0.2 b.2 with
      | true => exact ⟨A, rfl, rfl, hg⟩
      | false => exact go
    · exact go
/-- each number by itself -/
noncomputable def jc_pts (E : jc_E) (A : jc_A) (q : Nat × Int) (K : jc_A → Bool) (lo : Int) (n : Nat) : Bool := Nat.rec (motive := fun _ => Bool) true (fun k ih => (match jc_cut E A q (lo + k, lo + k) with
  | some A' => K A'
  | none => true) && ih) n
theorem jc_pts_ok {q : Nat × Int} {K : jc_A → Bool} {lo : Int} (hg : jc_g E X r t A h) (hq : q.1 < A.1) (h1 : lo ≤ r q.1 + q.2) : ∀ {n : Nat}, r q.1 + q.2 < lo + n → jc_pts E A q K lo n = true → ∃ A', K A' = true ∧ A'.1 = A.1 ∧ jc_g E X r t A' h
  | 0, h2, _ => by
    exfalso
    rw [Int.natCast_zero] at h2
    omega
  | n + 1, h2, hj => by
    have hj : ((match jc_cut E A q (lo + n, lo + n) with
      | some A' => K A'
      | none => true) && jc_pts E A q K lo n) = true := hj
    obtain ⟨j1, j2⟩ := Bool.and_eq_true_iff.mp hj
    by_cases e : r q.1 + q.2 = lo + n
    · obtain ⟨A', a1, a2, a3⟩ := jc_cut_ok (b := (lo + n, lo + n)) hg hq ⟨Int.le_of_eq e.symm, Int.le_of_eq e⟩
      rw [a1] at j1
      exact ⟨A', j1, a2, a3⟩
    · exact jc_pts_ok hg hq h1 (by rw [Int.natCast_add] at h2; omega) j2
noncomputable def jc_spl (E : jc_E) (A : jc_A) (q : Nat × Int) (K : jc_A → Bool) : Bool := match jc_bd A.2.1 q with
  | some b => bif jc_le b.1 b.2 then (bif jc_le b.2 (b.1 + 127) then jc_pts E A q K b.1 (b.2 - b.1 + 1).toNat else K A) else true
  | none => K A
theorem jc_spl_ok {q : Nat × Int} {K : jc_A → Bool} (hg : jc_g E X r t A h) (hq : q.1 < A.1) (hj : jc_spl E A q K = true) : ∃ A', K A' = true ∧ A'.1 = A.1 ∧ jc_g E X r t A' h := by
  unfold jc_spl at hj
  split at hj
  · rename_i b hb
    obtain ⟨b1, b2⟩ := jc_bd_ok hg.1 hb
    cases c : jc_le b.1 b.2 with
    | false =>
      have := jc_le_f c
      omega
    | true =>
      rw [c, cond_true] at hj
      cases c2 : jc_le b.2 (b.1 + 127) with
      | false => rw [c2] at hj; exact ⟨A, hj, rfl, hg⟩
      | true =>
        rw [c2, cond_true] at hj
        refine jc_pts_ok hg hq b1 ?_ hj
        have := jc_le_t c
        omega
  · exact ⟨A, hj, rfl, hg⟩
/-- a bound by a potential -/
noncomputable def jc_ml (k : Nat) (c : List (List (Int × Int))) : Option Int := List.rec (motive := fun _ => Option Int) none (fun τ _ ih => match ih with
  | some z => some (jc_mn (jc_w k τ) z)
  | none => some (jc_w k τ)) c
theorem jc_ml_ok {k : Nat} {τ : List (Int × Int)} : ∀ {c : List (List (Int × Int))}, τ ∈ c → ∃ z, jc_ml k c = some z ∧ z ≤ jc_w k τ
  | [], h => nomatch h
  | x :: c, h => by
    have e : jc_ml k (x :: c) = (match jc_ml k c with
      | some z => some (jc_mn (jc_w k x) z)
      | none => some (jc_w k x)) := rfl
    rw [e]
    rcases List.mem_cons.mp h with rfl | h
    · split
      · exact ⟨_, rfl, (jc_mn_l _ _).1⟩
      · exact ⟨_, rfl, Int.le_refl _⟩
    · obtain ⟨z, z1, z2⟩ := jc_ml_ok h
      rw [z1]
      exact ⟨_, rfl, Int.le_trans (jc_mn_l _ _).2 z2⟩
theorem jc_w_pos (k : Nat) (τ : List (Int × Int)) : 0 ≤ jc_w k τ := Int.natCast_nonneg _
noncomputable def jc_mw (E : jc_E) (A : jc_A) (k : Nat) (fs : List Nat) : Int := List.rec (motive := fun _ => Int) 0 (fun f _ ih => (match jc_lk A.2.2.2.1 f with
  | some e => (match ja_n2 E.2.1 f with
    | some m => bif jc_off A.2.2.2.2.2 m.1 then 0 else (match jc_ml k e.1 with
      | some z => z
      | none => 0)
    | none => 0)
  | none => 0) + ih) fs
theorem jc_mw_ok (hg : jc_gF E r t A h) (k : Nat) : ∀ fs : List Nat, jc_mw E A k fs ≤ jc_sw t k fs
  | [] => Int.le_refl _
  | f :: fs => by
    have ih := jc_mw_ok hg k fs
    have e : jc_mw E A k (f :: fs) = (match jc_lk A.2.2.2.1 f with
      | some e => (match ja_n2 E.2.1 f with
        | some m => bif jc_off A.2.2.2.2.2 m.1 then 0 else (match jc_ml k e.1 with
          | some z => z
          | none => 0)
        | none => 0)
      | none => 0) + jc_mw E A k fs := rfl
    rw [e]
    have hp := jc_w_pos k (t f)
    refine Int.add_le_add ?_ ih
    split
    · rename_i e he
      split
      · rename_i m hm
        cases ho : jc_off A.2.2.2.2.2 m.1 with
        | true => exact hp
        | false =>
          have hf := hg f m hm ho
          unfold jc_fm at hf
          rw [he] at hf
          obtain ⟨z, z1, z2⟩ := jc_ml_ok (k := k) hf.1
          rw [cond_false, z1]
          exact z2
      · exact hp
    · exact hp
noncomputable def jc_ub (E : jc_E) (A : jc_A) (p : Nat) : jc_A := match jc_lk A.2.2.2.2.1 p with
  | some q => (match ja_n2 E.2.2.1 p with
    | some m => bif jc_off A.2.2.2.2.2 m.1 then A else (match jc_bd A.2.1 q with
      | some b => (A.1, jc_nar A.2.1 q (b.1, m.2.2.1 - jc_mw E A m.2.2.2.1 m.2.2.2.2), A.2.2)
      | none => A)
    | none => A)
  | none => A
theorem jc_ub_ok (hg : jc_g E X r t A h) (p : Nat) : (jc_ub E A p).1 = A.1 ∧ jc_g E X r t (jc_ub E A p) h := by
  unfold jc_ub
  split
  · rename_i q hq
    split
    · rename_i m hm
      cases ho : jc_off A.2.2.2.2.2 m.1 with
      | true => exact ⟨rfl, hg⟩
      | false =>
        rw [cond_false]
        split
        · rename_i b hb
          obtain ⟨x, x1, x2⟩ := hg.2.2.2.1 p m hm ho
          rw [hq] at x1
          have hw := jc_mw_ok hg.2.2.1 m.2.2.2.1 m.2.2.2.2
          obtain ⟨b1, b2⟩ := jc_bd_ok hg.1 hb
          obtain ⟨x3, x4⟩ := x1
          refine ⟨rfl, hg.up (n' := A.1) jc_ext.rf (Nat.le_refl _) (jc_nar_ok hg.1 x3 ⟨b1, ?_⟩)⟩
          dsimp only
          omega
        · exact ⟨rfl, hg⟩
    · exact ⟨rfl, hg⟩
  · exact ⟨rfl, hg⟩
noncomputable def jc_ubs (E : jc_E) (l : List Nat) : jc_A → jc_A := List.rec (motive := fun _ => jc_A → jc_A) (fun A => A) (fun p _ ih A => ih (jc_ub E A p)) l
theorem jc_ubs_ok : ∀ (l : List Nat) {A : jc_A}, jc_g E X r t A h → (jc_ubs E l A).1 = A.1 ∧ jc_g E X r t (jc_ubs E l A) h
  | [], A, hg => ⟨rfl, hg⟩
  | p :: l, A, hg => by
    obtain ⟨a1, a2⟩ := jc_ub_ok hg p
    obtain ⟨b1, b2⟩ := jc_ubs_ok l a2
    exact ⟨b1.trans a1, b2⟩
end JC3

/-! JC: arriving at a state that is told: its symbols by ours; families close -/
noncomputable def jc_rT (r : jc_R) (th : List (Nat × Nat × Int)) : jc_R := fun j => bif Nat.beq j 0 then 0 else match jc_lk th j with
  | some u => r u.1 + u.2
  | none => 0
noncomputable def jc_th (ps : List (jc_v × jc_v)) : List (Nat × Nat × Int) := List.rec (motive := fun _ => List (Nat × Nat × Int)) [] (fun e _ ih => match e with
  | (.inl p, .inl q) => bif Nat.beq p.1 0 then ih else (p.1, q.1, q.2 - p.2) :: ih
  | _ => ih) ps
noncomputable def jc_eqv (B : jc_B) (th : List (Nat × Nat × Int)) (n : Nat) (sT s : jc_v) : Bool := match sT, s with
  | .inl p, .inl q => Nat.ble (p.1 + 1) n && (bif Nat.beq p.1 0 then (match jc_bd B q with
    | some b => jc_le p.2 b.1 && jc_le b.2 p.2
    | none => false) else match jc_lk th p.1 with
    | some u => (Nat.beq u.1 q.1 && (jc_le (u.2 + p.2) q.2 && jc_le q.2 (u.2 + p.2))) || (match jc_bd B q, jc_bd B (u.1, u.2 + p.2) with
      | some b, some c => jc_le b.2 b.1 && (jc_le c.2 c.1 && (jc_le b.1 c.1 && jc_le c.1 b.1))
      | _, _ => false)
    | none => false)
  | .inr none, .inr none => true
  | .inr (some none), .inr (some none) => true
  | .inr (some (some a)), .inr (some (some b)) => Nat.beq a b
  | _, _ => false
theorem jc_eqv_ok {r : jc_R} {n nT : Nat} {B : jc_B} {th : List (Nat × Nat × Int)} {sT s : jc_v} {v : Value} (hB : jc_gB r n B) (hv : jc_val r n s v) (hj : jc_eqv B th nT sT s = true) : jc_val (jc_rT r th) nT sT v := by
  unfold jc_eqv at hj
  split at hj
  · rename_i p q
    obtain ⟨x, rfl, x1, x2⟩ := hv.int
    obtain ⟨h1, h2⟩ := Bool.and_eq_true_iff.mp hj
    refine ⟨Nat.le_of_ble_eq_true h1, ?_⟩
    unfold jc_rT
    cases h0 : Nat.beq p.1 0 with
    | true =>
      rw [h0, cond_true] at h2
      split at h2
      · rename_i b hb
        obtain ⟨b1, b2⟩ := jc_bd_i hB x2 hb
        obtain ⟨c1, c2⟩ := Bool.and_eq_true_iff.mp h2
        have c1 := jc_le_t c1
        have c2 := jc_le_t c2
        rw [cond_true]
        omega
      · cases h2
    | false =>
      rw [h0, cond_false] at h2
      rw [cond_false]
      split at h2
      · rename_i u hu
        rcases Bool.or_eq_true_iff.mp h2 with h2 | h2
        · obtain ⟨c0, h2⟩ := Bool.and_eq_true_iff.mp h2
          obtain ⟨c1, c2⟩ := Bool.and_eq_true_iff.mp h2
          have c0 := Nat.eq_of_beq_eq_true c0
          have c1 := jc_le_t c1
          have c2 := jc_le_t c2
          rw [c0]
          omega
        · split at h2
          · rename_i b c hb hc
            obtain ⟨b1, b2⟩ := jc_bd_i hB x2 hb
            obtain ⟨e1, e2⟩ := jc_bd_ok hB hc
            obtain ⟨c0, h2⟩ := Bool.and_eq_true_iff.mp h2
            obtain ⟨c1, h2⟩ := Bool.and_eq_true_iff.mp h2
            obtain ⟨c2, c3⟩ := Bool.and_eq_true_iff.mp h2
            have c0 := jc_le_t c0
            have c1 := jc_le_t c1
            have c2 := jc_le_t c2
            have c3 := jc_le_t c3
            dsimp only at e1 e2
            omega
          · cases h2
      · cases h2
  · obtain ⟨x, rfl⟩ := hv.long; trivial
  · cases v <;> first | exact hv.elim | trivial
  · have := hv.ref; subst this
    exact (Nat.eq_of_beq_eq_true hj).symm
  · cases hj
/-- the symbols' bounds -/
noncomputable def jc_bds (B : jc_B) (th : List (Nat × Nat × Int)) (n : Nat) (BT : jc_B) : Bool := Nat.ble 1 n && jc_all (fun e => Nat.ble (e.1 + 1) n && (!Nat.beq e.1 0 && (match jc_lk th e.1 with
  | some u => (match jc_bd B u with
    | some b => jc_le e.2.1 b.1 && jc_le b.2 e.2.2
    | none => false)
  | none => false))) BT
theorem jc_bds_ok {r : jc_R} {n nT : Nat} {B BT : jc_B} {th : List (Nat × Nat × Int)} (hB : jc_gB r n B) (hj : jc_bds B th nT BT = true) : jc_gB (jc_rT r th) nT BT := by
  obtain ⟨h1, h2⟩ := Bool.and_eq_true_iff.mp hj
  refine ⟨rfl, Nat.le_of_ble_eq_true h1, fun e he => ?_⟩
  have h3 := jc_all_ok h2 e he
  obtain ⟨h3, h4⟩ := Bool.and_eq_true_iff.mp h3
  obtain ⟨h4, h5⟩ := Bool.and_eq_true_iff.mp h4
  have h4 : Nat.beq e.1 0 = false := by simpa using h4
  refine ⟨Nat.le_of_ble_eq_true h3, ?_⟩
  unfold jc_rT
  rw [h4, cond_false]
  split at h5
  · rename_i u hu
    split at h5
    · rename_i b hb
      obtain ⟨b1, b2⟩ := jc_bd_ok hB hb
      obtain ⟨c1, c2⟩ := Bool.and_eq_true_iff.mp h5
      have c1 := jc_le_t c1
      have c2 := jc_le_t c2
      omega
    · cases h5
  · cases h5
section JCA
variable {E : jc_E} {X : J_H → Prop} {r : jc_R} {t : jc_T} {A : jc_A} {h : J_H}
/-- the cells -/
noncomputable def jc_cls (E : jc_E) (A : jc_A) (th : List (Nat × Nat × Int)) (T : jc_A) : Bool := jc_all (fun e => match jc_lk A.2.2.1 e.1 with
  | some s => jc_eqv A.2.1 th T.1 e.2 s
  | none => false) T.2.2.1 && jc_all (fun e => match jc_lk T.2.2.1 e.1 with
  | some _ => true
  | none => (match ja_n2 E.1 (Nat.div e.1 8192) with
    | some d => (match jc_sg d.2 (Nat.mod e.1 8192) with
      | some g => jc_sub A.2.1 e.2 g.1
      | none => true)
    | none => true)) A.2.2.1
theorem jc_cls_ok {th : List (Nat × Nat × Int)} {T : jc_A} (hE : jc_Ok E) (hB : jc_gB r A.1 A.2.1) (hC : jc_gC E r A h) (hj : jc_cls E A th T = true) : jc_gC E (jc_rT r th) T h := by
  obtain ⟨h1, h2⟩ := Bool.and_eq_true_iff.mp hj
  intro a d hd
  obtain ⟨c, c1, c2, c3⟩ := hC a d hd
  refine ⟨c, c1, c2, fun i v hv => ?_⟩
  have hi : i < 8192 := by
    have := jc_get_lt hv
    rw [c2] at this
    exact Nat.lt_of_lt_of_le this (hE.1 a d hd)
  have h3 := c3 i v hv
  unfold jc_cl at h3 ⊢
  cases hT : jc_lk T.2.2.1 (jc_key a i) with
  | some sT =>
    have h4 := jc_all_ok h1 _ (jc_lk_mem hT)
    dsimp only at h4
    split at h4
    · rename_i s hs
      rw [hs] at h3
      exact jc_eqv_ok hB h3 h4
    · cases h4
  | none =>
    dsimp only
    cases hA : jc_lk A.2.2.1 (jc_key a i) with
    | none => rw [hA] at h3; exact h3
    | some s =>
      rw [hA] at h3
      have h4 := jc_all_ok h2 _ (jc_lk_mem hA)
      have e1 : Nat.div (jc_key a i) 8192 = a := by
        show jc_key a i / 8192 = a
        unfold jc_key
        omega
      have e2 : Nat.mod (jc_key a i) 8192 = i := by
        show jc_key a i % 8192 = i
        unfold jc_key
        omega
      dsimp only at h4
      rw [hT, e1, e2, hd] at h4
      intro g hg
      dsimp only at h4
      rw [hg] at h4
      exact jc_sub_ok hB h3 h4
/-- what a family's cells hold -/
noncomputable def jc_cnt (A : jc_A) (cs : List (Nat × Nat)) : Option (List (Nat × Int)) := List.rec (motive := fun _ => Option (List (Nat × Int))) (some []) (fun c _ ih => match jc_lk A.2.2.1 (jc_key c.1 c.2), ih with
  | some (.inl q), some l => some (q :: l)
  | _, _ => none) cs
theorem jc_cnt_ok (hC : jc_gC E r A h) : ∀ {cs : List (Nat × Nat)} {l : List (Nat × Int)}, (∀ c ∈ cs, ∃ d, ja_n2 E.1 c.1 = some d ∧ c.2 < d.1.2.2) → jc_cnt A cs = some l → jc_gv h r A.1 cs l
  | [], l, _, hj => by cases hj; trivial
  | c :: cs, l, hm, hj => by
    have hj : (match jc_lk A.2.2.1 (jc_key c.1 c.2), jc_cnt A cs with
      | some (.inl q), some l => some (q :: l)
      | _, _ => none) = some l := hj
    split at hj
    · rename_i q l' hq hl
      cases hj
      refine ⟨?_, jc_cnt_ok hC (fun c' hc' => hm c' (List.mem_cons_of_mem _ hc')) hl⟩
      obtain ⟨d, d1, d2⟩ := hm c List.mem_cons_self
      obtain ⟨x, x1, x2, x3⟩ := hC c.1 d d1
      obtain ⟨v, hv⟩ := jc_get_some (c := x) (i := c.2) (by rw [x2]; exact d2)
      have := x3 c.2 v hv
      unfold jc_cl at this
      rw [hq] at this
      obtain ⟨y, rfl, y1, y2⟩ := jc_val.int this
      exact ⟨y, by rw [jc_at_of x1]; exact hv, y1, y2⟩
    · cases hj
/-- where a value lies, by a row -/
noncomputable def jc_fnd (gs : List (Nat × Int)) (i : Nat) : List (Int × Int) → Option (Int × (Int × Int)) := List.rec (motive := fun _ => List (Int × Int) → Option (Int × (Int × Int))) (fun _ => none) (fun g _ ih τ => match τ with
  | [] => none
  | q :: τ => bif Nat.beq g.1 i then some (g.2, q) else ih τ) gs
theorem jc_fnd_ok {n i : Nat} : ∀ {gs : List (Nat × Int)} {τ : List (Int × Int)} {z : Int × (Int × Int)}, jc_ing r n gs τ → jc_fnd gs i τ = some z → z.2.1 ≤ r i + z.1 ∧ r i + z.1 ≤ z.2.2
  | [], τ, z, _, hj => by cases hj
  | g :: gs, [], z, hi, _ => hi.elim
  | g :: gs, q :: τ, z, hi, hj => by
    have hj : (bif Nat.beq g.1 i then some (g.2, q) else jc_fnd gs i τ) = some z := hj
    cases hb : Nat.beq g.1 i with
    | true =>
      rw [hb] at hj
      cases hj
      rw [← Nat.eq_of_beq_eq_true hb]
      exact hi.1.2
    | false =>
      rw [hb] at hj
      exact jc_fnd_ok hi.2 hj
noncomputable def jc_iv (B : jc_B) (gs : List (Nat × Int)) (τ : List (Int × Int)) (s : Nat × Int) : Option (Int × Int) := match jc_fnd gs s.1 τ with
  | some z => (match jc_bd B s with
    | some b => some (jc_mx (z.2.1 - z.1 + s.2) b.1, jc_mn (z.2.2 - z.1 + s.2) b.2)
    | none => some (z.2.1 - z.1 + s.2, z.2.2 - z.1 + s.2))
  | none => jc_bd B s
theorem jc_iv_ok {n : Nat} {B : jc_B} {gs : List (Nat × Int)} {τ : List (Int × Int)} {s : Nat × Int} {b : Int × Int} (hB : jc_gB r n B) (hi : jc_ing r n gs τ) (hj : jc_iv B gs τ s = some b) : b.1 ≤ r s.1 + s.2 ∧ r s.1 + s.2 ≤ b.2 := by
  unfold jc_iv at hj
  split at hj
  · rename_i z hz
    have h1 := jc_fnd_ok hi hz
    split at hj
    · rename_i b0 hb0
      cases hj
      obtain ⟨b1, b2⟩ := jc_bd_ok hB hb0
      exact ⟨jc_mx_ok (by omega) b1, jc_mn_ok (by omega) b2⟩
    · cases hj
      dsimp only
      omega
  · exact jc_bd_ok hB hj
noncomputable def jc_mt (B : jc_B) (gs : List (Nat × Int)) (τ : List (Int × Int)) (cs : List (Nat × Int)) : List (Int × Int) → Bool := List.rec (motive := fun _ => List (Int × Int) → Bool) (fun _ => true) (fun s _ ih τ' => match τ' with
  | [] => false
  | q :: τ' => (match jc_iv B gs τ s with
    | some b => jc_le q.1 b.1 && jc_le b.2 q.2
    | none => false) && ih τ') cs
theorem jc_mt_ok {n : Nat} {B : jc_B} {gs : List (Nat × Int)} {τ : List (Int × Int)} (hB : jc_gB r n B) (hi : jc_ing r n gs τ) : ∀ {cells : List (Nat × Nat)} {cs : List (Nat × Int)} {τ' : List (Int × Int)}, jc_gv h r n cells cs → jc_mt B gs τ cs τ' = true → jc_in h cells τ'
  | [], [], _, _, _ => trivial
  | c :: cells, s :: cs, [], _, hj => by cases hj
  | c :: cells, s :: cs, q :: τ', hv, hj => by
    have hj : ((match jc_iv B gs τ s with
      | some b => jc_le q.1 b.1 && jc_le b.2 q.2
      | none => false) && jc_mt B gs τ cs τ') = true := hj
    obtain ⟨j1, j2⟩ := Bool.and_eq_true_iff.mp hj
    obtain ⟨⟨x, x1, x2, x3⟩, h2⟩ := hv
    refine ⟨⟨x, x1, ?_⟩, jc_mt_ok hB hi h2 j2⟩
    split at j1
    · rename_i b hb
      have := jc_iv_ok hB hi hb
      obtain ⟨k1, k2⟩ := Bool.and_eq_true_iff.mp j1
      have k1 := jc_le_t k1
      have k2 := jc_le_t k2
      omega
    · cases j1
  | [], _ :: _, _, hv, _ => hv.elim
  | _ :: _, [], _, hv, _ => hv.elim
noncomputable def jc_geq (a : List (Nat × Int)) : List (Nat × Int) → Bool := List.rec (motive := fun _ => List (Nat × Int) → Bool) (fun b => match b with
  | [] => true
  | _ :: _ => false) (fun p _ ih b => match b with
  | [] => false
  | q :: b => Nat.beq p.1 q.1 && (jc_le p.2 q.2 && (jc_le q.2 p.2 && ih b))) a
theorem jc_geq_ok : ∀ {a b : List (Nat × Int)}, jc_geq a b = true → a = b
  | [], [], _ => rfl
  | [], _ :: _, h => by cases h
  | p :: a, [], h => by cases h
  | p :: a, q :: b, h => by
    have h : (Nat.beq p.1 q.1 && (jc_le p.2 q.2 && (jc_le q.2 p.2 && jc_geq a b))) = true := h
    obtain ⟨h1, h⟩ := Bool.and_eq_true_iff.mp h
    obtain ⟨h2, h⟩ := Bool.and_eq_true_iff.mp h
    obtain ⟨h3, h4⟩ := Bool.and_eq_true_iff.mp h
    have e1 := Nat.eq_of_beq_eq_true h1
    have e2 : p.2 = q.2 := Int.le_antisymm (jc_le_t h2) (jc_le_t h3)
    rw [jc_geq_ok h4, show p = q from Prod.ext e1 e2]
theorem jc_ing_in {n : Nat} : ∀ {cells : List (Nat × Nat)} {gs : List (Nat × Int)} {τ : List (Int × Int)}, jc_gv h r n cells gs → jc_ing r n gs τ → jc_in h cells τ
  | [], [], _, _, _ => trivial
  | c :: cells, g :: gs, q :: τ, hv, hi => by
    obtain ⟨⟨x, x1, x2, x3⟩, h2⟩ := hv
    exact ⟨⟨x, x1, by rw [x3]; exact hi.1.2.1, by rw [x3]; exact hi.1.2.2⟩, jc_ing_in h2 hi.2⟩
  | c :: cells, g :: gs, [], _, hi => hi.elim
  | [], _ :: _, _, hv, _ => hv.elim
  | _ :: _, [], _, hv, _ => hv.elim
end JCA

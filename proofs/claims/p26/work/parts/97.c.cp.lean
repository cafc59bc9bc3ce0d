/-! copies: what its contracts want of it; written by wip/p3/gen_cp.py -/
theorem jm_arr {X : J_H → Prop} {r : jc_R} {t : jc_T} {A : jc_A} {h : J_H} {a n : Nat} {d : jc_Dd} (hg : jc_g jxm X r t A h) (hd : ja_n2 jxm.1 a = some d) (he : d.1 = (1, 0, n)) : ∃ l, h[a]? = some (.inr (.inl (0, l))) ∧ l.length = n := by
  obtain ⟨c, c1, c2, -⟩ := hg.2.1 a d hd
  rw [he] at c2
  rcases c with f | f | l | l
  · cases c2
  · obtain ⟨k, l⟩ := f
    have e1 := congrArg (fun q => q.2.1) c2
    have e2 := congrArg (fun q => q.2.2) c2
    exact ⟨l, by rw [c1, show k = 0 from e1], e2⟩
  · cases c2
  · cases c2
theorem jm_atg {h : J_H} {a i : Nat} {l : List Int32} (hl : h[a]? = some (.inr (.inl (0, l)))) : jc_at h a i = (l[i]?).map .int := by
  rw [jc_at_of hl]
  rfl
theorem jm_fr {h : J_H} {b n : Nat} {l l' : List Int32} (hb : h[b]? = some (.inr (.inl (0, l)))) (e1 : l.length = n) (e2 : l'.length = n) : jc_fr [(b, 0, n)] h (h.set b (.inr (.inl (0, l')))) := by
  intro x i hi
  have hlt := (List.getElem?_eq_some_iff.mp hb).1
  by_cases hx : b = x
  · subst hx
    have hi : (Nat.beq b b && (Nat.ble 0 i && Nat.ble (i + 1) n) || false) = false := hi
    rw [Nat.beq_refl, Bool.true_and, Bool.or_false, show Nat.ble 0 i = true from Nat.ble_eq_true_of_le (Nat.zero_le _), Bool.true_and] at hi
    have hi : n ≤ i := by
      refine Nat.le_of_not_lt (fun z => ?_)
      rw [Nat.ble_eq_true_of_le z] at hi
      cases hi
    rw [jm_atg hb, jm_atg (List.getElem?_set_self hlt), List.getElem?_eq_none (by omega), List.getElem?_eq_none (by omega)]
  · unfold jc_at
    rw [List.getElem?_set_ne hx]
def jm_ofb (Of Of' : List Nat) (g1 g2 : Nat) : Bool := Of.all fun g => Nat.beq g g1 || (Nat.beq g g2 || jc_off Of' g)
theorem jm_ofb_ok {Of Of' : List Nat} {g1 g2 : Nat} (h : jm_ofb Of Of' g1 g2 = true) : ∀ g, jc_off Of' g = false → g = g1 ∨ g = g2 ∨ jc_off Of g = false := by
  intro g hg
  cases ho : jc_off Of g with
  | false => exact Or.inr (Or.inr rfl)
  | true =>
    rcases Bool.or_eq_true_iff.mp (List.all_eq_true.mp h g (jc_off_mem ho)) with z | z
    · exact Or.inl (Nat.eq_of_beq_eq_true z)
    · rcases Bool.or_eq_true_iff.mp z with z | z
      · exact Or.inr (Or.inl (Nat.eq_of_beq_eq_true z))
      · rw [hg] at z; cases z
noncomputable def jm_cF (Of' : List Nat) (a g1 g2 : Nat) : Bool := ja_ch2 (fun _ (m : jc_Fa) => jc_off Of' m.1 || (Nat.beq m.1 g1 || (Nat.beq m.1 g2 || jc_all (fun c => !Nat.beq c.1 a) m.2.1))) jxm.2.1 && ja_ch2 (fun _ (m : jc_Po) => jc_off Of' m.1 || (Nat.beq m.1 g1 || (Nat.beq m.1 g2 || !Nat.beq m.2.1.1 a))) jxm.2.2.1
theorem jm_cp {a fa pa ga1 ga2 b fb pb gb1 gb2 : Nat} (hRa : jm_Row a fa pa ga1 ga2) (hRb : jm_Row b fb pb gb1 gb2) (hab : a ≠ b) {X : J_H → Prop} (hX : jc_Xo jxm X) {n : Nat} {B : jc_B} {Of Of' : List Nat} (K : Option (Nat × jc_v)) {out : jc_A}
    (c1 : (jc_arr jxm [] (n, B, K.toList.map (fun e => (jc_key a e.1, e.2)), [], [], Of) [] (1, [], [], [], [], Of)).isSome = true) (o1 : jc_off Of ga1 = false) (o2 : jc_off Of ga2 = false) (hoff : jm_ofb Of Of' gb1 gb2 = true) (hcF : jm_cF Of' b gb1 gb2 = true) (hK : ∀ e ∈ K.toList, e.1 < 602)
    (c2 : (jc_arr jxm [] (n, B, (K.toList.map (fun e => ((a, e.1), e.2)) ++ K.toList.map (fun e => ((b, e.1), e.2))).foldr (fun e O => (jc_key e.1.1 e.1.2, e.2) :: O) [], [], [], Of') [] out).isSome = true) :
    jc_Con jP jxm X (201, 0, [.inr (some (some a)), .inr (some (some b))], (n, B, K.toList.map (fun e => (jc_key a e.1, e.2)), [], [], Of), [(b, 0, 602)], [(out, none)]) := by
  intro d hd r t h As hg hA
  obtain ⟨v, st, rfl, h1, h2⟩ := jc_st_cons hA
  obtain ⟨v2, st2, rfl, h3, h4⟩ := jc_st_cons h2
  cases st2 with
  | cons _ _ => exact h4.elim
  | nil =>
  have e1 := h1.ref
  have e2 := h3.ref
  subst e1 e2
  obtain ⟨da, da1, da2, -⟩ := hRa.2.2.2.2.1
  obtain ⟨db, db1, db2, -⟩ := hRb.2.2.2.2.1
  obtain ⟨la, ha, l0⟩ := jm_arr hg da1 da2
  obtain ⟨lb, hb, l1⟩ := jm_arr hg db1 db2
  have hlt := (List.getElem?_eq_some_iff.mp hb).1
  refine (jcp_ok d h a b la lb ha hb l0 l1 hab).mono ?_
  rintro rv h' ⟨rfl, rfl⟩
  refine ⟨jm_fr hb l1 l0, _, List.mem_cons_self, ?_⟩
  obtain ⟨r', t', g1⟩ := hg.to jxm_ok c1
  have hS := jm_S.of hRa g1 rfl rfl rfl o1 o2
  have hb' : (h.set b (.inr (.inl (0, la))))[b]? = some (.inr (.inl (0, la))) := List.getElem?_set_self hlt
  have hsame : ∀ x i, x ≠ b → jc_at (h.set b (.inr (.inl (0, la)))) x i = jc_at h x i := fun x i hx => by
    unfold jc_at
    rw [List.getElem?_set_ne (fun z => hx z.symm)]
  have hsrc : ∀ i, i < 602 → jc_at (h.set b (.inr (.inl (0, la)))) b i = jc_at h a i := fun i _ => by rw [jm_atg hb', jm_atg ha]
  obtain ⟨hc1, hc2⟩ := Bool.and_eq_true_iff.mp hcF
  obtain ⟨t2, g2⟩ := hS.put hRb hX g1 rfl rfl rfl hsrc ⟨la, hb', l0⟩ (fun x hx => List.getElem?_set_ne (fun z => hx z.symm)) (jm_ofb_ok hoff) hc1 hc2
  have g3 := g2.rr hg.1
  have hval : ∀ e ∈ K.toList, ∃ v, jc_at h a e.1 = some v ∧ jc_val r n e.2 v := by
    intro e he
    cases K with
    | none => cases he
    | some k =>
      obtain rfl := List.mem_singleton.mp he
      exact hg.atO da1 (by rw [da2]; exact hK e (List.mem_singleton.mpr rfl)) (jc_lk_self _ _ _)
  have g4 := g3.adds jxm_ok (K.toList.map (fun e => ((a, e.1), e.2)) ++ K.toList.map (fun e => ((b, e.1), e.2))) (by
    intro e he
    rcases List.mem_append.mp he with he | he
    · obtain ⟨k, hk, rfl⟩ := List.mem_map.mp he
      obtain ⟨v, v1, v2⟩ := hval k hk
      exact ⟨da, v, da1, by rw [da2]; exact hK k hk, by rw [hsame a k.1 hab]; exact v1, v2⟩
    · obtain ⟨k, hk, rfl⟩ := List.mem_map.mp he
      obtain ⟨v, v1, v2⟩ := hval k hk
      exact ⟨db, v, db1, by rw [db2]; exact hK k hk, by rw [hsrc k.1 (hK k hk)]; exact v1, v2⟩)
  obtain ⟨r5, t5, g5⟩ := g4.to jxm_ok c2
  exact ⟨r5, t5, g5, trivial⟩
set_option maxRecDepth 100000 in
theorem jxm_g0_ok {X : J_H → Prop} (hX : jc_Xo jxm X) : jc_Con jP jxm X jxm_g0 := jm_cp jm_rowN jm_rowA (by decide) hX (n := 1) (B := []) (Of := [9, 10, 11, 12, 13, 14, 15, 16, 17, 18, 21, 22, 23, 24, 25]) (Of' := [9, 11, 12, 13, 14, 15, 16, 17, 18, 21, 22, 23, 24, 25]) (some (203, .inl (0, .ofNat 0))) (out := (1, [], [(2949323, .inl (0, .ofNat 0)), (2965707, .inl (0, .ofNat 0))], [], [], [9, 11, 12, 13, 14, 15, 16, 17, 18, 21, 22, 23, 24, 25])) (by decide +kernel) (by decide +kernel) (by decide +kernel) (by decide +kernel) (by decide +kernel) (by decide) (by decide +kernel)
set_option maxRecDepth 100000 in
theorem jxm_g1_ok {X : J_H → Prop} (hX : jc_Xo jxm X) : jc_Con jP jxm X jxm_g1 := jm_cp jm_rowN jm_rowA (by decide) hX (n := 1) (B := []) (Of := [9, 10, 11, 12, 13, 14, 15, 16, 17, 18, 21, 22, 23, 24, 25]) (Of' := [9, 11, 12, 13, 14, 15, 16, 17, 18, 21, 22, 23, 24, 25]) (some (203, .inl (0, .ofNat 1))) (out := (1, [], [(2949323, .inl (0, .ofNat 1)), (2965707, .inl (0, .ofNat 1))], [], [], [9, 11, 12, 13, 14, 15, 16, 17, 18, 21, 22, 23, 24, 25])) (by decide +kernel) (by decide +kernel) (by decide +kernel) (by decide +kernel) (by decide +kernel) (by decide) (by decide +kernel)
set_option maxRecDepth 100000 in
theorem jxm_g2_ok {X : J_H → Prop} (hX : jc_Xo jxm X) : jc_Con jP jxm X jxm_g2 := jm_cp jm_rowN jm_rowA (by decide) hX (n := 1) (B := []) (Of := [9, 10, 11, 12, 13, 14, 15, 16, 17, 18, 21, 22, 23, 24, 25]) (Of' := [9, 11, 12, 13, 14, 15, 16, 17, 18, 21, 22, 23, 24, 25]) (some (203, .inl (0, .ofNat 2))) (out := (1, [], [(2949323, .inl (0, .ofNat 2)), (2965707, .inl (0, .ofNat 2))], [], [], [9, 11, 12, 13, 14, 15, 16, 17, 18, 21, 22, 23, 24, 25])) (by decide +kernel) (by decide +kernel) (by decide +kernel) (by decide +kernel) (by decide +kernel) (by decide) (by decide +kernel)
set_option maxRecDepth 100000 in
theorem jxm_g3_ok {X : J_H → Prop} (hX : jc_Xo jxm X) : jc_Con jP jxm X jxm_g3 := jm_cp jm_rowN jm_rowA (by decide) hX (n := 1) (B := []) (Of := [9, 10, 11, 12, 13, 14, 15, 16, 17, 18, 21, 22, 23, 24, 25]) (Of' := [9, 11, 12, 13, 14, 15, 16, 17, 18, 21, 22, 23, 24, 25]) (some (203, .inl (0, .ofNat 3))) (out := (1, [], [(2949323, .inl (0, .ofNat 3)), (2965707, .inl (0, .ofNat 3))], [], [], [9, 11, 12, 13, 14, 15, 16, 17, 18, 21, 22, 23, 24, 25])) (by decide +kernel) (by decide +kernel) (by decide +kernel) (by decide +kernel) (by decide +kernel) (by decide) (by decide +kernel)
set_option maxRecDepth 100000 in
theorem jxm_g4_ok {X : J_H → Prop} (hX : jc_Xo jxm X) : jc_Con jP jxm X jxm_g4 := jm_cp jm_rowN jm_rowA (by decide) hX (n := 1) (B := []) (Of := [9, 10, 11, 12, 13, 14, 15, 16, 17, 18, 21, 22, 23, 24, 25]) (Of' := [9, 11, 12, 13, 14, 15, 16, 17, 18, 21, 22, 23, 24, 25]) (some (203, .inl (0, .ofNat 4))) (out := (1, [], [(2949323, .inl (0, .ofNat 4)), (2965707, .inl (0, .ofNat 4))], [], [], [9, 11, 12, 13, 14, 15, 16, 17, 18, 21, 22, 23, 24, 25])) (by decide +kernel) (by decide +kernel) (by decide +kernel) (by decide +kernel) (by decide +kernel) (by decide) (by decide +kernel)
set_option maxRecDepth 100000 in
theorem jxm_g5_ok {X : J_H → Prop} (hX : jc_Xo jxm X) : jc_Con jP jxm X jxm_g5 := jm_cp jm_rowN jm_rowA (by decide) hX (n := 1) (B := []) (Of := [9, 10, 11, 12, 13, 14, 15, 16, 17, 18, 21, 22, 23, 24, 25]) (Of' := [9, 11, 12, 13, 14, 15, 16, 17, 18, 21, 22, 23, 24, 25]) (some (203, .inl (0, .ofNat 5))) (out := (1, [], [(2949323, .inl (0, .ofNat 5)), (2965707, .inl (0, .ofNat 5))], [], [], [9, 11, 12, 13, 14, 15, 16, 17, 18, 21, 22, 23, 24, 25])) (by decide +kernel) (by decide +kernel) (by decide +kernel) (by decide +kernel) (by decide +kernel) (by decide) (by decide +kernel)
set_option maxRecDepth 100000 in
theorem jxm_g6_ok {X : J_H → Prop} (hX : jc_Xo jxm X) : jc_Con jP jxm X jxm_g6 := jm_cp jm_rowN jm_rowA (by decide) hX (n := 2) (B := [(1, .ofNat 0, .ofNat 2)]) (Of := [9, 10, 11, 12, 13, 14, 15, 16, 17, 18, 21, 22, 23, 24, 25]) (Of' := [9, 11, 12, 13, 14, 15, 16, 17, 18, 21, 22, 23, 24, 25]) (some (1, .inl (1, .ofNat 0))) (out := (3, [(1, .ofNat 0, .ofNat 2), (2, .ofNat 0, .ofNat 2)], [(2949121, .inl (2, .ofNat 0)), (2965505, .inl (1, .ofNat 0))], [], [], [9, 11, 12, 13, 14, 15, 16, 17, 18, 21, 22, 23, 24, 25])) (by decide +kernel) (by decide +kernel) (by decide +kernel) (by decide +kernel) (by decide +kernel) (by decide) (by decide +kernel)
set_option maxRecDepth 100000 in
theorem jxm_g7_ok {X : J_H → Prop} (hX : jc_Xo jxm X) : jc_Con jP jxm X jxm_g7 := jm_cp jm_rowN jm_rowA (by decide) hX (n := 2) (B := [(1, .ofNat 0, .ofNat 2)]) (Of := [9, 10, 11, 12, 13, 14, 15, 16, 17, 18, 21, 22, 23, 24, 25]) (Of' := [9, 11, 12, 13, 14, 15, 16, 17, 18, 21, 22, 23, 24, 25]) (some (9, .inl (1, .ofNat 0))) (out := (3, [(1, .ofNat 0, .ofNat 2), (2, .ofNat 0, .ofNat 2)], [(2949129, .inl (2, .ofNat 0)), (2965513, .inl (1, .ofNat 0))], [], [], [9, 11, 12, 13, 14, 15, 16, 17, 18, 21, 22, 23, 24, 25])) (by decide +kernel) (by decide +kernel) (by decide +kernel) (by decide +kernel) (by decide +kernel) (by decide) (by decide +kernel)
set_option maxRecDepth 100000 in
theorem jxm_g8_ok {X : J_H → Prop} (hX : jc_Xo jxm X) : jc_Con jP jxm X jxm_g8 := jm_cp jm_rowN jm_rowA (by decide) hX (n := 2) (B := [(1, .ofNat 0, .ofNat 2)]) (Of := [9, 10, 11, 12, 13, 14, 15, 16, 17, 18, 21, 22, 23, 24, 25]) (Of' := [9, 11, 12, 13, 14, 15, 16, 17, 18, 21, 22, 23, 24, 25]) (some (17, .inl (1, .ofNat 0))) (out := (3, [(1, .ofNat 0, .ofNat 2), (2, .ofNat 0, .ofNat 2)], [(2949137, .inl (2, .ofNat 0)), (2965521, .inl (1, .ofNat 0))], [], [], [9, 11, 12, 13, 14, 15, 16, 17, 18, 21, 22, 23, 24, 25])) (by decide +kernel) (by decide +kernel) (by decide +kernel) (by decide +kernel) (by decide +kernel) (by decide) (by decide +kernel)
set_option maxRecDepth 100000 in
theorem jxm_g9_ok {X : J_H → Prop} (hX : jc_Xo jxm X) : jc_Con jP jxm X jxm_g9 := jm_cp jm_rowN jm_rowA (by decide) hX (n := 2) (B := [(1, .ofNat 0, .ofNat 2)]) (Of := [9, 10, 11, 12, 13, 14, 15, 16, 17, 18, 21, 22, 23, 24, 25]) (Of' := [9, 11, 12, 13, 14, 15, 16, 17, 18, 21, 22, 23, 24, 25]) (some (25, .inl (1, .ofNat 0))) (out := (3, [(1, .ofNat 0, .ofNat 2), (2, .ofNat 0, .ofNat 2)], [(2949145, .inl (2, .ofNat 0)), (2965529, .inl (1, .ofNat 0))], [], [], [9, 11, 12, 13, 14, 15, 16, 17, 18, 21, 22, 23, 24, 25])) (by decide +kernel) (by decide +kernel) (by decide +kernel) (by decide +kernel) (by decide +kernel) (by decide) (by decide +kernel)
set_option maxRecDepth 100000 in
theorem jxm_g10_ok {X : J_H → Prop} (hX : jc_Xo jxm X) : jc_Con jP jxm X jxm_g10 := jm_cp jm_rowN jm_rowA (by decide) hX (n := 2) (B := [(1, .ofNat 0, .ofNat 2)]) (Of := [9, 10, 11, 12, 13, 14, 15, 16, 17, 18, 21, 22, 23, 24, 25]) (Of' := [9, 11, 12, 13, 14, 15, 16, 17, 18, 21, 22, 23, 24, 25]) (some (33, .inl (1, .ofNat 0))) (out := (3, [(1, .ofNat 0, .ofNat 2), (2, .ofNat 0, .ofNat 2)], [(2949153, .inl (2, .ofNat 0)), (2965537, .inl (1, .ofNat 0))], [], [], [9, 11, 12, 13, 14, 15, 16, 17, 18, 21, 22, 23, 24, 25])) (by decide +kernel) (by decide +kernel) (by decide +kernel) (by decide +kernel) (by decide +kernel) (by decide) (by decide +kernel)
set_option maxRecDepth 100000 in
theorem jxm_g11_ok {X : J_H → Prop} (hX : jc_Xo jxm X) : jc_Con jP jxm X jxm_g11 := jm_cp jm_rowN jm_rowA (by decide) hX (n := 2) (B := [(1, .ofNat 0, .ofNat 2)]) (Of := [9, 10, 11, 12, 13, 14, 15, 16, 17, 18, 21, 22, 23, 24, 25]) (Of' := [9, 11, 12, 13, 14, 15, 16, 17, 18, 21, 22, 23, 24, 25]) (some (41, .inl (1, .ofNat 0))) (out := (3, [(1, .ofNat 0, .ofNat 2), (2, .ofNat 0, .ofNat 2)], [(2949161, .inl (2, .ofNat 0)), (2965545, .inl (1, .ofNat 0))], [], [], [9, 11, 12, 13, 14, 15, 16, 17, 18, 21, 22, 23, 24, 25])) (by decide +kernel) (by decide +kernel) (by decide +kernel) (by decide +kernel) (by decide +kernel) (by decide) (by decide +kernel)
set_option maxRecDepth 100000 in
theorem jxm_g12_ok {X : J_H → Prop} (hX : jc_Xo jxm X) : jc_Con jP jxm X jxm_g12 := jm_cp jm_rowN jm_rowA (by decide) hX (n := 2) (B := [(1, .ofNat 0, .ofNat 2)]) (Of := [9, 10, 11, 12, 13, 14, 15, 16, 17, 18, 21, 22, 23, 24, 25]) (Of' := [9, 11, 12, 13, 14, 15, 16, 17, 18, 21, 22, 23, 24, 25]) (some (49, .inl (1, .ofNat 0))) (out := (3, [(1, .ofNat 0, .ofNat 2), (2, .ofNat 0, .ofNat 2)], [(2949169, .inl (2, .ofNat 0)), (2965553, .inl (1, .ofNat 0))], [], [], [9, 11, 12, 13, 14, 15, 16, 17, 18, 21, 22, 23, 24, 25])) (by decide +kernel) (by decide +kernel) (by decide +kernel) (by decide +kernel) (by decide +kernel) (by decide) (by decide +kernel)
set_option maxRecDepth 100000 in
theorem jxm_g13_ok {X : J_H → Prop} (hX : jc_Xo jxm X) : jc_Con jP jxm X jxm_g13 := jm_cp jm_rowN jm_rowA (by decide) hX (n := 1) (B := []) (Of := [9, 10, 11, 12, 13, 14, 15, 16, 17, 18, 21, 22, 23, 24, 25]) (Of' := [9, 11, 12, 13, 14, 15, 16, 17, 18, 21, 22, 23, 24, 25]) none (out := (1, [], [], [], [], [9, 11, 12, 13, 14, 15, 16, 17, 18, 21, 22, 23, 24, 25])) (by decide +kernel) (by decide +kernel) (by decide +kernel) (by decide +kernel) (by decide +kernel) (by decide) (by decide +kernel)
set_option maxRecDepth 100000 in
theorem jxm_g14_ok {X : J_H → Prop} (hX : jc_Xo jxm X) : jc_Con jP jxm X jxm_g14 := jm_cp jm_rowN jm_rowO (by decide) hX (n := 1) (B := []) (Of := [9, 10, 11, 12, 13, 14, 15, 16, 17, 18, 21, 22, 23, 24, 25]) (Of' := [9, 10, 12, 13, 14, 15, 16, 17, 18, 21, 22, 23, 24, 25]) (some (203, .inl (0, .ofNat 0))) (out := (1, [], [(2949323, .inl (0, .ofNat 0)), (2973899, .inl (0, .ofNat 0))], [], [], [9, 10, 12, 13, 14, 15, 16, 17, 18, 21, 22, 23, 24, 25])) (by decide +kernel) (by decide +kernel) (by decide +kernel) (by decide +kernel) (by decide +kernel) (by decide) (by decide +kernel)
set_option maxRecDepth 100000 in
theorem jxm_g15_ok {X : J_H → Prop} (hX : jc_Xo jxm X) : jc_Con jP jxm X jxm_g15 := jm_cp jm_rowN jm_rowO (by decide) hX (n := 1) (B := []) (Of := [9, 10, 11, 12, 13, 14, 15, 16, 17, 18, 21, 22, 23, 24, 25]) (Of' := [9, 10, 12, 13, 14, 15, 16, 17, 18, 21, 22, 23, 24, 25]) (some (203, .inl (0, .ofNat 1))) (out := (1, [], [(2949323, .inl (0, .ofNat 1)), (2973899, .inl (0, .ofNat 1))], [], [], [9, 10, 12, 13, 14, 15, 16, 17, 18, 21, 22, 23, 24, 25])) (by decide +kernel) (by decide +kernel) (by decide +kernel) (by decide +kernel) (by decide +kernel) (by decide) (by decide +kernel)
set_option maxRecDepth 100000 in
theorem jxm_g16_ok {X : J_H → Prop} (hX : jc_Xo jxm X) : jc_Con jP jxm X jxm_g16 := jm_cp jm_rowN jm_rowO (by decide) hX (n := 1) (B := []) (Of := [9, 10, 11, 12, 13, 14, 15, 16, 17, 18, 21, 22, 23, 24, 25]) (Of' := [9, 10, 12, 13, 14, 15, 16, 17, 18, 21, 22, 23, 24, 25]) (some (203, .inl (0, .ofNat 2))) (out := (1, [], [(2949323, .inl (0, .ofNat 2)), (2973899, .inl (0, .ofNat 2))], [], [], [9, 10, 12, 13, 14, 15, 16, 17, 18, 21, 22, 23, 24, 25])) (by decide +kernel) (by decide +kernel) (by decide +kernel) (by decide +kernel) (by decide +kernel) (by decide) (by decide +kernel)
set_option maxRecDepth 100000 in
theorem jxm_g17_ok {X : J_H → Prop} (hX : jc_Xo jxm X) : jc_Con jP jxm X jxm_g17 := jm_cp jm_rowN jm_rowO (by decide) hX (n := 1) (B := []) (Of := [9, 10, 11, 12, 13, 14, 15, 16, 17, 18, 21, 22, 23, 24, 25]) (Of' := [9, 10, 12, 13, 14, 15, 16, 17, 18, 21, 22, 23, 24, 25]) (some (203, .inl (0, .ofNat 3))) (out := (1, [], [(2949323, .inl (0, .ofNat 3)), (2973899, .inl (0, .ofNat 3))], [], [], [9, 10, 12, 13, 14, 15, 16, 17, 18, 21, 22, 23, 24, 25])) (by decide +kernel) (by decide +kernel) (by decide +kernel) (by decide +kernel) (by decide +kernel) (by decide) (by decide +kernel)
set_option maxRecDepth 100000 in
theorem jxm_g18_ok {X : J_H → Prop} (hX : jc_Xo jxm X) : jc_Con jP jxm X jxm_g18 := jm_cp jm_rowN jm_rowO (by decide) hX (n := 1) (B := []) (Of := [9, 10, 11, 12, 13, 14, 15, 16, 17, 18, 21, 22, 23, 24, 25]) (Of' := [9, 10, 12, 13, 14, 15, 16, 17, 18, 21, 22, 23, 24, 25]) (some (203, .inl (0, .ofNat 4))) (out := (1, [], [(2949323, .inl (0, .ofNat 4)), (2973899, .inl (0, .ofNat 4))], [], [], [9, 10, 12, 13, 14, 15, 16, 17, 18, 21, 22, 23, 24, 25])) (by decide +kernel) (by decide +kernel) (by decide +kernel) (by decide +kernel) (by decide +kernel) (by decide) (by decide +kernel)
set_option maxRecDepth 100000 in
theorem jxm_g19_ok {X : J_H → Prop} (hX : jc_Xo jxm X) : jc_Con jP jxm X jxm_g19 := jm_cp jm_rowN jm_rowO (by decide) hX (n := 1) (B := []) (Of := [9, 10, 11, 12, 13, 14, 15, 16, 17, 18, 21, 22, 23, 24, 25]) (Of' := [9, 10, 12, 13, 14, 15, 16, 17, 18, 21, 22, 23, 24, 25]) (some (203, .inl (0, .ofNat 5))) (out := (1, [], [(2949323, .inl (0, .ofNat 5)), (2973899, .inl (0, .ofNat 5))], [], [], [9, 10, 12, 13, 14, 15, 16, 17, 18, 21, 22, 23, 24, 25])) (by decide +kernel) (by decide +kernel) (by decide +kernel) (by decide +kernel) (by decide +kernel) (by decide) (by decide +kernel)
set_option maxRecDepth 100000 in
theorem jxm_g20_ok {X : J_H → Prop} (hX : jc_Xo jxm X) : jc_Con jP jxm X jxm_g20 := jm_cp jm_rowN jm_rowO (by decide) hX (n := 1) (B := []) (Of := [9, 10, 11, 12, 13, 14, 15, 16, 17, 18, 21, 22, 23, 24, 25]) (Of' := [9, 10, 12, 13, 14, 15, 16, 17, 18, 21, 22, 23, 24, 25]) none (out := (1, [], [], [], [], [9, 10, 12, 13, 14, 15, 16, 17, 18, 21, 22, 23, 24, 25])) (by decide +kernel) (by decide +kernel) (by decide +kernel) (by decide +kernel) (by decide +kernel) (by decide) (by decide +kernel)
set_option maxRecDepth 100000 in
theorem jxm_g21_ok {X : J_H → Prop} (hX : jc_Xo jxm X) : jc_Con jP jxm X jxm_g21 := jm_cp jm_rowA jm_rowN (by decide) hX (n := 1) (B := []) (Of := [8, 9, 11, 12, 13, 14, 15, 16, 17, 18, 19, 21, 22, 23, 24, 25]) (Of' := [9, 11, 12, 13, 14, 15, 16, 17, 18, 21, 22, 23, 24, 25]) (some (203, .inl (0, .ofNat 0))) (out := (1, [], [(2949323, .inl (0, .ofNat 0)), (2965707, .inl (0, .ofNat 0))], [], [], [9, 11, 12, 13, 14, 15, 16, 17, 18, 21, 22, 23, 24, 25])) (by decide +kernel) (by decide +kernel) (by decide +kernel) (by decide +kernel) (by decide +kernel) (by decide) (by decide +kernel)
set_option maxRecDepth 100000 in
theorem jxm_g22_ok {X : J_H → Prop} (hX : jc_Xo jxm X) : jc_Con jP jxm X jxm_g22 := jm_cp jm_rowA jm_rowN (by decide) hX (n := 1) (B := []) (Of := [8, 9, 11, 12, 13, 14, 15, 16, 17, 18, 19, 21, 22, 23, 24, 25]) (Of' := [9, 11, 12, 13, 14, 15, 16, 17, 18, 21, 22, 23, 24, 25]) (some (203, .inl (0, .ofNat 1))) (out := (1, [], [(2949323, .inl (0, .ofNat 1)), (2965707, .inl (0, .ofNat 1))], [], [], [9, 11, 12, 13, 14, 15, 16, 17, 18, 21, 22, 23, 24, 25])) (by decide +kernel) (by decide +kernel) (by decide +kernel) (by decide +kernel) (by decide +kernel) (by decide) (by decide +kernel)
set_option maxRecDepth 100000 in
theorem jxm_g23_ok {X : J_H → Prop} (hX : jc_Xo jxm X) : jc_Con jP jxm X jxm_g23 := jm_cp jm_rowA jm_rowN (by decide) hX (n := 1) (B := []) (Of := [8, 9, 11, 12, 13, 14, 15, 16, 17, 18, 19, 21, 22, 23, 24, 25]) (Of' := [9, 11, 12, 13, 14, 15, 16, 17, 18, 21, 22, 23, 24, 25]) (some (203, .inl (0, .ofNat 2))) (out := (1, [], [(2949323, .inl (0, .ofNat 2)), (2965707, .inl (0, .ofNat 2))], [], [], [9, 11, 12, 13, 14, 15, 16, 17, 18, 21, 22, 23, 24, 25])) (by decide +kernel) (by decide +kernel) (by decide +kernel) (by decide +kernel) (by decide +kernel) (by decide) (by decide +kernel)
set_option maxRecDepth 100000 in
theorem jxm_g24_ok {X : J_H → Prop} (hX : jc_Xo jxm X) : jc_Con jP jxm X jxm_g24 := jm_cp jm_rowA jm_rowN (by decide) hX (n := 1) (B := []) (Of := [8, 9, 11, 12, 13, 14, 15, 16, 17, 18, 19, 21, 22, 23, 24, 25]) (Of' := [9, 11, 12, 13, 14, 15, 16, 17, 18, 21, 22, 23, 24, 25]) (some (203, .inl (0, .ofNat 3))) (out := (1, [], [(2949323, .inl (0, .ofNat 3)), (2965707, .inl (0, .ofNat 3))], [], [], [9, 11, 12, 13, 14, 15, 16, 17, 18, 21, 22, 23, 24, 25])) (by decide +kernel) (by decide +kernel) (by decide +kernel) (by decide +kernel) (by decide +kernel) (by decide) (by decide +kernel)
set_option maxRecDepth 100000 in
theorem jxm_g25_ok {X : J_H → Prop} (hX : jc_Xo jxm X) : jc_Con jP jxm X jxm_g25 := jm_cp jm_rowA jm_rowN (by decide) hX (n := 1) (B := []) (Of := [8, 9, 11, 12, 13, 14, 15, 16, 17, 18, 19, 21, 22, 23, 24, 25]) (Of' := [9, 11, 12, 13, 14, 15, 16, 17, 18, 21, 22, 23, 24, 25]) (some (203, .inl (0, .ofNat 4))) (out := (1, [], [(2949323, .inl (0, .ofNat 4)), (2965707, .inl (0, .ofNat 4))], [], [], [9, 11, 12, 13, 14, 15, 16, 17, 18, 21, 22, 23, 24, 25])) (by decide +kernel) (by decide +kernel) (by decide +kernel) (by decide +kernel) (by decide +kernel) (by decide) (by decide +kernel)
set_option maxRecDepth 100000 in
theorem jxm_g26_ok {X : J_H → Prop} (hX : jc_Xo jxm X) : jc_Con jP jxm X jxm_g26 := jm_cp jm_rowA jm_rowN (by decide) hX (n := 1) (B := []) (Of := [8, 9, 11, 12, 13, 14, 15, 16, 17, 18, 19, 21, 22, 23, 24, 25]) (Of' := [9, 11, 12, 13, 14, 15, 16, 17, 18, 21, 22, 23, 24, 25]) (some (203, .inl (0, .ofNat 5))) (out := (1, [], [(2949323, .inl (0, .ofNat 5)), (2965707, .inl (0, .ofNat 5))], [], [], [9, 11, 12, 13, 14, 15, 16, 17, 18, 21, 22, 23, 24, 25])) (by decide +kernel) (by decide +kernel) (by decide +kernel) (by decide +kernel) (by decide +kernel) (by decide) (by decide +kernel)
set_option maxRecDepth 100000 in
theorem jxm_g27_ok {X : J_H → Prop} (hX : jc_Xo jxm X) : jc_Con jP jxm X jxm_g27 := jm_cp jm_rowA jm_rowN (by decide) hX (n := 2) (B := [(1, .ofNat 0, .ofNat 2)]) (Of := [8, 9, 11, 12, 13, 14, 15, 16, 17, 18, 19, 21, 22, 23, 24, 25]) (Of' := [9, 11, 12, 13, 14, 15, 16, 17, 18, 21, 22, 23, 24, 25]) (some (1, .inl (1, .ofNat 0))) (out := (3, [(1, .ofNat 0, .ofNat 2), (2, .ofNat 0, .ofNat 2)], [(2949121, .inl (1, .ofNat 0)), (2965505, .inl (2, .ofNat 0))], [], [], [9, 11, 12, 13, 14, 15, 16, 17, 18, 21, 22, 23, 24, 25])) (by decide +kernel) (by decide +kernel) (by decide +kernel) (by decide +kernel) (by decide +kernel) (by decide) (by decide +kernel)
set_option maxRecDepth 100000 in
theorem jxm_g28_ok {X : J_H → Prop} (hX : jc_Xo jxm X) : jc_Con jP jxm X jxm_g28 := jm_cp jm_rowA jm_rowN (by decide) hX (n := 2) (B := [(1, .ofNat 0, .ofNat 2)]) (Of := [8, 9, 11, 12, 13, 14, 15, 16, 17, 18, 19, 21, 22, 23, 24, 25]) (Of' := [9, 11, 12, 13, 14, 15, 16, 17, 18, 21, 22, 23, 24, 25]) (some (9, .inl (1, .ofNat 0))) (out := (3, [(1, .ofNat 0, .ofNat 2), (2, .ofNat 0, .ofNat 2)], [(2949129, .inl (1, .ofNat 0)), (2965513, .inl (2, .ofNat 0))], [], [], [9, 11, 12, 13, 14, 15, 16, 17, 18, 21, 22, 23, 24, 25])) (by decide +kernel) (by decide +kernel) (by decide +kernel) (by decide +kernel) (by decide +kernel) (by decide) (by decide +kernel)
set_option maxRecDepth 100000 in
theorem jxm_g29_ok {X : J_H → Prop} (hX : jc_Xo jxm X) : jc_Con jP jxm X jxm_g29 := jm_cp jm_rowA jm_rowN (by decide) hX (n := 2) (B := [(1, .ofNat 0, .ofNat 2)]) (Of := [8, 9, 11, 12, 13, 14, 15, 16, 17, 18, 19, 21, 22, 23, 24, 25]) (Of' := [9, 11, 12, 13, 14, 15, 16, 17, 18, 21, 22, 23, 24, 25]) (some (17, .inl (1, .ofNat 0))) (out := (3, [(1, .ofNat 0, .ofNat 2), (2, .ofNat 0, .ofNat 2)], [(2949137, .inl (1, .ofNat 0)), (2965521, .inl (2, .ofNat 0))], [], [], [9, 11, 12, 13, 14, 15, 16, 17, 18, 21, 22, 23, 24, 25])) (by decide +kernel) (by decide +kernel) (by decide +kernel) (by decide +kernel) (by decide +kernel) (by decide) (by decide +kernel)
set_option maxRecDepth 100000 in
theorem jxm_g30_ok {X : J_H → Prop} (hX : jc_Xo jxm X) : jc_Con jP jxm X jxm_g30 := jm_cp jm_rowA jm_rowN (by decide) hX (n := 2) (B := [(1, .ofNat 0, .ofNat 2)]) (Of := [8, 9, 11, 12, 13, 14, 15, 16, 17, 18, 19, 21, 22, 23, 24, 25]) (Of' := [9, 11, 12, 13, 14, 15, 16, 17, 18, 21, 22, 23, 24, 25]) (some (25, .inl (1, .ofNat 0))) (out := (3, [(1, .ofNat 0, .ofNat 2), (2, .ofNat 0, .ofNat 2)], [(2949145, .inl (1, .ofNat 0)), (2965529, .inl (2, .ofNat 0))], [], [], [9, 11, 12, 13, 14, 15, 16, 17, 18, 21, 22, 23, 24, 25])) (by decide +kernel) (by decide +kernel) (by decide +kernel) (by decide +kernel) (by decide +kernel) (by decide) (by decide +kernel)
set_option maxRecDepth 100000 in
theorem jxm_g31_ok {X : J_H → Prop} (hX : jc_Xo jxm X) : jc_Con jP jxm X jxm_g31 := jm_cp jm_rowA jm_rowN (by decide) hX (n := 2) (B := [(1, .ofNat 0, .ofNat 2)]) (Of := [8, 9, 11, 12, 13, 14, 15, 16, 17, 18, 19, 21, 22, 23, 24, 25]) (Of' := [9, 11, 12, 13, 14, 15, 16, 17, 18, 21, 22, 23, 24, 25]) (some (33, .inl (1, .ofNat 0))) (out := (3, [(1, .ofNat 0, .ofNat 2), (2, .ofNat 0, .ofNat 2)], [(2949153, .inl (1, .ofNat 0)), (2965537, .inl (2, .ofNat 0))], [], [], [9, 11, 12, 13, 14, 15, 16, 17, 18, 21, 22, 23, 24, 25])) (by decide +kernel) (by decide +kernel) (by decide +kernel) (by decide +kernel) (by decide +kernel) (by decide) (by decide +kernel)
set_option maxRecDepth 100000 in
theorem jxm_g32_ok {X : J_H → Prop} (hX : jc_Xo jxm X) : jc_Con jP jxm X jxm_g32 := jm_cp jm_rowA jm_rowN (by decide) hX (n := 2) (B := [(1, .ofNat 0, .ofNat 2)]) (Of := [8, 9, 11, 12, 13, 14, 15, 16, 17, 18, 19, 21, 22, 23, 24, 25]) (Of' := [9, 11, 12, 13, 14, 15, 16, 17, 18, 21, 22, 23, 24, 25]) (some (41, .inl (1, .ofNat 0))) (out := (3, [(1, .ofNat 0, .ofNat 2), (2, .ofNat 0, .ofNat 2)], [(2949161, .inl (1, .ofNat 0)), (2965545, .inl (2, .ofNat 0))], [], [], [9, 11, 12, 13, 14, 15, 16, 17, 18, 21, 22, 23, 24, 25])) (by decide +kernel) (by decide +kernel) (by decide +kernel) (by decide +kernel) (by decide +kernel) (by decide) (by decide +kernel)
set_option maxRecDepth 100000 in
theorem jxm_g33_ok {X : J_H → Prop} (hX : jc_Xo jxm X) : jc_Con jP jxm X jxm_g33 := jm_cp jm_rowA jm_rowN (by decide) hX (n := 2) (B := [(1, .ofNat 0, .ofNat 2)]) (Of := [8, 9, 11, 12, 13, 14, 15, 16, 17, 18, 19, 21, 22, 23, 24, 25]) (Of' := [9, 11, 12, 13, 14, 15, 16, 17, 18, 21, 22, 23, 24, 25]) (some (49, .inl (1, .ofNat 0))) (out := (3, [(1, .ofNat 0, .ofNat 2), (2, .ofNat 0, .ofNat 2)], [(2949169, .inl (1, .ofNat 0)), (2965553, .inl (2, .ofNat 0))], [], [], [9, 11, 12, 13, 14, 15, 16, 17, 18, 21, 22, 23, 24, 25])) (by decide +kernel) (by decide +kernel) (by decide +kernel) (by decide +kernel) (by decide +kernel) (by decide) (by decide +kernel)
set_option maxRecDepth 100000 in
theorem jxm_g34_ok {X : J_H → Prop} (hX : jc_Xo jxm X) : jc_Con jP jxm X jxm_g34 := jm_cp jm_rowA jm_rowN (by decide) hX (n := 1) (B := []) (Of := [8, 9, 11, 12, 13, 14, 15, 16, 17, 18, 19, 21, 22, 23, 24, 25]) (Of' := [9, 11, 12, 13, 14, 15, 16, 17, 18, 21, 22, 23, 24, 25]) none (out := (1, [], [], [], [], [9, 11, 12, 13, 14, 15, 16, 17, 18, 21, 22, 23, 24, 25])) (by decide +kernel) (by decide +kernel) (by decide +kernel) (by decide +kernel) (by decide +kernel) (by decide) (by decide +kernel)
set_option maxRecDepth 100000 in
theorem jxm_g35_ok {X : J_H → Prop} (hX : jc_Xo jxm X) : jc_Con jP jxm X jxm_g35 := jm_cp jm_rowO jm_rowN (by decide) hX (n := 1) (B := []) (Of := [8, 9, 10, 12, 13, 14, 15, 16, 17, 18, 19, 21, 22, 23, 24, 25]) (Of' := [9, 10, 12, 13, 14, 15, 16, 17, 18, 21, 22, 23, 24, 25]) (some (203, .inl (0, .ofNat 0))) (out := (1, [], [(2949323, .inl (0, .ofNat 0)), (2973899, .inl (0, .ofNat 0))], [], [], [9, 10, 12, 13, 14, 15, 16, 17, 18, 21, 22, 23, 24, 25])) (by decide +kernel) (by decide +kernel) (by decide +kernel) (by decide +kernel) (by decide +kernel) (by decide) (by decide +kernel)
set_option maxRecDepth 100000 in
theorem jxm_g36_ok {X : J_H → Prop} (hX : jc_Xo jxm X) : jc_Con jP jxm X jxm_g36 := jm_cp jm_rowO jm_rowN (by decide) hX (n := 1) (B := []) (Of := [8, 9, 10, 12, 13, 14, 15, 16, 17, 18, 19, 21, 22, 23, 24, 25]) (Of' := [9, 10, 12, 13, 14, 15, 16, 17, 18, 21, 22, 23, 24, 25]) (some (203, .inl (0, .ofNat 1))) (out := (1, [], [(2949323, .inl (0, .ofNat 1)), (2973899, .inl (0, .ofNat 1))], [], [], [9, 10, 12, 13, 14, 15, 16, 17, 18, 21, 22, 23, 24, 25])) (by decide +kernel) (by decide +kernel) (by decide +kernel) (by decide +kernel) (by decide +kernel) (by decide) (by decide +kernel)
set_option maxRecDepth 100000 in
theorem jxm_g37_ok {X : J_H → Prop} (hX : jc_Xo jxm X) : jc_Con jP jxm X jxm_g37 := jm_cp jm_rowO jm_rowN (by decide) hX (n := 1) (B := []) (Of := [8, 9, 10, 12, 13, 14, 15, 16, 17, 18, 19, 21, 22, 23, 24, 25]) (Of' := [9, 10, 12, 13, 14, 15, 16, 17, 18, 21, 22, 23, 24, 25]) (some (203, .inl (0, .ofNat 2))) (out := (1, [], [(2949323, .inl (0, .ofNat 2)), (2973899, .inl (0, .ofNat 2))], [], [], [9, 10, 12, 13, 14, 15, 16, 17, 18, 21, 22, 23, 24, 25])) (by decide +kernel) (by decide +kernel) (by decide +kernel) (by decide +kernel) (by decide +kernel) (by decide) (by decide +kernel)
set_option maxRecDepth 100000 in
theorem jxm_g38_ok {X : J_H → Prop} (hX : jc_Xo jxm X) : jc_Con jP jxm X jxm_g38 := jm_cp jm_rowO jm_rowN (by decide) hX (n := 1) (B := []) (Of := [8, 9, 10, 12, 13, 14, 15, 16, 17, 18, 19, 21, 22, 23, 24, 25]) (Of' := [9, 10, 12, 13, 14, 15, 16, 17, 18, 21, 22, 23, 24, 25]) (some (203, .inl (0, .ofNat 3))) (out := (1, [], [(2949323, .inl (0, .ofNat 3)), (2973899, .inl (0, .ofNat 3))], [], [], [9, 10, 12, 13, 14, 15, 16, 17, 18, 21, 22, 23, 24, 25])) (by decide +kernel) (by decide +kernel) (by decide +kernel) (by decide +kernel) (by decide +kernel) (by decide) (by decide +kernel)
set_option maxRecDepth 100000 in
theorem jxm_g39_ok {X : J_H → Prop} (hX : jc_Xo jxm X) : jc_Con jP jxm X jxm_g39 := jm_cp jm_rowO jm_rowN (by decide) hX (n := 1) (B := []) (Of := [8, 9, 10, 12, 13, 14, 15, 16, 17, 18, 19, 21, 22, 23, 24, 25]) (Of' := [9, 10, 12, 13, 14, 15, 16, 17, 18, 21, 22, 23, 24, 25]) (some (203, .inl (0, .ofNat 4))) (out := (1, [], [(2949323, .inl (0, .ofNat 4)), (2973899, .inl (0, .ofNat 4))], [], [], [9, 10, 12, 13, 14, 15, 16, 17, 18, 21, 22, 23, 24, 25])) (by decide +kernel) (by decide +kernel) (by decide +kernel) (by decide +kernel) (by decide +kernel) (by decide) (by decide +kernel)
set_option maxRecDepth 100000 in
theorem jxm_g40_ok {X : J_H → Prop} (hX : jc_Xo jxm X) : jc_Con jP jxm X jxm_g40 := jm_cp jm_rowO jm_rowN (by decide) hX (n := 1) (B := []) (Of := [8, 9, 10, 12, 13, 14, 15, 16, 17, 18, 19, 21, 22, 23, 24, 25]) (Of' := [9, 10, 12, 13, 14, 15, 16, 17, 18, 21, 22, 23, 24, 25]) (some (203, .inl (0, .ofNat 5))) (out := (1, [], [(2949323, .inl (0, .ofNat 5)), (2973899, .inl (0, .ofNat 5))], [], [], [9, 10, 12, 13, 14, 15, 16, 17, 18, 21, 22, 23, 24, 25])) (by decide +kernel) (by decide +kernel) (by decide +kernel) (by decide +kernel) (by decide +kernel) (by decide) (by decide +kernel)
set_option maxRecDepth 100000 in
theorem jxm_g41_ok {X : J_H → Prop} (hX : jc_Xo jxm X) : jc_Con jP jxm X jxm_g41 := jm_cp jm_rowO jm_rowN (by decide) hX (n := 1) (B := []) (Of := [8, 9, 10, 12, 13, 14, 15, 16, 17, 18, 19, 21, 22, 23, 24, 25]) (Of' := [9, 10, 12, 13, 14, 15, 16, 17, 18, 21, 22, 23, 24, 25]) none (out := (1, [], [], [], [], [9, 10, 12, 13, 14, 15, 16, 17, 18, 21, 22, 23, 24, 25])) (by decide +kernel) (by decide +kernel) (by decide +kernel) (by decide +kernel) (by decide +kernel) (by decide) (by decide +kernel)

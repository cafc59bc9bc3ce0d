/-! saved states (A): checks; what holds -/
set_option maxRecDepth 1000000 in
theorem jxsA_tk1_5 : (List.range 11).all (fun c => (Nat.beq c 0 || jxs_tkb 1 jxsA_T 5 c)) = true := by decide +kernel
set_option maxRecDepth 1000000 in
theorem jxsA_tk1_6 : (List.range 11).all (fun c => (Nat.beq c 0 || jxs_tkb 1 jxsA_T 6 c)) = true := by decide +kernel
set_option maxRecDepth 1000000 in
theorem jxsA_tk1_7 : (List.range 11).all (fun c => (Nat.beq c 0 || jxs_tkb 1 jxsA_T 7 c)) = true := by decide +kernel
set_option maxRecDepth 1000000 in
theorem jxsA_tk1_8 : (List.range 11).all (fun c => (Nat.beq c 0 || jxs_tkb 1 jxsA_T 8 c)) = true := by decide +kernel
set_option maxRecDepth 1000000 in
theorem jxsA_tk1_9 : (List.range 11).all (fun c => (Nat.beq c 0 || jxs_tkb 1 jxsA_T 9 c)) = true := by decide +kernel
theorem jxsA_tk1 {n c : Nat} (hn : n < 10) (hc : c < 11) : (Nat.beq c 0 || jxs_tkb 1 jxsA_T n c) = true := by
  have hc := List.mem_range.mpr hc
  match n, hn with
  | 0, _ => exact List.all_eq_true.mp jxsA_tk1_0 c hc
  | 1, _ => exact List.all_eq_true.mp jxsA_tk1_1 c hc
  | 2, _ => exact List.all_eq_true.mp jxsA_tk1_2 c hc
  | 3, _ => exact List.all_eq_true.mp jxsA_tk1_3 c hc
  | 4, _ => exact List.all_eq_true.mp jxsA_tk1_4 c hc
  | 5, _ => exact List.all_eq_true.mp jxsA_tk1_5 c hc
  | 6, _ => exact List.all_eq_true.mp jxsA_tk1_6 c hc
  | 7, _ => exact List.all_eq_true.mp jxsA_tk1_7 c hc
  | 8, _ => exact List.all_eq_true.mp jxsA_tk1_8 c hc
  | 9, _ => exact List.all_eq_true.mp jxsA_tk1_9 c hc
  | n + 10, h => exact absurd h (by omega)
noncomputable def jxsA_q (n c : Nat) : Bool := match ja_n2 jxsA_T (11 * n + c) with
  | some (O, F) => (match jc_lk O 237569, jc_lk O 237570 with
    | some (.inl (0, .ofNat a)), some (.inl (0, .ofNat b)) => Nat.beq a n && Nat.beq b c
    | _, _ => false) && (jxs_S n c).all fun i => (match jc_lk O (jc_key (31 + 25 * i) 0) with
    | some (.inr (some (some b))) => Nat.beq b 327
    | _ => false) && !jc_off F (30 + i)
  | none => false
theorem jxsA_q1 : jxs_pr jxsA_q = true := by decide +kernel
theorem jxsA_Xof {r : jc_R} {t : jc_T} {h : J_H} {X : J_H → Prop} {n c : Nat} {O : List (Nat × jc_v)} {F : List Nat} (hT : ja_n2 jxsA_T (11 * n + c) = some (O, F)) (hg : jc_g jxs X r t (jxs_st O F) h) (hn : n < 10) (hc : c < 11) : jxs_X 30 327 h := by
  have q0 := jxs_pr_ok jxsA_q1 hn hc
  unfold jxsA_q at q0
  rw [hT] at q0
  obtain ⟨q1, q2⟩ := Bool.and_eq_true_iff.mp q0
  obtain ⟨d1, e1, e2⟩ := jxs_len_ok (a := 29) (i := 1) (by decide +kernel)
  obtain ⟨d2, e3, e4⟩ := jxs_len_ok (a := 29) (i := 2) (by decide +kernel)
  have k1 : ∃ y : Int32, jc_at h 29 1 = some (.int y) ∧ y.toInt = (n : Int) := by
    split at q1
    · rename_i a b ha hb
      have qa := Nat.eq_of_beq_eq_true (Bool.and_eq_true_iff.mp q1).1
      subst qa
      obtain ⟨v, v1, v2⟩ := hg.atO (a := 29) (i := 1) e1 e2 ha
      obtain ⟨y, rfl, -, y2⟩ := v2.int
      exact ⟨y, v1, by rw [y2, hg.1.1]; exact Int.zero_add _⟩
    · cases q1
  have k2 : ∃ y : Int32, jc_at h 29 2 = some (.int y) ∧ y.toInt = (c : Int) := by
    split at q1
    · rename_i a b ha hb
      have qa := Nat.eq_of_beq_eq_true (Bool.and_eq_true_iff.mp q1).2
      subst qa
      obtain ⟨v, v1, v2⟩ := hg.atO (a := 29) (i := 2) e3 e4 hb
      obtain ⟨y, rfl, -, y2⟩ := v2.int
      exact ⟨y, v1, by rw [y2, hg.1.1]; exact Int.zero_add _⟩
    · cases q1
  refine ⟨n, c, hn, hc, k1, k2, fun i hi => ?_, t, fun f m hm ⟨i, hi, e⟩ => ?_⟩
  · have q3 := (Bool.and_eq_true_iff.mp (List.all_eq_true.mp q2 i hi)).1
    obtain ⟨d, d1, d2⟩ := jxs_lay_ok hi
    split at q3
    · rename_i b hb
      have qb := Nat.eq_of_beq_eq_true q3
      subst qb
      obtain ⟨v, v1, v2⟩ := hg.atO d1 d2 hb
      rw [v1, v2.ref]
    · cases q3
  · have o1 := (Bool.and_eq_true_iff.mp (List.all_eq_true.mp q2 i hi)).2
    refine hg.fam rfl hm ?_
    rw [e]
    simpa using o1
theorem jxsA_in : ja_ch2 (fun _ (m : jc_Fa) => !(Nat.ble 30 m.1 && Nat.ble (m.1 + 1) (30 + 10)) || jc_all (fun c => jc_inW jxa.2.2.2.2 c.1 c.2) m.2.1) jxs.2.1 = true := by decide +kernel
theorem jxsA_in2 : (List.range 10).all (fun i => jc_inW jxa.2.2.2.2 (31 + 25 * i) 0) = true := by decide +kernel
theorem jxsA_Xo : jc_Xo jxa (jxs_X 30 327) := by
  rintro h h' hh ⟨n, c, hn, hc, ⟨y1, a1, a2⟩, ⟨y2, b1, b2⟩, hl, t, ht⟩
  refine ⟨n, c, hn, hc, ⟨y1, ?_, a2⟩, ⟨y2, ?_, b2⟩, fun i hi => ?_, t, fun f m hm hi => ?_⟩
  · rw [hh 29 1 (by decide +kernel)]; exact a1
  · rw [hh 29 2 (by decide +kernel)]; exact b1
  · rw [hh _ 0 (List.all_eq_true.mp jxsA_in2 i (List.mem_range.mpr (jxs_S_lt hi)))]; exact hl i hi
  · obtain ⟨z1, z2⟩ := ht f m hm hi
    refine ⟨z1, jc_in_eq (fun q hq => hh q.1 q.2 ?_) z2⟩
    obtain ⟨i, hi, e⟩ := hi
    have hi := jxs_S_lt hi
    have hck := ja_ch2_ok (p := fun _ (m : jc_Fa) => !(Nat.ble 30 m.1 && Nat.ble (m.1 + 1) (30 + 10)) || jc_all (fun c => jc_inW jxa.2.2.2.2 c.1 c.2) m.2.1) jxsA_in hm
    rw [show Nat.ble 30 m.1 = true from Nat.ble_eq_true_of_le (by omega), show Nat.ble (m.1 + 1) (30 + 10) = true from Nat.ble_eq_true_of_le (by omega)] at hck
    exact jc_all_ok hck q hq
def jxsA_o : jc_A := (1, [], jxa_g0.2.2.2.1.2.2.1, [], [], [2, 3, 4, 5, 6, 7, 30, 31, 32, 33, 34, 35, 36, 37, 38, 39, 40, 41, 42, 43, 44, 45, 46, 47, 48, 49])
noncomputable def jxsA_b (n c : Nat) : Bool := match ja_n2 jxsA_T (11 * n + c) with
  | some (O, F) => ((jxs_all.all fun g => (jc_off F g || (Nat.beq g 0 || (Nat.beq g 1 || (jxs_S n c).any fun i => Nat.beq g (30 + i)))))) && ((jc_arr jxs [] (1, [], (jxs_l 327 n c).foldr (fun e O => (jc_key e.1.1 e.1.2, e.2) :: O) jxa_g0.2.2.2.1.2.2.1, [], [], F) [] (jxs_st O F)).isSome && ((jc_arr jxs [] (2, [(1, 1, 10)], (jxs_l 327 n c).foldr (fun e O => (jc_key e.1.1 e.1.2, e.2) :: O) jxa_g1.2.2.2.1.2.2.1, [], [], 1 :: F) [] (jxs_st O (1 :: F))).isSome && (jc_arr jxs [] (jxs_st O F) [] jxsA_o).isSome))
  | none => false
theorem jxsA_b1 : jxs_pr jxsA_b = true := by decide +kernel
theorem jxsA_lk {r : jc_R} {m n c : Nat} {h : J_H} (h0 : r 0 = 0) (hm : 0 < m) (k1 : ∃ y : Int32, jc_at h 29 1 = some (.int y) ∧ y.toInt = (n : Int)) (k2 : ∃ y : Int32, jc_at h 29 2 = some (.int y) ∧ y.toInt = (c : Int)) (hl : ∀ i ∈ jxs_S n c, jc_at h (31 + 25 * i) 0 = some (.ref 327)) : ∀ e ∈ jxs_l 327 n c, ∃ d v, ja_n2 jxs.1 e.1.1 = some d ∧ e.1.2 < d.1.2.2 ∧ jc_at h e.1.1 e.1.2 = some v ∧ jc_val r m e.2 v := by
  intro e he
  rcases List.mem_append.mp he with he | he
  · obtain ⟨i, hi, rfl⟩ := List.mem_map.mp he
    obtain ⟨d, d1, d2⟩ := jxs_lay_ok hi
    exact ⟨d, _, d1, d2, hl i hi, rfl⟩
  · rcases List.mem_cons.mp he with rfl | he
    · obtain ⟨d1, e1, e2⟩ := jxs_len_ok (a := 29) (i := 1) (by decide +kernel)
      obtain ⟨y, y1, y2⟩ := k1
      exact ⟨d1, _, e1, e2, y1, hm, by rw [y2, h0]; exact (Int.zero_add _).symm⟩
    · rcases List.mem_cons.mp he with rfl | he
      · obtain ⟨d1, e1, e2⟩ := jxs_len_ok (a := 29) (i := 2) (by decide +kernel)
        obtain ⟨y, y1, y2⟩ := k2
        exact ⟨d1, _, e1, e2, y1, hm, by rw [y2, h0]; exact (Int.zero_add _).symm⟩
      · cases he
theorem jxsA_off0 : jc_off jxa_g0.2.2.2.1.2.2.2.2.2 0 = false ∧ jc_off jxa_g0.2.2.2.1.2.2.2.2.2 1 = false := by decide +kernel
theorem jxsA_oo : ∀ g, g ≤ 7 → jc_off jxa_g0.2.2.2.1.2.2.2.2.2 g = false → jc_off jxsA_o.2.2.2.2.2 g = false := by
  intro g hg
  have : ∀ g : Fin 8, jc_off jxa_g0.2.2.2.1.2.2.2.2.2 g.val = false → jc_off jxsA_o.2.2.2.2.2 g.val = false := by decide +kernel
  exact this ⟨g, by omega⟩
theorem jxa_g0_ok : jc_Con jP jxa (jxs_X 30 327) jxa_g0 := by
  intro d hd r t h As hg hA
  obtain ⟨n, c, hn, hc, k1, k2, hl, tX, hf⟩ := id hg.2.2.2.2
  have hg' : jc_g jxa (jxs_X 30 327) r t jxa_g0.2.2.2.1 h := hg
  obtain ⟨O, F, O', F', hT, hT', hCon⟩ := jxs_rmb_ok (jxsA_rm1 hn hc)
  have hb0 := jxs_pr_ok jxsA_b1 hn hc
  unfold jxsA_b at hb0
  rw [hT] at hb0
  obtain ⟨b1, hb⟩ := Bool.and_eq_true_iff.mp hb0
  obtain ⟨b2, hb⟩ := Bool.and_eq_true_iff.mp hb
  have g1 := jc_g.env jxs_D1 hg' (X' := fun _ => True) (t' := fun f => match ja_n2 jxs.2.1 f with
    | some m => if m.1 = 0 ∨ m.1 = 1 then t f else tX f
    | none => tX f) (O' := F) (fun f m hm ho => by
      rw [hm]
      dsimp only
      by_cases h0 : m.1 = 0 ∨ m.1 = 1
      · rw [if_pos h0]
        refine hg'.fam rfl (jxs_f1 hm (by omega)) ?_
        rcases h0 with h0 | h0 <;> rw [h0]
        · exact jxsA_off0.1
        · exact jxsA_off0.2
      · rw [if_neg h0]
        refine hf f m hm ?_
        have hi := jc_inl_ok (ja_ch2_ok (p := fun _ (m : jc_Fa) => jc_inl m.1 jxs_all) jxs_tags hm)
        have := List.all_eq_true.mp b1 m.1 hi
        rw [ho, Bool.false_or] at this
        rcases Bool.or_eq_true_iff.mp this with z | z
        · exact absurd (Or.inl (Nat.eq_of_beq_eq_true z)) h0
        · rcases Bool.or_eq_true_iff.mp z with z | z
          · exact absurd (Or.inr (Nat.eq_of_beq_eq_true z)) h0
          · obtain ⟨i, i1, i2⟩ := List.any_eq_true.mp z
            exact ⟨i, i1, Nat.eq_of_beq_eq_true i2⟩) jxs_noP trivial
  have g2 := g1.adds jxs_ok (jxs_l 327 n c) (jxsA_lk hg.1.1 hg.1.2.1 k1 k2 hl)
  obtain ⟨r3, t3, g3⟩ := g2.to jxs_ok (T := jxs_st O F) b2
  refine (hCon d hd r3 t3 h As g3 (jxs_refs hA)).mono ?_
  rintro rv h' ⟨f1, o, o1, r4, t4, g4, an⟩
  obtain rfl := List.mem_singleton.mp o1
  have hn' : (n + 1) % 10 < 10 := Nat.mod_lt _ (by decide)
  have hc' : min (c + 1) 10 < 11 := by omega
  have hb' := jxs_pr_ok jxsA_b1 hn' hc'
  unfold jxsA_b at hb'
  rw [hT'] at hb'
  have b5 := (Bool.and_eq_true_iff.mp (Bool.and_eq_true_iff.mp (Bool.and_eq_true_iff.mp hb').2).2).2
  obtain ⟨r5, t5, g5⟩ := g4.to jxs_ok b5
  exact ⟨f1, _, List.mem_cons_self, r5, t5, jc_g.env jxs_D2 g5 (O' := jxa_g0.2.2.2.1.2.2.2.2.2) (fun f m hm ho => by
    obtain ⟨m1, m2⟩ := jxs_f2 hm
    refine g5.fam rfl m1 ?_
    exact jxsA_oo m.1 m2 ho) jxa_noP (jxsA_Xof hT' g4 hn' hc'), jxs_an an⟩
theorem jxa_g1_ok : jc_Con jP jxa (jxs_X 30 327) jxa_g1 := by
  intro d hd r t h As hg hA
  obtain ⟨n, c, hn, hc, k1, k2, hl, tX, hf⟩ := id hg.2.2.2.2
  have hg' : jc_g jxa (jxs_X 30 327) r t jxa_g1.2.2.2.1 h := hg
  have h0c : 0 < c := by
    obtain ⟨d1, e1, e2⟩ := jxs_len_ok (a := 29) (i := 2) (by decide +kernel)
    obtain ⟨v, v1, v2⟩ := jxs_atA (s := .inl (1, 0)) hg' (by decide +kernel)
    obtain ⟨y, y1, y2⟩ := k2
    rw [y1] at v1
    cases v1
    have hB := hg'.1.2.2 (1, 1, 10) (by decide)
    obtain ⟨-, y3⟩ := v2
    rw [y2] at y3
    dsimp only at hB y3
    omega
  have htk : jxs_tkb 1 jxsA_T n c = true := (Bool.or_eq_true_iff.mp (jxsA_tk1 hn hc)).resolve_left (fun z => by have := Nat.eq_of_beq_eq_true z; omega)
  obtain ⟨O, F, O', F', hT, hT', hCon⟩ := jxs_tkb_ok htk
  have hb0 := jxs_pr_ok jxsA_b1 hn hc
  unfold jxsA_b at hb0
  rw [hT] at hb0
  obtain ⟨b1, hb⟩ := Bool.and_eq_true_iff.mp hb0
  obtain ⟨-, hb⟩ := Bool.and_eq_true_iff.mp hb
  obtain ⟨b2, -⟩ := Bool.and_eq_true_iff.mp hb
  have g1 := jc_g.env jxs_D1 hg' (X' := fun _ => True) (t' := fun f => match ja_n2 jxs.2.1 f with
    | some m => if m.1 = 0 then t f else tX f
    | none => tX f) (O' := 1 :: F) (fun f m hm ho => by
      rw [hm]
      dsimp only
      by_cases h0 : m.1 = 0
      · rw [if_pos h0]
        refine hg'.fam rfl (jxs_f1 hm (by omega)) ?_
        rw [h0]
        decide +kernel
      · rw [if_neg h0]
        refine hf f m hm ?_
        have hi := jc_inl_ok (ja_ch2_ok (p := fun _ (m : jc_Fa) => jc_inl m.1 jxs_all) jxs_tags hm)
        have := List.all_eq_true.mp b1 m.1 hi
        obtain ⟨ho1, ho2⟩ := Bool.or_eq_false_iff.mp (show (Nat.beq m.1 1 || jc_off F m.1) = false from ho)
        rw [ho2, Bool.false_or, ho1, Bool.false_or] at this
        rcases Bool.or_eq_true_iff.mp this with z | z
        · exact absurd (Nat.eq_of_beq_eq_true z) h0
        · obtain ⟨i, i1, i2⟩ := List.any_eq_true.mp z
          exact ⟨i, i1, Nat.eq_of_beq_eq_true i2⟩) jxs_noP trivial
  have g2 := g1.adds jxs_ok (jxs_l 327 n c) (jxsA_lk hg.1.1 hg.1.2.1 k1 k2 hl)
  obtain ⟨r3, t3, g3⟩ := g2.to jxs_ok (T := jxs_st O (1 :: F)) b2
  refine (hCon d hd r3 t3 h As g3 (jxs_refs hA)).mono ?_
  rintro rv h' ⟨f1, o, o1, r4, t4, g4, an⟩
  obtain rfl := List.mem_singleton.mp o1
  have hn' : (n + 9) % 10 < 10 := Nat.mod_lt _ (by decide)
  have hc' : c - 1 < 11 := by omega
  have hb' := jxs_pr_ok jxsA_b1 hn' hc'
  unfold jxsA_b at hb'
  rw [hT'] at hb'
  have b5 := (Bool.and_eq_true_iff.mp (Bool.and_eq_true_iff.mp (Bool.and_eq_true_iff.mp hb').2).2).2
  obtain ⟨r5, t5, g5⟩ := g4.to jxs_ok b5
  exact ⟨f1, _, List.mem_cons_self, r5, t5, jc_g.env jxs_D2 g5 (O' := jxa_g0.2.2.2.1.2.2.2.2.2) (fun f m hm ho => by
    obtain ⟨m1, m2⟩ := jxs_f2 hm
    refine g5.fam rfl m1 ?_
    exact jxsA_oo m.1 m2 ho) jxa_noP (jxsA_Xof hT' g4 hn' hc'), jxs_an an⟩


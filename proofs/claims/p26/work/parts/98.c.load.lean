/-! load: of the class in both worlds, of the reference; written by wip/p3/gen_load.py -/
def jxe : jc_E := (jxa_D, jxa_F, jxa_P, jxa_G, [])
theorem jxe_ok : jc_Ok jxe := jxa_ok
theorem jxe_Xo : jc_Xo jxe (fun _ => True) := fun _ _ _ _ => trivial
theorem i_inWm {a i : Nat} : ∀ {W : jc_W}, jc_inW W a i = true → ∃ w ∈ W, w.1 = a ∧ w.2.1 ≤ i ∧ i < w.2.2
  | [], h => by cases h
  | w :: W, h => by
    rcases Bool.or_eq_true_iff.mp (show ((Nat.beq w.1 a && (Nat.ble w.2.1 i && Nat.ble (i + 1) w.2.2)) || jc_inW W a i) = true from h) with h | h
    · obtain ⟨h1, h⟩ := Bool.and_eq_true_iff.mp h
      obtain ⟨h2, h3⟩ := Bool.and_eq_true_iff.mp h
      exact ⟨w, List.mem_cons_self, Nat.eq_of_beq_eq_true h1, Nat.le_of_ble_eq_true h2, Nat.le_of_ble_eq_true h3⟩
    · obtain ⟨w', a1, a2⟩ := i_inWm h
      exact ⟨w', List.mem_cons_of_mem _ a1, a2⟩
/-- of the places that only some calls write, W writes the count and the layout told alone -/
noncomputable def i_prb (PR W : jc_W) : Bool := PR.all fun w => (List.range (w.2.2 - w.2.1)).all fun j => !jc_inW W w.1 (w.2.1 + j) || ((Nat.beq w.1 29 && Nat.beq (w.2.1 + j) 2) || (Nat.beq w.1 0 && Nat.beq (w.2.1 + j) 6))
theorem i_prb_ok {PR W : jc_W} (hb : i_prb PR W = true) {h h' : J_H} (hf : jc_fr W h h') (h1 : jc_at h' 29 2 = jc_at h 29 2) (h2 : jc_at h' 0 6 = jc_at h 0 6) : ∀ a i, jc_inW PR a i = true → jc_at h' a i = jc_at h a i := by
  intro a i hw
  obtain ⟨w, w1, rfl, w3, w4⟩ := i_inWm hw
  have hq := List.all_eq_true.mp (List.all_eq_true.mp hb w w1) (i - w.2.1) (List.mem_range.mpr (by omega))
  rw [show w.2.1 + (i - w.2.1) = i by omega] at hq
  rcases Bool.or_eq_true_iff.mp hq with z | z
  · exact hf w.1 i (by simpa using z)
  · rcases Bool.or_eq_true_iff.mp z with z | z
    · obtain ⟨z1, z2⟩ := Bool.and_eq_true_iff.mp z
      rw [Nat.eq_of_beq_eq_true z1, Nat.eq_of_beq_eq_true z2]
      exact h1
    · obtain ⟨z1, z2⟩ := Bool.and_eq_true_iff.mp z
      rw [Nat.eq_of_beq_eq_true z1, Nat.eq_of_beq_eq_true z2]
      exact h2
theorem jxs_X0 {tg x : Nat} {h : J_H} (h1 : ∃ y : Int32, jc_at h 29 1 = some (.int y) ∧ 0 ≤ y.toInt ∧ y.toInt ≤ 9) (h2 : ∃ y : Int32, jc_at h 29 2 = some (.int y) ∧ y.toInt = 0) : jxs_X tg x h := by
  obtain ⟨y, y1, y2, y3⟩ := h1
  obtain ⟨z, z1, z2⟩ := h2
  obtain ⟨n, hn⟩ := Int.eq_ofNat_of_zero_le y2
  exact ⟨n, 0, by omega, by decide, ⟨y, y1, hn⟩, ⟨z, z1, z2⟩, fun i hi => (nomatch hi), fun _ => [], fun f m _ ⟨i, hi, _⟩ => (nomatch hi)⟩
noncomputable def i_len (a : Nat) : Nat := match ja_n2 jxe.1 a with
  | some d => d.1.2.2
  | none => 0
theorem i_len_ok {a i : Nat} (h : Nat.ble (i + 1) (i_len a) = true) : ∃ d, ja_n2 jxe.1 a = some d ∧ i < d.1.2.2 := by
  have h := Nat.le_of_ble_eq_true h
  unfold i_len at h
  split at h
  · rename_i d hd
    exact ⟨d, hd, h⟩
  · exact absurd h (Nat.not_succ_le_zero _)
theorem i_atO {X : J_H → Prop} {r : jc_R} {t : jc_T} {A : jc_A} {h : J_H} (a i : Nat) {s : jc_v} (hl : Nat.ble (i + 1) (i_len a) = true) (hg : jc_g jxe X r t A h) (hs : jc_lk A.2.2.1 (jc_key a i) = some s) : ∃ v, jc_at h a i = some v ∧ jc_val r A.1 s v := by
  obtain ⟨d, d1, d2⟩ := i_len_ok hl
  exact hg.atO d1 d2 hs
theorem i_t29 : (match ja_n2 jxe.1 29 with
  | some d => (match jc_sg d.2 1 with
    | some T => decide (T.1 = some (.inl (0, 9)))
    | none => false)
  | none => false) = true := by decide +kernel
theorem i_at29 {X : J_H → Prop} {r : jc_R} {t : jc_T} {A : jc_A} {h : J_H} (hg : jc_g jxe X r t A h) (hs : jc_lk A.2.2.1 (jc_key 29 1) = none) : ∃ y : Int32, jc_at h 29 1 = some (.int y) ∧ 0 ≤ y.toInt ∧ y.toInt ≤ 9 := by
  obtain ⟨d, d1, d2⟩ := i_len_ok (a := 29) (i := 1) (by decide +kernel)
  have h1 := i_t29
  rw [d1] at h1
  dsimp only at h1
  split at h1
  · rename_i T hT
    obtain ⟨v, v1, v2⟩ := hg.atT d1 d2 hs hT
    rw [of_decide_eq_true h1] at v2
    obtain ⟨x, rfl, x1, x2⟩ := jm_tvi v2
    exact ⟨x, v1, x1, x2⟩
  · cases h1
/-- the length that load leaves -/
def i_ln (k : Nat) (n : Int32) : Nat := if 0 ≤ n.toInt ∧ n.toInt ≤ ((20 * k : Nat) : Int) then 0 else 20 * k


-- ---- world A
def ldA_W : jc_W := [(0, 8, 9), (0, 6, 8), (1, 3, 4), (1, 4, 5), (1, 5, 6), (1, 6, 7), (1, 7, 8), (3, 2, 3), (3, 3, 4), (3, 1, 2), (1, 2, 3), (1, 1, 2), (343, 0, 0), (343, 0, 1), (343, 5, 6), (343, 13, 14), (344, 0, 7), (345, 0, 7), (346, 0, 7), (347, 0, 21), (348, 0, 5), (349, 0, 5), (350, 0, 5), (351, 0, 5), (352, 0, 5), (353, 0, 5), (354, 0, 5), (355, 0, 5), (356, 0, 35), (357, 0, 30), (358, 0, 5), (4, 1, 4), (5, 0, 5), (6, 0, 5), (7, 0, 5), (8, 0, 5), (9, 0, 5), (10, 0, 5), (11, 0, 5), (12, 0, 6), (13, 0, 6), (14, 0, 35), (15, 0, 35), (16, 0, 12), (4, 15, 16), (17, 1, 2), (18, 0, 5), (19, 0, 5), (21, 0, 25), (22, 0, 25), (23, 0, 25), (24, 0, 7), (25, 0, 5), (26, 0, 6), (27, 0, 30), (28, 0, 260), (20, 8, 9), (4, 0, 1), (29, 2, 3)]
def ldA_c (c : Int) : jc_Cn := (114, 6, [.inr (some (some 0)), .inl (1, .ofNat 0)], (2, [(1, .negSucc 2147483647, .ofNat 2147483647)], [(237570, .inl (0, c)), (6, .inr (some (some 327))), (7, .inr (some (some 343))), (32768, .inr (some (some 327)))], [], [], [2, 3, 4, 5, 6, 7]), ldA_W, [((1, [], [(6, .inr (some (some 327))), (7, .inr (some (some 343))), (32768, .inr (some (some 327))), (237570, .inl (0, c))], [], [], [2, 3, 4, 5, 6, 7]), some (.inl (0, .negSucc 0))), ((1, [], [(6, .inr (some (some 327))), (7, .inr (some (some 343))), (8193, .inl (0, .ofNat 0)), (32768, .inr (some (some 327))), (237570, .inl (0, c))], [], [], [2, 3, 4, 5, 6, 7]), some (.inl (0, .negSucc 0))), ((2, [(1, .ofNat 0, .ofNat 5)], [(6, .inr (some (some 343))), (7, .inr (some (some 327))), (8193, .inl (0, .ofNat 0)), (32768, .inr (some (some 343))), (237570, .inl (0, .ofNat 0))], [], [], [1, 3, 4, 5, 6, 7]), some (.inl (1, .ofNat 0)))])
def ldA_i (q : Int) : jc_Cn := (114, 6, [.inr (some (some 0)), .inl (1, .ofNat 0)], (2, [(1, .ofNat 0, q)], [(8193, .inl (0, q)), (6, .inr (some (some 327))), (7, .inr (some (some 343))), (32768, .inr (some (some 327)))], [], [], [2, 3, 4, 5, 6, 7]), ldA_W, [((1, [], [(6, .inr (some (some 327))), (7, .inr (some (some 343))), (8193, .inl (0, .ofNat 0)), (32768, .inr (some (some 327)))], [], [], [2, 3, 4, 5, 6, 7]), some (.inl (0, .negSucc 0))), ((2, [(1, .ofNat 0, .ofNat 5)], [(6, .inr (some (some 343))), (7, .inr (some (some 327))), (8193, .inl (0, .ofNat 0)), (32768, .inr (some (some 343))), (237570, .inl (0, .ofNat 0))], [], [], [1, 3, 4, 5, 6, 7]), some (.inl (1, .ofNat 0)))])
def ldA_n (q : Int) : jc_Cn := (114, 1, [.inr (some (some 0)), .inl (1, .ofNat 0)], (2, [(1, .negSucc 2147483647, .negSucc 0)], [(8193, .inl (0, q)), (6, .inr (some (some 327))), (7, .inr (some (some 343))), (32768, .inr (some (some 327)))], [], [], [2, 3, 4, 5, 6, 7]), ldA_W, [((1, [], [(6, .inr (some (some 327))), (7, .inr (some (some 343))), (8193, .inl (0, q)), (32768, .inr (some (some 327)))], [], [], [2, 3, 4, 5, 6, 7]), some (.inl (0, .negSucc 0)))])
def ldA_b (q : Int) : jc_Cn := (114, 1, [.inr (some (some 0)), .inl (1, .ofNat 0)], (2, [(1, q + 1, .ofNat 2147483647)], [(8193, .inl (0, q)), (6, .inr (some (some 327))), (7, .inr (some (some 343))), (32768, .inr (some (some 327)))], [], [], [2, 3, 4, 5, 6, 7]), ldA_W, [((1, [], [(6, .inr (some (some 327))), (7, .inr (some (some 343))), (8193, .inl (0, q)), (32768, .inr (some (some 327)))], [], [], [2, 3, 4, 5, 6, 7]), some (.inl (0, .negSucc 0)))])
set_option maxRecDepth 1000000 in
theorem ldA_c1 : (List.range 11).all (fun c => jc_mth (jxe, [], jT, [jxa_c221, jxa_c269, jxa_c271], jxa_SP, [], 100000) 100000 (ldA_c c)) = true := by decide +kernel
set_option maxRecDepth 1000000 in
theorem ldA_i1 : (List.range 36).all (fun k => jc_mth (jxe, [], jT, [jxa_c221, jxa_c269, jxa_c271], jxa_SP, [], 100000) 100000 (ldA_i ((20 * k : Nat) : Int))) = true := by decide +kernel
set_option maxRecDepth 1000000 in
theorem ldA_n1 : (List.range 36).all (fun k => jc_mth (jxe, [], jT, [], jxa_SP, [], 100000) 100000 (ldA_n ((20 * k : Nat) : Int))) = true := by decide +kernel
set_option maxRecDepth 1000000 in
theorem ldA_b1 : (List.range 36).all (fun k => jc_mth (jxe, [], jT, [], jxa_SP, [], 100000) 100000 (ldA_b ((20 * k : Nat) : Int))) = true := by decide +kernel
theorem ldA_us : ∀ c ∈ [jxa_c221, jxa_c269, jxa_c271], jc_Con jP jxe (fun _ => True) c := (jc_c1 (show jc_Con jP jxe (fun _ => True) jxa_c221 from (jxa_c221_ok (X := fun _ => True) (fun _ _ _ _ => trivial))) (jc_c1 (show jc_Con jP jxe (fun _ => True) jxa_c269 from (jxa_c269_ok (X := fun _ => True) (fun _ _ _ _ => trivial))) (jc_c1 (show jc_Con jP jxe (fun _ => True) jxa_c271 from (jxa_c271_ok (X := fun _ => True) (fun _ _ _ _ => trivial))) jc_c0)))
noncomputable def ldA_q (c : Int) : Bool := jc_all (fun (o : jc_A × Option jc_v) => (Nat.beq o.1.1 1 && (match jc_lk o.1.2.2.1 237570, jc_lk o.1.2.2.1 6 with
  | some (.inl (0, c')), some (.inr (some (some b))) => decide (c' = c) && (Nat.beq b 327 && (jc_arr jxe [] o.1 [] (i_st iOA iFA)).isSome)
  | _, _ => false)) || (Nat.beq o.1.1 2 && (match jc_lk o.1.2.2.1 237570, jc_lk o.1.2.2.1 (jc_key 29 1) with
  | some (.inl (0, .ofNat 0)), none => (jc_arr jxe [] o.1 [] (i_st iOB iFB)).isSome
  | _, _ => false))) (ldA_c c).2.2.2.2.2
theorem ldA_q1 : (List.range 11).all (fun c => ldA_q (c : Int)) = true := by decide +kernel
noncomputable def ldA_r (q : Int) (z : Int) (outs : List (jc_A × Option jc_v)) : Bool := jc_all (fun (o : jc_A × Option jc_v) => match jc_lk o.1.2.2.1 8193 with
  | some (.inl (0, c')) => decide (c' = z)
  | _ => false) outs
theorem ldA_r1 : (List.range 36).all (fun k => ldA_r 0 0 (ldA_i ((20 * k : Nat) : Int)).2.2.2.2.2 && (ldA_r 0 ((20 * k : Nat) : Int) (ldA_n ((20 * k : Nat) : Int)).2.2.2.2.2 && ldA_r 0 ((20 * k : Nat) : Int) (ldA_b ((20 * k : Nat) : Int)).2.2.2.2.2)) = true := by decide +kernel
theorem ldA_an : ∀ c : Int, ∀ o ∈ (ldA_c c).2.2.2.2.2, ∃ q, o.2 = some (.inl q) := by
  intro c o ho
  rcases List.mem_cons.mp ho with rfl | ho
  · exact ⟨_, rfl⟩
  · rcases List.mem_cons.mp ho with rfl | ho
    · exact ⟨_, rfl⟩
    · rcases List.mem_cons.mp ho with rfl | ho
      · exact ⟨_, rfl⟩
      · cases ho
theorem ldA_pr : i_prb jxa.2.2.2.2 ldA_W = true := by decide +kernel
theorem ldA_ln {k : Nat} {r : jc_R} {t : jc_T} {h : J_H} {z : Int} {outs : List (jc_A × Option jc_v)} {o : jc_A × Option jc_v} (hr : ldA_r 0 z outs = true) (ho : o ∈ outs) (hg : jc_g jxe (fun _ => True) r t o.1 h) (hz : z = (k : Int)) (hk : k < 2 ^ 31) : jc_at h 1 1 = some (.int (nI k)) := by
  have h1 := jc_all_ok hr o ho
  split at h1
  · rename_i c' hl
    obtain ⟨v, v1, v2⟩ := i_atO 1 1 (by decide +kernel) hg hl
    obtain ⟨y, rfl, -, y2⟩ := v2.int
    rw [v1, nI_eq9 (x := y) (a := k) (by rw [y2, hg.1.1, of_decide_eq_true h1, hz]; exact Int.zero_add _) hk]
  · cases h1
set_option maxRecDepth 100000 in
theorem pX_loadA {n : Int32} {k : Nat} (hk : k < 36) {h : J_H} (hI : IA h) (hL : jc_at h 1 1 = some (.int (nI (20 * k)))) : j_W jP 15 114 0 (lv_args 0 [.ref 0, .int n]) [] h (fun rv h' => ((∃ v, rv = some (.int v)) ∧ IC h' ∧ i_fx h h') ∧ jc_at h' 1 1 = some (.int (nI (i_ln k n)))) := by
  obtain ⟨r, t, hg⟩ := hI
  obtain ⟨n0, c, hn0, hc, k1, ⟨y, y1, y2⟩, -⟩ := id hg.2.2.2.2
  have g1 : jc_g jxe (fun _ => True) r t (i_st iOA iFA) h := ⟨hg.1, hg.2.1, hg.2.2.1, hg.2.2.2.1, trivial⟩
  have ht06 : jc_at h 0 6 = some (.ref 327) := by
    obtain ⟨v, v1, v2⟩ := i_atO 0 6 (s := .inr (some (some 327))) (by decide +kernel) g1 (by decide +kernel)
    rw [v1, v2.ref]
  obtain ⟨d29, e1, e2⟩ := i_len_ok (a := 29) (i := 2) (by decide +kernel)
  obtain ⟨d1, e3, e4⟩ := i_len_ok (a := 1) (i := 1) (by decide +kernel)
  have w1 : j_W jP 15 114 0 (lv_args 0 [.ref 0, .int n]) [] h (fun rv h' => (∃ v, rv = some (.int v)) ∧ IC h' ∧ ∀ a i, 359 ≤ a → jc_at h' a i = jc_at h a i) := by
    have g2 := g1.args (r' := jc_up i_r0 1 n.toInt) rfl (i_B0.snoc (b := (.negSucc 2147483647, .ofNat 2147483647)) (i_full n))
    have g3 := g2.addO (s := .inl (0, (c : Int))) jxe_ok e1 e2 y1 ⟨show 0 < 2 by decide, by rw [y2]; exact (Int.zero_add _).symm⟩
    have hcon : jc_Con jP jxe (fun _ => True) (ldA_c c) := jc_mth_ok (Z := (jxe, [], jT, [jxa_c221, jxa_c269, jxa_c271], jxa_SP, [], 100000)) (f := 100000) jxe_ok jxe_Xo jT_ok ldA_us (List.all_eq_true.mp ldA_c1 c (List.mem_range.mpr hc))
    refine (hcon 15 (Nat.le_of_ble_eq_true rfl) _ t h [.ref 0, .int n] g3 ⟨rfl, ⟨show 1 < 2 by decide, (Int.add_zero _).symm⟩, trivial⟩).mono ?_
    rintro rv h' ⟨f1, o, o1, r4, t4, g4, an⟩
    have f1 : jc_fr ldA_W h h' := f1
    have hq := jc_all_ok (List.all_eq_true.mp ldA_q1 c (List.mem_range.mpr hc)) o o1
    refine ⟨?_, ?_, i_Wx_ok (by decide +kernel) f1⟩
    · obtain ⟨q, hq⟩ := ldA_an c o o1
      rw [hq] at an
      cases rv with
      | none => exact an.elim
      | some v =>
        obtain ⟨x, rfl, -⟩ := jc_val.int an
        exact ⟨x, rfl⟩
    · rcases Bool.or_eq_true_iff.mp hq with z | z
      · obtain ⟨-, z⟩ := Bool.and_eq_true_iff.mp z
        split at z
        · rename_i c' b l1 l2
          obtain ⟨z1, z⟩ := Bool.and_eq_true_iff.mp z
          obtain ⟨z2, z3⟩ := Bool.and_eq_true_iff.mp z
          obtain ⟨v, v1, v2⟩ := i_atO 29 2 (by decide +kernel) g4 l1
          obtain ⟨u, rfl, -, u2⟩ := v2.int
          obtain ⟨v', v3, v4⟩ := i_atO 0 6 (by decide +kernel) g4 l2
          have hu : u = y := Int32.toInt_inj.mp (by rw [u2, g4.1.1, of_decide_eq_true z1, y2]; exact Int.zero_add _)
          obtain ⟨r5, t5, g5⟩ := g4.to jxe_ok z3
          refine Or.inl ⟨r5, t5, g5.1, g5.2.1, g5.2.2.1, g5.2.2.2.1, jxsA_Xo h h' (i_prb_ok ldA_pr f1 (by rw [v1, y1, hu]) (by rw [v3, v4.ref, ht06, Nat.eq_of_beq_eq_true z2])) hg.2.2.2.2⟩
        · cases z
      · obtain ⟨-, z⟩ := Bool.and_eq_true_iff.mp z
        split at z
        · rename_i l1 l2
          obtain ⟨v, v1, v2⟩ := i_atO 29 2 (by decide +kernel) g4 l1
          obtain ⟨u, rfl, -, u2⟩ := v2.int
          obtain ⟨r5, t5, g5⟩ := g4.to jxe_ok z
          exact Or.inr ⟨r5, t5, g5.1, g5.2.1, g5.2.2.1, g5.2.2.2.1, jxs_X0 (i_at29 g4 l2) ⟨u, v1, by rw [u2, g4.1.1]; rfl⟩⟩
        · cases z
  have hkk : (nI (20 * k)).toInt = ((20 * k : Nat) : Int) := nI_toInt (by omega)
  obtain ⟨s1, s2⟩ := Bool.and_eq_true_iff.mp (List.all_eq_true.mp ldA_r1 k (List.mem_range.mpr hk))
  obtain ⟨s2, s3⟩ := Bool.and_eq_true_iff.mp s2
  have w2 : j_W jP 15 114 0 (lv_args 0 [.ref 0, .int n]) [] h (fun rv h' => jc_at h' 1 1 = some (.int (nI (i_ln k n)))) := by
    have hval : ∀ m : Nat, 0 < m → ∀ r : jc_R, r 0 = 0 → jc_val r m (.inl (0, ((20 * k : Nat) : Int))) (.int (nI (20 * k))) := fun m hm r hr => ⟨hm, by rw [hkk, hr]; exact (Int.zero_add _).symm⟩
    have nb := i_full n
    rcases Int.lt_or_le n.toInt 0 with z | z
    · have g2 := g1.args (r' := jc_up i_r0 1 n.toInt) rfl (i_B0.snoc (b := (.negSucc 2147483647, .negSucc 0)) ⟨nb.1, by show n.toInt ≤ -1; omega⟩)
      have g3 := g2.addO jxe_ok e3 e4 hL (hval 2 (by decide) _ rfl)
      have hcon : jc_Con jP jxe (fun _ => True) (ldA_n ((20 * k : Nat) : Int)) := jc_mth_ok (Z := (jxe, [], jT, [], jxa_SP, [], 100000)) (f := 100000) jxe_ok jxe_Xo jT_ok jc_c0 (List.all_eq_true.mp ldA_n1 k (List.mem_range.mpr hk))
      refine (hcon 15 (Nat.le_of_ble_eq_true rfl) _ t h [.ref 0, .int n] g3 ⟨rfl, ⟨show 1 < 2 by decide, (Int.add_zero _).symm⟩, trivial⟩).mono ?_
      rintro rv h' ⟨f1, o, o1, r4, t4, g4, an⟩
      rw [show i_ln k n = 20 * k from if_neg (by omega)]
      exact ldA_ln s2 o1 g4 rfl (by omega)
    · rcases Int.lt_or_le ((20 * k : Nat) : Int) n.toInt with z2 | z2
      · have g2 := g1.args (r' := jc_up i_r0 1 n.toInt) rfl (i_B0.snoc (b := (((20 * k : Nat) : Int) + 1, .ofNat 2147483647)) ⟨by show ((20 * k : Nat) : Int) + 1 ≤ n.toInt; omega, nb.2⟩)
        have g3 := g2.addO jxe_ok e3 e4 hL (hval 2 (by decide) _ rfl)
        have hcon : jc_Con jP jxe (fun _ => True) (ldA_b ((20 * k : Nat) : Int)) := jc_mth_ok (Z := (jxe, [], jT, [], jxa_SP, [], 100000)) (f := 100000) jxe_ok jxe_Xo jT_ok jc_c0 (List.all_eq_true.mp ldA_b1 k (List.mem_range.mpr hk))
        refine (hcon 15 (Nat.le_of_ble_eq_true rfl) _ t h [.ref 0, .int n] g3 ⟨rfl, ⟨show 1 < 2 by decide, (Int.add_zero _).symm⟩, trivial⟩).mono ?_
        rintro rv h' ⟨f1, o, o1, r4, t4, g4, an⟩
        rw [show i_ln k n = 20 * k from if_neg (by omega)]
        exact ldA_ln s3 o1 g4 rfl (by omega)
      · have g2 := g1.args (r' := jc_up i_r0 1 n.toInt) rfl (i_B0.snoc (b := (.ofNat 0, ((20 * k : Nat) : Int))) ⟨z, z2⟩)
        have g3 := g2.addO jxe_ok e3 e4 hL (hval 2 (by decide) _ rfl)
        have hcon : jc_Con jP jxe (fun _ => True) (ldA_i ((20 * k : Nat) : Int)) := jc_mth_ok (Z := (jxe, [], jT, [jxa_c221, jxa_c269, jxa_c271], jxa_SP, [], 100000)) (f := 100000) jxe_ok jxe_Xo jT_ok ldA_us (List.all_eq_true.mp ldA_i1 k (List.mem_range.mpr hk))
        refine (hcon 15 (Nat.le_of_ble_eq_true rfl) _ t h [.ref 0, .int n] g3 ⟨rfl, ⟨show 1 < 2 by decide, (Int.add_zero _).symm⟩, trivial⟩).mono ?_
        rintro rv h' ⟨f1, o, o1, r4, t4, g4, an⟩
        rw [show i_ln k n = 0 from if_pos ⟨z, z2⟩]
        exact ldA_ln s1 o1 g4 rfl (by decide)
  refine ((w1.and w2).same jS_ok (by decide +kernel)).mono ?_
  rintro rv h' ⟨⟨⟨a1, a2, a3⟩, a4⟩, a5⟩
  exact ⟨⟨a1, a2, a5, a3⟩, a4⟩


-- ---- world B
def ldB_W : jc_W := [(0, 8, 9), (0, 6, 8), (1, 3, 4), (1, 4, 5), (1, 5, 6), (1, 6, 7), (1, 7, 8), (3, 2, 3), (3, 3, 4), (3, 1, 2), (1, 2, 3), (1, 1, 2), (327, 0, 0), (327, 0, 1), (327, 5, 6), (327, 13, 14), (328, 0, 7), (329, 0, 7), (330, 0, 7), (331, 0, 21), (332, 0, 5), (333, 0, 5), (334, 0, 5), (335, 0, 5), (336, 0, 5), (337, 0, 5), (338, 0, 5), (339, 0, 5), (340, 0, 35), (341, 0, 30), (342, 0, 5), (4, 1, 4), (5, 0, 5), (6, 0, 5), (7, 0, 5), (8, 0, 5), (9, 0, 5), (10, 0, 5), (11, 0, 5), (12, 0, 6), (13, 0, 6), (14, 0, 35), (15, 0, 35), (16, 0, 12), (4, 15, 16), (17, 1, 2), (18, 0, 5), (19, 0, 5), (21, 0, 25), (22, 0, 25), (23, 0, 25), (24, 0, 7), (25, 0, 5), (26, 0, 6), (27, 0, 30), (28, 0, 260), (20, 8, 9), (4, 0, 1), (29, 2, 3)]
def ldB_c (c : Int) : jc_Cn := (114, 6, [.inr (some (some 0)), .inl (1, .ofNat 0)], (2, [(1, .negSucc 2147483647, .ofNat 2147483647)], [(237570, .inl (0, c)), (6, .inr (some (some 343))), (7, .inr (some (some 327))), (32768, .inr (some (some 343)))], [], [], [1, 3, 4, 5, 6, 7]), ldB_W, [((1, [], [(6, .inr (some (some 343))), (7, .inr (some (some 327))), (32768, .inr (some (some 343))), (237570, .inl (0, c))], [], [], [1, 3, 4, 5, 6, 7]), some (.inl (0, .negSucc 0))), ((1, [], [(6, .inr (some (some 343))), (7, .inr (some (some 327))), (8193, .inl (0, .ofNat 0)), (32768, .inr (some (some 343))), (237570, .inl (0, c))], [], [], [1, 3, 4, 5, 6, 7]), some (.inl (0, .negSucc 0))), ((2, [(1, .ofNat 0, .ofNat 5)], [(6, .inr (some (some 327))), (7, .inr (some (some 343))), (8193, .inl (0, .ofNat 0)), (32768, .inr (some (some 327))), (237570, .inl (0, .ofNat 0))], [], [], [2, 3, 4, 5, 6, 7]), some (.inl (1, .ofNat 0)))])
def ldB_i (q : Int) : jc_Cn := (114, 6, [.inr (some (some 0)), .inl (1, .ofNat 0)], (2, [(1, .ofNat 0, q)], [(8193, .inl (0, q)), (6, .inr (some (some 343))), (7, .inr (some (some 327))), (32768, .inr (some (some 343)))], [], [], [1, 3, 4, 5, 6, 7]), ldB_W, [((1, [], [(6, .inr (some (some 343))), (7, .inr (some (some 327))), (8193, .inl (0, .ofNat 0)), (32768, .inr (some (some 343)))], [], [], [1, 3, 4, 5, 6, 7]), some (.inl (0, .negSucc 0))), ((2, [(1, .ofNat 0, .ofNat 5)], [(6, .inr (some (some 327))), (7, .inr (some (some 343))), (8193, .inl (0, .ofNat 0)), (32768, .inr (some (some 327))), (237570, .inl (0, .ofNat 0))], [], [], [2, 3, 4, 5, 6, 7]), some (.inl (1, .ofNat 0)))])
def ldB_n (q : Int) : jc_Cn := (114, 1, [.inr (some (some 0)), .inl (1, .ofNat 0)], (2, [(1, .negSucc 2147483647, .negSucc 0)], [(8193, .inl (0, q)), (6, .inr (some (some 343))), (7, .inr (some (some 327))), (32768, .inr (some (some 343)))], [], [], [1, 3, 4, 5, 6, 7]), ldB_W, [((1, [], [(6, .inr (some (some 343))), (7, .inr (some (some 327))), (8193, .inl (0, q)), (32768, .inr (some (some 343)))], [], [], [1, 3, 4, 5, 6, 7]), some (.inl (0, .negSucc 0)))])
def ldB_b (q : Int) : jc_Cn := (114, 1, [.inr (some (some 0)), .inl (1, .ofNat 0)], (2, [(1, q + 1, .ofNat 2147483647)], [(8193, .inl (0, q)), (6, .inr (some (some 343))), (7, .inr (some (some 327))), (32768, .inr (some (some 343)))], [], [], [1, 3, 4, 5, 6, 7]), ldB_W, [((1, [], [(6, .inr (some (some 343))), (7, .inr (some (some 327))), (8193, .inl (0, q)), (32768, .inr (some (some 343)))], [], [], [1, 3, 4, 5, 6, 7]), some (.inl (0, .negSucc 0)))])
set_option maxRecDepth 1000000 in
theorem ldB_c1 : (List.range 11).all (fun c => jc_mth (jxe, [], jT, [jxb_c221, jxb_c269, jxb_c271], jxb_SP, [], 100000) 100000 (ldB_c c)) = true := by decide +kernel
set_option maxRecDepth 1000000 in
theorem ldB_i1 : (List.range 36).all (fun k => jc_mth (jxe, [], jT, [jxb_c221, jxb_c269, jxb_c271], jxb_SP, [], 100000) 100000 (ldB_i ((20 * k : Nat) : Int))) = true := by decide +kernel
set_option maxRecDepth 1000000 in
theorem ldB_n1 : (List.range 36).all (fun k => jc_mth (jxe, [], jT, [], jxb_SP, [], 100000) 100000 (ldB_n ((20 * k : Nat) : Int))) = true := by decide +kernel
set_option maxRecDepth 1000000 in
theorem ldB_b1 : (List.range 36).all (fun k => jc_mth (jxe, [], jT, [], jxb_SP, [], 100000) 100000 (ldB_b ((20 * k : Nat) : Int))) = true := by decide +kernel
theorem ldB_us : ∀ c ∈ [jxb_c221, jxb_c269, jxb_c271], jc_Con jP jxe (fun _ => True) c := (jc_c1 (show jc_Con jP jxe (fun _ => True) jxb_c221 from (jxb_c221_ok (X := fun _ => True) (fun _ _ _ _ => trivial))) (jc_c1 (show jc_Con jP jxe (fun _ => True) jxb_c269 from (jxb_c269_ok (X := fun _ => True) (fun _ _ _ _ => trivial))) (jc_c1 (show jc_Con jP jxe (fun _ => True) jxb_c271 from (jxb_c271_ok (X := fun _ => True) (fun _ _ _ _ => trivial))) jc_c0)))
noncomputable def ldB_q (c : Int) : Bool := jc_all (fun (o : jc_A × Option jc_v) => (Nat.beq o.1.1 1 && (match jc_lk o.1.2.2.1 237570, jc_lk o.1.2.2.1 6 with
  | some (.inl (0, c')), some (.inr (some (some b))) => decide (c' = c) && (Nat.beq b 343 && (jc_arr jxe [] o.1 [] (i_st iOB iFB)).isSome)
  | _, _ => false)) || (Nat.beq o.1.1 2 && (match jc_lk o.1.2.2.1 237570, jc_lk o.1.2.2.1 (jc_key 29 1) with
  | some (.inl (0, .ofNat 0)), none => (jc_arr jxe [] o.1 [] (i_st iOA iFA)).isSome
  | _, _ => false))) (ldB_c c).2.2.2.2.2
theorem ldB_q1 : (List.range 11).all (fun c => ldB_q (c : Int)) = true := by decide +kernel
noncomputable def ldB_r (q : Int) (z : Int) (outs : List (jc_A × Option jc_v)) : Bool := jc_all (fun (o : jc_A × Option jc_v) => match jc_lk o.1.2.2.1 8193 with
  | some (.inl (0, c')) => decide (c' = z)
  | _ => false) outs
theorem ldB_r1 : (List.range 36).all (fun k => ldB_r 0 0 (ldB_i ((20 * k : Nat) : Int)).2.2.2.2.2 && (ldB_r 0 ((20 * k : Nat) : Int) (ldB_n ((20 * k : Nat) : Int)).2.2.2.2.2 && ldB_r 0 ((20 * k : Nat) : Int) (ldB_b ((20 * k : Nat) : Int)).2.2.2.2.2)) = true := by decide +kernel
theorem ldB_an : ∀ c : Int, ∀ o ∈ (ldB_c c).2.2.2.2.2, ∃ q, o.2 = some (.inl q) := by
  intro c o ho
  rcases List.mem_cons.mp ho with rfl | ho
  · exact ⟨_, rfl⟩
  · rcases List.mem_cons.mp ho with rfl | ho
    · exact ⟨_, rfl⟩
    · rcases List.mem_cons.mp ho with rfl | ho
      · exact ⟨_, rfl⟩
      · cases ho
theorem ldB_pr : i_prb jxb.2.2.2.2 ldB_W = true := by decide +kernel
theorem ldB_ln {k : Nat} {r : jc_R} {t : jc_T} {h : J_H} {z : Int} {outs : List (jc_A × Option jc_v)} {o : jc_A × Option jc_v} (hr : ldB_r 0 z outs = true) (ho : o ∈ outs) (hg : jc_g jxe (fun _ => True) r t o.1 h) (hz : z = (k : Int)) (hk : k < 2 ^ 31) : jc_at h 1 1 = some (.int (nI k)) := by
  have h1 := jc_all_ok hr o ho
  split at h1
  · rename_i c' hl
    obtain ⟨v, v1, v2⟩ := i_atO 1 1 (by decide +kernel) hg hl
    obtain ⟨y, rfl, -, y2⟩ := v2.int
    rw [v1, nI_eq9 (x := y) (a := k) (by rw [y2, hg.1.1, of_decide_eq_true h1, hz]; exact Int.zero_add _) hk]
  · cases h1
set_option maxRecDepth 100000 in
theorem pX_loadB {n : Int32} {k : Nat} (hk : k < 36) {h : J_H} (hI : IB h) (hL : jc_at h 1 1 = some (.int (nI (20 * k)))) : j_W jP 15 114 0 (lv_args 0 [.ref 0, .int n]) [] h (fun rv h' => ((∃ v, rv = some (.int v)) ∧ IC h' ∧ i_fx h h') ∧ jc_at h' 1 1 = some (.int (nI (i_ln k n)))) := by
  obtain ⟨r, t, hg⟩ := hI
  obtain ⟨n0, c, hn0, hc, k1, ⟨y, y1, y2⟩, -⟩ := id hg.2.2.2.2
  have g1 : jc_g jxe (fun _ => True) r t (i_st iOB iFB) h := ⟨hg.1, hg.2.1, hg.2.2.1, hg.2.2.2.1, trivial⟩
  have ht06 : jc_at h 0 6 = some (.ref 343) := by
    obtain ⟨v, v1, v2⟩ := i_atO 0 6 (s := .inr (some (some 343))) (by decide +kernel) g1 (by decide +kernel)
    rw [v1, v2.ref]
  obtain ⟨d29, e1, e2⟩ := i_len_ok (a := 29) (i := 2) (by decide +kernel)
  obtain ⟨d1, e3, e4⟩ := i_len_ok (a := 1) (i := 1) (by decide +kernel)
  have w1 : j_W jP 15 114 0 (lv_args 0 [.ref 0, .int n]) [] h (fun rv h' => (∃ v, rv = some (.int v)) ∧ IC h' ∧ ∀ a i, 359 ≤ a → jc_at h' a i = jc_at h a i) := by
    have g2 := g1.args (r' := jc_up i_r0 1 n.toInt) rfl (i_B0.snoc (b := (.negSucc 2147483647, .ofNat 2147483647)) (i_full n))
    have g3 := g2.addO (s := .inl (0, (c : Int))) jxe_ok e1 e2 y1 ⟨show 0 < 2 by decide, by rw [y2]; exact (Int.zero_add _).symm⟩
    have hcon : jc_Con jP jxe (fun _ => True) (ldB_c c) := jc_mth_ok (Z := (jxe, [], jT, [jxb_c221, jxb_c269, jxb_c271], jxb_SP, [], 100000)) (f := 100000) jxe_ok jxe_Xo jT_ok ldB_us (List.all_eq_true.mp ldB_c1 c (List.mem_range.mpr hc))
    refine (hcon 15 (Nat.le_of_ble_eq_true rfl) _ t h [.ref 0, .int n] g3 ⟨rfl, ⟨show 1 < 2 by decide, (Int.add_zero _).symm⟩, trivial⟩).mono ?_
    rintro rv h' ⟨f1, o, o1, r4, t4, g4, an⟩
    have f1 : jc_fr ldB_W h h' := f1
    have hq := jc_all_ok (List.all_eq_true.mp ldB_q1 c (List.mem_range.mpr hc)) o o1
    refine ⟨?_, ?_, i_Wx_ok (by decide +kernel) f1⟩
    · obtain ⟨q, hq⟩ := ldB_an c o o1
      rw [hq] at an
      cases rv with
      | none => exact an.elim
      | some v =>
        obtain ⟨x, rfl, -⟩ := jc_val.int an
        exact ⟨x, rfl⟩
    · rcases Bool.or_eq_true_iff.mp hq with z | z
      · obtain ⟨-, z⟩ := Bool.and_eq_true_iff.mp z
        split at z
        · rename_i c' b l1 l2
          obtain ⟨z1, z⟩ := Bool.and_eq_true_iff.mp z
          obtain ⟨z2, z3⟩ := Bool.and_eq_true_iff.mp z
          obtain ⟨v, v1, v2⟩ := i_atO 29 2 (by decide +kernel) g4 l1
          obtain ⟨u, rfl, -, u2⟩ := v2.int
          obtain ⟨v', v3, v4⟩ := i_atO 0 6 (by decide +kernel) g4 l2
          have hu : u = y := Int32.toInt_inj.mp (by rw [u2, g4.1.1, of_decide_eq_true z1, y2]; exact Int.zero_add _)
          obtain ⟨r5, t5, g5⟩ := g4.to jxe_ok z3
          refine Or.inr ⟨r5, t5, g5.1, g5.2.1, g5.2.2.1, g5.2.2.2.1, jxsB_Xo h h' (i_prb_ok ldB_pr f1 (by rw [v1, y1, hu]) (by rw [v3, v4.ref, ht06, Nat.eq_of_beq_eq_true z2])) hg.2.2.2.2⟩
        · cases z
      · obtain ⟨-, z⟩ := Bool.and_eq_true_iff.mp z
        split at z
        · rename_i l1 l2
          obtain ⟨v, v1, v2⟩ := i_atO 29 2 (by decide +kernel) g4 l1
          obtain ⟨u, rfl, -, u2⟩ := v2.int
          obtain ⟨r5, t5, g5⟩ := g4.to jxe_ok z
          exact Or.inl ⟨r5, t5, g5.1, g5.2.1, g5.2.2.1, g5.2.2.2.1, jxs_X0 (i_at29 g4 l2) ⟨u, v1, by rw [u2, g4.1.1]; rfl⟩⟩
        · cases z
  have hkk : (nI (20 * k)).toInt = ((20 * k : Nat) : Int) := nI_toInt (by omega)
  obtain ⟨s1, s2⟩ := Bool.and_eq_true_iff.mp (List.all_eq_true.mp ldB_r1 k (List.mem_range.mpr hk))
  obtain ⟨s2, s3⟩ := Bool.and_eq_true_iff.mp s2
  have w2 : j_W jP 15 114 0 (lv_args 0 [.ref 0, .int n]) [] h (fun rv h' => jc_at h' 1 1 = some (.int (nI (i_ln k n)))) := by
    have hval : ∀ m : Nat, 0 < m → ∀ r : jc_R, r 0 = 0 → jc_val r m (.inl (0, ((20 * k : Nat) : Int))) (.int (nI (20 * k))) := fun m hm r hr => ⟨hm, by rw [hkk, hr]; exact (Int.zero_add _).symm⟩
    have nb := i_full n
    rcases Int.lt_or_le n.toInt 0 with z | z
    · have g2 := g1.args (r' := jc_up i_r0 1 n.toInt) rfl (i_B0.snoc (b := (.negSucc 2147483647, .negSucc 0)) ⟨nb.1, by show n.toInt ≤ -1; omega⟩)
      have g3 := g2.addO jxe_ok e3 e4 hL (hval 2 (by decide) _ rfl)
      have hcon : jc_Con jP jxe (fun _ => True) (ldB_n ((20 * k : Nat) : Int)) := jc_mth_ok (Z := (jxe, [], jT, [], jxb_SP, [], 100000)) (f := 100000) jxe_ok jxe_Xo jT_ok jc_c0 (List.all_eq_true.mp ldB_n1 k (List.mem_range.mpr hk))
      refine (hcon 15 (Nat.le_of_ble_eq_true rfl) _ t h [.ref 0, .int n] g3 ⟨rfl, ⟨show 1 < 2 by decide, (Int.add_zero _).symm⟩, trivial⟩).mono ?_
      rintro rv h' ⟨f1, o, o1, r4, t4, g4, an⟩
      rw [show i_ln k n = 20 * k from if_neg (by omega)]
      exact ldB_ln s2 o1 g4 rfl (by omega)
    · rcases Int.lt_or_le ((20 * k : Nat) : Int) n.toInt with z2 | z2
      · have g2 := g1.args (r' := jc_up i_r0 1 n.toInt) rfl (i_B0.snoc (b := (((20 * k : Nat) : Int) + 1, .ofNat 2147483647)) ⟨by show ((20 * k : Nat) : Int) + 1 ≤ n.toInt; omega, nb.2⟩)
        have g3 := g2.addO jxe_ok e3 e4 hL (hval 2 (by decide) _ rfl)
        have hcon : jc_Con jP jxe (fun _ => True) (ldB_b ((20 * k : Nat) : Int)) := jc_mth_ok (Z := (jxe, [], jT, [], jxb_SP, [], 100000)) (f := 100000) jxe_ok jxe_Xo jT_ok jc_c0 (List.all_eq_true.mp ldB_b1 k (List.mem_range.mpr hk))
        refine (hcon 15 (Nat.le_of_ble_eq_true rfl) _ t h [.ref 0, .int n] g3 ⟨rfl, ⟨show 1 < 2 by decide, (Int.add_zero _).symm⟩, trivial⟩).mono ?_
        rintro rv h' ⟨f1, o, o1, r4, t4, g4, an⟩
        rw [show i_ln k n = 20 * k from if_neg (by omega)]
        exact ldB_ln s3 o1 g4 rfl (by omega)
      · have g2 := g1.args (r' := jc_up i_r0 1 n.toInt) rfl (i_B0.snoc (b := (.ofNat 0, ((20 * k : Nat) : Int))) ⟨z, z2⟩)
        have g3 := g2.addO jxe_ok e3 e4 hL (hval 2 (by decide) _ rfl)
        have hcon : jc_Con jP jxe (fun _ => True) (ldB_i ((20 * k : Nat) : Int)) := jc_mth_ok (Z := (jxe, [], jT, [jxb_c221, jxb_c269, jxb_c271], jxb_SP, [], 100000)) (f := 100000) jxe_ok jxe_Xo jT_ok ldB_us (List.all_eq_true.mp ldB_i1 k (List.mem_range.mpr hk))
        refine (hcon 15 (Nat.le_of_ble_eq_true rfl) _ t h [.ref 0, .int n] g3 ⟨rfl, ⟨show 1 < 2 by decide, (Int.add_zero _).symm⟩, trivial⟩).mono ?_
        rintro rv h' ⟨f1, o, o1, r4, t4, g4, an⟩
        rw [show i_ln k n = 0 from if_pos ⟨z, z2⟩]
        exact ldB_ln s1 o1 g4 rfl (by decide)
  refine ((w1.and w2).same jS_ok (by decide +kernel)).mono ?_
  rintro rv h' ⟨⟨⟨a1, a2, a3⟩, a4⟩, a5⟩
  exact ⟨⟨a1, a2, a5, a3⟩, a4⟩

theorem pX_load {n : Int32} {k : Nat} (hk : k < 36) {h : J_H} (hI : IC h) (hL : jc_at h 1 1 = some (.int (nI (20 * k)))) : j_W jP 15 114 0 (lv_args 0 [.ref 0, .int n]) [] h (fun rv h' => ((∃ v, rv = some (.int v)) ∧ IC h' ∧ i_fx h h') ∧ jc_at h' 1 1 = some (.int (nI (i_ln k n)))) := hI.elim (fun z => pX_loadA hk z hL) (fun z => pX_loadB hk z hL)

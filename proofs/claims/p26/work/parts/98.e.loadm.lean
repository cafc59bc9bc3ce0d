/-! the reference's load: the invariants, the length -/
noncomputable def lm_z (z : Int) (outs : List (jc_A × Option jc_v)) : Bool := jc_all (fun (o : jc_A × Option jc_v) => match jc_lk o.1.2.2.1 (jc_key 359 9) with
  | some (.inl (0, c')) => decide (c' = z)
  | _ => false) outs
theorem lm_call {c : jc_Cn} {k : Nat} {a b : Int} {z : Nat} {n : Int32} {h : J_H} (hk : k < 36) (hc : jc_Con jP jxm jm_X c) (hI : IM h) (hL : jc_at h 359 9 = some (.int (nI (20 * k)))) (h1 : c.1 = 200) (h2 : c.2.2.1 = [.inr (some (some 359)), .inl (1, 0)]) (hp : c.2.2.2.1 = (2, [(1, a, b)], [(jc_key 359 9, .inl (0, ((20 * k : Nat) : Int)))], [], [], iFM)) (ha : a ≤ n.toInt ∧ n.toInt ≤ b) (hd : Nat.ble c.2.1 15 = true) (ho : i_out jxm (i_st [] iFM) c.2.2.2.2.2 = true) (hz : lm_z ((z : Nat) : Int) c.2.2.2.2.2 = true) (hzb : z < 2 ^ 31) (hW : i_Wm c.2.2.2.2.1 = true) : j_W jP 15 200 0 (lv_args 0 [.ref 359, .int n]) [] h (fun rv h' => ((∃ v, rv = some (.int v)) ∧ IM h' ∧ i_fm h h') ∧ jc_at h' 359 9 = some (.int (nI z))) := by
  obtain ⟨r, t, hg⟩ := hI
  have hB := i_B0.snoc (b := (a, b)) (x := n.toInt) ha
  have g0 := hg.args rfl hB
  obtain ⟨d9, d1, d2⟩ : ∃ d, ja_n2 jxm.1 359 = some d ∧ 9 < d.1.2.2 := ⟨_, rfl, by decide⟩
  have g1 := g0.addO (s := .inl (0, ((20 * k : Nat) : Int))) jxm_ok d1 d2 hL ⟨show 0 < 2 by decide, by rw [nI_toInt (by omega)]; exact (Int.zero_add _).symm⟩
  have g1 : jc_g jxm jm_X (jc_up i_r0 1 n.toInt) t c.2.2.2.1 h := by rw [hp]; exact g1
  have hn : c.2.2.2.1.1 = 2 := by rw [hp]
  have w := hc 15 (Nat.le_of_ble_eq_true hd) (jc_up i_r0 1 n.toInt) t h [.ref 359, .int n] g1 (by rw [hn, h2]; exact ⟨rfl, ⟨show 1 < 2 by decide, (Int.add_zero _).symm⟩, trivial⟩)
  rw [h1] at w
  refine (w.same jS_ok (by decide +kernel)).mono ?_
  rintro rv h' ⟨⟨f1, o, o1, r2, t2, g2, an⟩, a6⟩
  obtain ⟨a1, a2⟩ := Bool.and_eq_true_iff.mp (jc_all_ok ho o o1)
  obtain ⟨r3, t3, g3⟩ := g2.to jxm_ok a1
  refine ⟨⟨?_, ⟨r3, t3, g3⟩, a6, i_Wm_ok hW f1⟩, ?_⟩
  · split at a2
    · rename_i q hq
      rw [hq] at an
      cases rv with
      | none => exact an.elim
      | some v =>
        obtain ⟨x, rfl, -⟩ := jc_val.int an
        exact ⟨x, rfl⟩
    · cases a2
  · have h3 := jc_all_ok hz o o1
    split at h3
    · rename_i c' hl
      obtain ⟨v, v1, v2⟩ := g2.atO d1 d2 hl
      obtain ⟨y, rfl, -, y2⟩ := v2.int
      rw [v1, nI_eq9 (x := y) (a := z) (by rw [y2, g2.1.1, of_decide_eq_true h3]; exact Int.zero_add _) hzb]
    · cases h3
theorem lm_1 : (List.range 36).all (fun k => i_out jxm (i_st [] iFM) (jxm_ldc (20 * k) (-2147483648) (-1) true).2.2.2.2.2 && (i_out jxm (i_st [] iFM) (jxm_ldc (20 * k) (20 * k + 1) 2147483647 true).2.2.2.2.2 && (lm_z ((20 * k : Nat) : Int) (jxm_ldc (20 * k) (-2147483648) (-1) true).2.2.2.2.2 && lm_z ((20 * k : Nat) : Int) (jxm_ldc (20 * k) (20 * k + 1) 2147483647 true).2.2.2.2.2))) = true := by decide +kernel
theorem lm_2 : i_out jxm (i_st [] iFM) jxm_ld.2.2.2.2.2 = true := by decide +kernel
theorem lm_3 : lm_z 0 jxm_ld.2.2.2.2.2 = true := by decide +kernel
theorem lm_4 : i_Wm jxm_ld.2.2.2.2.1 = true := by decide +kernel
theorem pM_load {n : Int32} {k : Nat} (hk : k < 36) {h : J_H} (hI : IM h) (hL : jc_at h 359 9 = some (.int (nI (20 * k)))) : j_W jP 15 200 0 (lv_args 0 [.ref 359, .int n]) [] h (fun rv h' => ((∃ v, rv = some (.int v)) ∧ IM h' ∧ i_fm h h') ∧ jc_at h' 359 9 = some (.int (nI (i_ln k n)))) := by
  obtain ⟨s1, s2⟩ := Bool.and_eq_true_iff.mp (List.all_eq_true.mp lm_1 k (List.mem_range.mpr hk))
  obtain ⟨s2, s3⟩ := Bool.and_eq_true_iff.mp s2
  obtain ⟨s3, s4⟩ := Bool.and_eq_true_iff.mp s3
  have nb := i_full n
  rcases Int.lt_or_le n.toInt 0 with z | z
  · rw [show i_ln k n = 20 * k from if_neg (by omega)]
    exact lm_call hk (jxm_ld_neg jm_Xo hk) hI hL rfl rfl rfl ⟨by have := nb.1; show (-2147483648 : Int) ≤ n.toInt; exact this, by show n.toInt ≤ -1; omega⟩ (show Nat.ble jxm_ld.2.1 15 = true by decide +kernel) s1 s3 (by omega) lm_4
  · rcases Int.lt_or_le ((20 * k : Nat) : Int) n.toInt with z2 | z2
    · rw [show i_ln k n = 20 * k from if_neg (by omega)]
      exact lm_call hk (jxm_ld_big jm_Xo hk) hI hL rfl rfl rfl ⟨by omega, nb.2⟩ (show Nat.ble jxm_ld.2.1 15 = true by decide +kernel) s2 s4 (by omega) lm_4
    · rw [show i_ln k n = 0 from if_pos ⟨z, z2⟩]
      exact lm_call (z := 0) hk (jxm_ld_acc jm_Xo (jxm_g42_ok jm_Xo) (jxm_g43_ok jm_Xo) hk) hI hL rfl rfl rfl ⟨z, by omega⟩ (show Nat.ble jxm_ld.2.1 15 = true by decide +kernel) lm_2 lm_3 (by decide) lm_4

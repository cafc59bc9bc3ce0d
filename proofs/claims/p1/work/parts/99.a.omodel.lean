/-! out and thrown of the model -/
def jo_t298 : ja_C := [some [ja_i (.aload_n 0), ja_i (.iload_n 1), ja_i (.ifCond .lt 11), none, none, ja_i (.iload_n 1), ja_i (.aload_n 0), ja_f (.getfield 365) (10, 27, .int, 0), none, none, ja_i (.if_icmp .lt 7), none, none, ja_i (.iconst 1), ja_i (.goto 4), none],
  some [none, ja_i (.iconst 0), ja_f (.putfield 55) (10, 0, .int, 0), none, none, ja_i (.aload_n 0), ja_f (.getfield 55) (10, 0, .int, 0), none, none, ja_i (.iconst 1), ja_i (.if_icmp .ne 7), none, none, ja_i (.iconst 0), ja_i (.goto 9), none],
  some [none, ja_i (.aload_n 0), ja_f (.getfield 51) (10, 26, .array .byte, 1), none, none, ja_i (.iload_n 1), ja_i .baload, ja_i .ireturn, none, none, none, none, none, none, none, none]]
def jo_t168 : ja_C := [some [ja_i (.aload_n 0), ja_f (.getfield 55) (10, 0, .int, 0), none, none, ja_i .ireturn, none, none, none, none, none, none, none, none, none, none, none]]
def jo_T : ja_T := [some [none, none, none, none, none, none, none, none, none, none, none, none, none, none, none, none],
  some [none, none, none, none, none, none, none, none, none, none, none, none, none, none, none, none],
  some [none, none, none, none, none, none, none, none, none, none, none, none, none, none, none, none],
  some [none, none, none, none, none, none, none, none, none, none, none, none, none, none, none, none],
  some [none, none, none, none, none, none, none, none, none, none, none, none, none, none, none, none],
  some [none, none, none, none, none, none, none, none, none, none, none, none, none, none, none, none],
  some [none, none, none, none, none, none, none, none, none, none, none, none, none, none, none, none],
  some [none, none, none, none, none, none, none, none, none, none, none, none, none, none, none, none],
  some [none, none, none, none, none, none, none, none, none, none, none, none, none, none, none, none],
  some [none, none, none, none, none, none, none, none, none, none, none, none, none, none, none, none],
  some [none, none, none, none, none, none, none, none, some ((1, (some .int), 0, 10), jo_t168), none, none, none, none, none, none, none],
  some [none, none, none, none, none, none, none, none, none, none, none, none, none, none, none, none],
  some [none, none, none, none, none, none, none, none, none, none, none, none, none, none, none, none],
  some [none, none, none, none, none, none, none, none, none, none, none, none, none, none, none, none],
  some [none, none, none, none, none, none, none, none, none, none, none, none, none, none, none, none],
  some [none, none, none, none, none, none, none, none, none, none, none, none, none, none, none, none],
  some [none, none, none, none, none, none, none, none, none, none, none, none, none, none, none, none],
  some [none, none, none, none, none, none, none, none, none, none, none, none, none, none, none, none],
  some [none, none, none, none, none, none, none, none, none, none, some ((2, (some .int), 1, 10), jo_t298), none, none, none, none, none]]
theorem jo_T_ok : ∀ mj N C', ja_n2 jo_T mj = some (N, C') → ∃ M, j_meth jP mj = some M ∧ N = ja_ab M ∧ ja_Co jP mj C' := ja_T_ok (by decide +kernel)
noncomputable def jo_call (f mi : Nat) (As : List Value) (A : ja_H) (iv : ja_I) (K : ja_I → Option Value → ja_H → Bool) : Bool := match ja_n2 jo_T mi with
  | some (N, C) => ja_run jo_T 202 f 8 N C 0 (lv_args 0 As) [] A iv K
  | none => false
theorem jo_call_ok {f mi : Nat} {As : List Value} {A : ja_H} {iv : ja_I} {K : ja_I → Option Value → ja_H → Bool} (hc : jo_call f mi As A iv K = true) {env : Nat → Int32} {h : J_H} (hs : ja_sat env iv) (hr : ja_rel env A h) : j_W jP 8 mi 0 (lv_args 0 (As.map (ja_S env))) [] h (ja_Q env A h K) := by
  unfold jo_call at hc
  split at hc
  · rename_i N C hN
    obtain ⟨M, m1, rfl, m2⟩ := jo_T_ok _ _ _ hN
    rw [ja_args]
    exact ja_ok jo_T_ok jcp_ok env f 8 mi M C 0 (lv_args 0 As) [] A iv K h m1 m2 hc hs hr
  · cases hc
def jo_is (A : ja_H → Option (Nat × J_C)) (B : ja_H) : Bool := match A B with
  | some (_, .inl (10, _)) => true
  | _ => false
noncomputable def jo_K (iv : ja_I) (r : Option Value) (A : ja_H) : Bool := decide (r = some (.int 0)) && (jo_is (fun B => ja_at B 359) A && jo_call 200 168 [.ref 359] A iv (fun _ r2 _ => decide (r2 = some (.int 1))))
theorem jo_run : jo_call 200 298 [.ref 359, .retAddr 0] jAm [(-2147483648, 2147483647)] jo_K = true := by decide +kernel
theorem jo_m {v : Int32} {h : J_H} (hl : h.length = 372) (hh : ∀ k, 359 ≤ k → h[k]? = jH[k]?) : j_W jP 8 298 0 (lv_args 0 [.ref 359, .int v]) [] h (fun r h' => r = some (.int 0) ∧ h'.length = 372 ∧ (∃ fs, h'[359]? = some (.inl (10, fs))) ∧ j_W jP 8 168 0 (lv_args 0 [.ref 359]) [] h' (fun r2 h2 => r2 = some (.int 1) ∧ h2.length = 372)) := by
  have hr : ja_rel (jz_env v 0 0) jAm h := by
    intro k n c hk
    have h1 := ja_hk_ok jAm_ok (jz_env v 0 0) k n c hk
    have h2 := Nat.le_of_ble_eq_true (List.all_eq_true.mp jz_mhigh _ (ja_at_mem hk))
    rw [hh k h2]
    exact h1
  refine (jo_call_ok jo_run (jz_sat1 (jz_full v)) hr).mono ?_
  rintro r h' ⟨iv', r0, A', b1, b2, b3, b4, rfl⟩
  obtain ⟨k1, k2⟩ := Bool.and_eq_true_iff.mp b1
  obtain ⟨k2, k3⟩ := Bool.and_eq_true_iff.mp k2
  have e1 := of_decide_eq_true k1
  subst e1
  have hl' := b4.1.trans hl
  refine ⟨rfl, hl', ?_, ?_⟩
  · unfold jo_is at k2
    split at k2
    · rename_i n fs hq
      exact ⟨_, (b3 _ _ _ hq).1⟩
    · cases k2
  · refine (jo_call_ok k3 b2 b3).mono ?_
    rintro r2 h2 ⟨iv2, r3, A2, c1, c2, c3, c4, rfl⟩
    have e2 := of_decide_eq_true c1
    subst e2
    exact ⟨rfl, c4.1.trans hl'⟩

/-! scratch: stubs for what stands in 96.c, 97.c .. 97.g -/
theorem nI_eq9 {x : Int32} {a : Nat} (h : x.toInt = (a : Int)) (ha : a < 2 ^ 31) : x = nI a := Int32.toInt_inj.mp (by rw [nI_toInt ha, h])
theorem jm_tvi {q : Int × Int} {v : Value} (h : jc_tv (some (.inl q)) v) : ∃ x : Int32, v = .int x ∧ q.1 ≤ x.toInt ∧ x.toInt ≤ q.2 := by
  cases v <;> first | exact h.elim | exact ⟨_, rfl, h⟩
theorem jm_tvr {b : Nat} {v : Value} (h : jc_tv (some (.inr (some b))) v) : v = .ref b := by
  cases v <;> first | exact h.elim | (cases h; rfl)
theorem jm_full (x : Int32) : jc_tv (some (.inl (-2147483648, 2147483647))) (.int x) := by
  have h1 := Int32.le_toInt x
  have h2 := Int32.toInt_lt x
  exact ⟨by simpa using h1, by have : x.toInt < 2147483648 := by simpa using h2
                               omega⟩
theorem jm_inW {b lo hi x i : Nat} {W : jc_W} : jc_inW ((b, lo, hi) :: W) x i = (Nat.beq b x && (Nat.ble lo i && Nat.ble (i + 1) hi) || jc_inW W x i) := rfl
theorem jm_inW_t {b lo hi x i : Nat} {W : jc_W} (h : jc_inW ((b, lo, hi) :: W) x i = true) : (b = x ∧ lo ≤ i ∧ i < hi) ∨ jc_inW W x i = true := by
  rw [jm_inW] at h
  rcases Bool.or_eq_true_iff.mp h with h | h
  · obtain ⟨h1, h⟩ := Bool.and_eq_true_iff.mp h
    obtain ⟨h2, h3⟩ := Bool.and_eq_true_iff.mp h
    exact Or.inl ⟨Nat.eq_of_beq_eq_true h1, Nat.le_of_ble_eq_true h2, Nat.le_of_ble_eq_true h3⟩
  · exact Or.inr h
def jm_X (h : J_H) : Prop := ∀ k, k < 10 → ∃ t, jm_S (fun i => jc_at h 364 (602 * k + i)) t
theorem jm_Xo : jc_Xo jxm jm_X := sorry
theorem jxsA_Xo : jc_Xo jxa (jxs_X 30 327) := sorry
theorem jxsB_Xo : jc_Xo jxb (jxs_X 40 343) := sorry
theorem j_spl3' {N : j_M} {h : J_H} {k : Nat} {fs : List Value} {rest As : List Value} (hk : h[k]? = some (.inl (j_ci N, fs))) (hnp : j_np N = As.length) (hr : (rest.map fun v => v.category).sum ≤ 8) (hl : (lg_sl (.ref k :: As)).length ≤ j_nL N) : j_spl 3 N h (As.reverse ++ .ref k :: rest) = some (.ref k :: As, rest) := by
  unfold j_spl
  have e : j_nar 3 (j_np N) = As.length + 1 := by rw [hnp]; rfl
  have e1 : (As.reverse ++ .ref k :: rest).take (As.length + 1) = As.reverse ++ [.ref k] := by
    rw [show As.reverse ++ Value.ref k :: rest = (As.reverse ++ [.ref k]) ++ rest by simp, List.take_append_of_le_length (by simp), List.take_of_length_le (by simp)]
  have e2 : (As.reverse ++ .ref k :: rest).drop (As.length + 1) = rest := by
    rw [show As.reverse ++ Value.ref k :: rest = (As.reverse ++ [.ref k]) ++ rest by simp, List.drop_append_of_le_length (by simp), List.drop_eq_nil_of_le (by simp), List.nil_append]
  rw [e, e1, e2]
  have e3 : (As.reverse ++ [Value.ref k]).reverse = .ref k :: As := by simp
  rw [e3]
  refine if_pos ⟨by simp, hr, hl, ?_⟩
  show (match h[k]? with
    | some (.inl (c, _)) => decide (c = j_ci N)
    | _ => false) = true
  rw [hk]
  exact decide_eq_true rfl

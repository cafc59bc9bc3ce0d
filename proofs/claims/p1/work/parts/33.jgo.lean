/-! go and ahead on new objects: the class minute number by minute number, the model with the number unknown -/
noncomputable def jz_Kn (p : Nat) (iv : ja_I) (r : Option Value) (_ : ja_H) : Bool := match ja_o iv p with
  | some (lo, hi) => decide (lo = hi) && decide (r = some (.int (Int32.ofInt lo)))
  | none => false
theorem jz_Kn_ok {p : Nat} {env : Nat → Int32} (iv' : ja_I) (r : Option Value) (A' : ja_H) (hs : ja_sat env iv') (hK : jz_Kn p iv' r A' = true) : r.map (ja_S env) = some (.int (env p)) := by
  unfold jz_Kn at hK
  split at hK
  · rename_i lo hi hp
    obtain ⟨h1, h2⟩ := hs _ _ _ hp
    obtain ⟨k1, k2⟩ := Bool.and_eq_true_iff.mp hK
    have e1 := of_decide_eq_true k1
    have e2 := of_decide_eq_true k2
    have e3 : lo = (env p).toInt := by omega
    rw [e2, e3, Int32.ofInt_toInt]
    rfl
  · cases hK
theorem jz_zero : (0 : Int) ≤ (0 : Int32).toInt ∧ (0 : Int32).toInt ≤ 0 := by decide
theorem jz_nI {a : Int32} {n : Nat} (h0 : 0 ≤ a.toInt) (h1 : a.toInt < n) (hn : n < 2 ^ 31) : ∃ i : Nat, i < n ∧ a = nI i := by
  refine ⟨a.toInt.toNat, by omega, ?_⟩
  apply Int32.toInt_inj.mp
  rw [nI_toInt (by omega)]
  omega
set_option maxRecDepth 1000000 in
theorem jq_go_0x : ja_call 30000 149 [.ref 0, .retAddr 0, .retAddr 1] jAx [(-2147483648, 0), (0, 1)] (jz_K 0 [] [-1]) = true := by decide +kernel
set_option maxRecDepth 1000000 in
theorem jq_go_0m : ja_call 30000 284 [.ref 359, .retAddr 0, .retAddr 1] jAm [(-2147483648, 0), (0, 1)] (jz_K 0 [] [-1]) = true := by decide +kernel
set_option maxRecDepth 1000000 in
theorem jq_go_1x : ja_call 30000 149 [.ref 0, .retAddr 0, .retAddr 1] jAx [(100, 2147483647), (0, 1)] (jz_K 0 [] [-1]) = true := by decide +kernel
set_option maxRecDepth 1000000 in
theorem jq_go_1m : ja_call 30000 284 [.ref 359, .retAddr 0, .retAddr 1] jAm [(100, 2147483647), (0, 1)] (jz_K 0 [] [-1]) = true := by decide +kernel
set_option maxRecDepth 1000000 in
theorem jq_go_2m : ja_call 30000 284 [.ref 359, .retAddr 0, .retAddr 1] jAm [(1, 99), (0, 1)] (jz_Kn 0) = true := by decide +kernel
set_option maxRecDepth 1000000 in
theorem jq_go_2x : ((List.range 99).all fun i => ja_call 30000 149 [.ref 0, .int (nI (i + 1)), .retAddr 1] jAx [(0, 0), (0, 1)] (jz_K 0 [] [nI (i + 1)])) = true := by decide +kernel
theorem jz_go (a : Int32) (b : Bool) : jz_ok 149 284 [.int a, .int (bif b then 1 else 0)] := by
  have hf := jz_full a
  by_cases h0 : a.toInt ≤ 0
  · exact jz_box (env := jz_env a (bif b then 1 else 0) 0) jq_go_0x jq_go_0m (jz_sat2 ⟨hf.1, h0⟩ (jz_bool b)) rfl
  · by_cases h1 : 100 ≤ a.toInt
    · exact jz_box (env := jz_env a (bif b then 1 else 0) 0) jq_go_1x jq_go_1m (jz_sat2 ⟨h1, hf.2⟩ (jz_bool b)) rfl
    · obtain ⟨i, hi, e⟩ := jz_nI (a := a) (n := 100) (by omega) (by omega) (by omega)
      have hi0 : i ≠ 0 := fun z => by
        subst z
        rw [e, nI_toInt (by omega)] at h0
        omega
      obtain ⟨j, rfl⟩ : ∃ j, i = j + 1 := ⟨i - 1, by omega⟩
      have hx := List.all_eq_true.mp jq_go_2x j (List.mem_range.mpr (by omega))
      refine ⟨a, jz_x (env := jz_env 0 (bif b then 1 else 0) 0) hx (jz_sat2 jz_zero (jz_bool b)) (by rw [e]; rfl) ?_, fun h hl hh => jz_m (env := jz_env a (bif b then 1 else 0) 0) jq_go_2m (jz_sat2 ⟨by show 1 ≤ a.toInt; omega, by show a.toInt ≤ 99; omega⟩ (jz_bool b)) rfl (fun iv' r A' s k => jz_Kn_ok iv' r A' s k) h hl hh⟩
      intro iv' r A' s k
      rw [jz_K_ok iv' r A' s k, e]
      rfl
set_option maxRecDepth 1000000 in
theorem jq_ahead_0x : ja_call 30000 138 [.ref 0, .retAddr 0, .retAddr 1, .retAddr 2] jAx [(-2147483648, -1), (0, 1), (-2147483648, 2147483647)] (jz_K 0 [] [-1]) = true := by decide +kernel
set_option maxRecDepth 1000000 in
theorem jq_ahead_0m : ja_call 30000 263 [.ref 359, .retAddr 0, .retAddr 1, .retAddr 2] jAm [(-2147483648, -1), (0, 1), (-2147483648, 2147483647)] (jz_K 0 [] [-1]) = true := by decide +kernel
set_option maxRecDepth 1000000 in
theorem jq_ahead_1x : ja_call 30000 138 [.ref 0, .retAddr 0, .retAddr 1, .retAddr 2] jAx [(100, 2147483647), (0, 1), (-2147483648, 2147483647)] (jz_K 0 [] [-1]) = true := by decide +kernel
set_option maxRecDepth 1000000 in
theorem jq_ahead_1m : ja_call 30000 263 [.ref 359, .retAddr 0, .retAddr 1, .retAddr 2] jAm [(100, 2147483647), (0, 1), (-2147483648, 2147483647)] (jz_K 0 [] [-1]) = true := by decide +kernel
set_option maxRecDepth 1000000 in
theorem jq_ahead_2x : ja_call 30000 138 [.ref 0, .retAddr 0, .retAddr 1, .retAddr 2] jAx [(0, 99), (0, 1), (-2147483648, -1)] (jz_K 0 [] [-1]) = true := by decide +kernel
set_option maxRecDepth 1000000 in
theorem jq_ahead_2m : ja_call 30000 263 [.ref 359, .retAddr 0, .retAddr 1, .retAddr 2] jAm [(0, 99), (0, 1), (-2147483648, -1)] (jz_K 0 [] [-1]) = true := by decide +kernel
set_option maxRecDepth 1000000 in
theorem jq_ahead_3x : ja_call 30000 138 [.ref 0, .retAddr 0, .retAddr 1, .retAddr 2] jAx [(0, 99), (0, 1), (6, 2147483647)] (jz_K 0 [] [-1]) = true := by decide +kernel
set_option maxRecDepth 1000000 in
theorem jq_ahead_3m : ja_call 30000 263 [.ref 359, .retAddr 0, .retAddr 1, .retAddr 2] jAm [(0, 99), (0, 1), (6, 2147483647)] (jz_K 0 [] [-1]) = true := by decide +kernel
set_option maxRecDepth 1000000 in
theorem jq_ahead_4m : ja_call 30000 263 [.ref 359, .retAddr 0, .retAddr 1, .retAddr 2] jAm [(0, 99), (0, 1), (0, 5)] (jz_K 2 [2, 3] [0, 1, 0]) = true := by decide +kernel
set_option maxRecDepth 1000000 in
theorem jq_ahead_4x : ((List.range 100).all fun i => ja_call 30000 138 [.ref 0, .int (nI i), .retAddr 1, .retAddr 2] jAx [(0, 0), (0, 1), (0, 5)] (jz_K 2 [2, 3] [0, 1, 0])) = true := by decide +kernel
theorem jz_ahead (a : Int32) (b : Bool) (c : Int32) : jz_ok 138 263 [.int a, .int (bif b then 1 else 0), .int c] := by
  have hf := jz_full a
  have hg := jz_full c
  by_cases h0 : a.toInt ≤ -1
  · exact jz_box (env := jz_env a (bif b then 1 else 0) c) jq_ahead_0x jq_ahead_0m (jz_sat3 ⟨hf.1, h0⟩ (jz_bool b) hg) rfl
  · by_cases h1 : 100 ≤ a.toInt
    · exact jz_box (env := jz_env a (bif b then 1 else 0) c) jq_ahead_1x jq_ahead_1m (jz_sat3 ⟨h1, hf.2⟩ (jz_bool b) hg) rfl
    · have ha : (0 : Int) ≤ a.toInt ∧ a.toInt ≤ 99 := ⟨by omega, by omega⟩
      by_cases h2 : c.toInt ≤ -1
      · exact jz_box (env := jz_env a (bif b then 1 else 0) c) jq_ahead_2x jq_ahead_2m (jz_sat3 ha (jz_bool b) ⟨hg.1, h2⟩) rfl
      · by_cases h3 : 6 ≤ c.toInt
        · exact jz_box (env := jz_env a (bif b then 1 else 0) c) jq_ahead_3x jq_ahead_3m (jz_sat3 ha (jz_bool b) ⟨h3, hg.2⟩) rfl
        · have hc : (0 : Int) ≤ c.toInt ∧ c.toInt ≤ 5 := ⟨by omega, by omega⟩
          obtain ⟨i, hi, e⟩ := jz_nI (a := a) (n := 100) (by omega) (by omega) (by omega)
          have hx := List.all_eq_true.mp jq_ahead_4x i (List.mem_range.mpr hi)
          exact ⟨_, jz_x (env := jz_env 0 (bif b then 1 else 0) c) hx (jz_sat3 jz_zero (jz_bool b) hc) (by rw [e]; rfl) (fun iv' r A' s k => jz_K_ok iv' r A' s k), fun h hl hh => jz_m (env := jz_env a (bif b then 1 else 0) c) jq_ahead_4m (jz_sat3 ha (jz_bool b) hc) rfl (fun iv' r A' s k => jz_K_ok iv' r A' s k) h hl hh⟩

/-! the first block: what a text tells; the rank by weight on both sides -/
theorem y_sub1 (v : Nat) : nI (v + 1) - 1 = nI v := by
  have : nI (v + 1) = nI v + 1 := (Int32.ofNat_add v 1)
  rw [this, Int32.add_sub_cancel]
theorem y_dec1 (v : Nat) : nI (v + 1) + (-1) = nI v := by
  have e : (-1 : Int32) = -(1 : Int32) := by decide
  rw [e, ← Int32.sub_eq_add_neg, y_sub1]
/-- the first i trains stand by weight -/
def rwI (R : List Int32) (i : Nat) (rk : List Int32) : Prop := rk.length = 5 ∧ ∀ k, k < i → ∃ t, t < i ∧ rr_c R t i = k ∧ gN rk k = nI t
theorem rr_c_s (R : List Int32) (t q : Nat) : rr_c R t (q + 1) = rr_c R t q + (if rr_p R q t = true then 1 else 0) := by
  show rr_c R t q + _ = _
  rfl
theorem rw_in {R wei : List Int32} {n : Nat} (h5 : n ≤ 5) (hw : ∀ t, t < n → gN wei t = rr_w R t) {i : Nat} (hi : i < n) {rk : List Int32} (I : rwI R i rk) : ∀ (v : Nat) (l : List Int32), rr_c R i i ≤ v → v ≤ i → l.length = 5 → (∀ j, j < v → gN l j = gN rk j) → (∀ j, v < j → j ≤ i → gN l j = gN rk (j - 1)) → ∃ l', x_rwi wei (nI i) v (nI v) l = (nI (rr_c R i i), l') ∧ l'.length = 5 ∧ (∀ j, j < rr_c R i i → gN l' j = gN rk j) ∧ ∀ j, rr_c R i i < j → j ≤ i → gN l' j = gN rk (j - 1)
  | 0, l, h1, h2, h3, h4, h6 => by
    have e : rr_c R i i = 0 := by omega
    rw [e]
    exact ⟨l, rfl, h3, fun j hj => absurd hj (by omega), h6⟩
  | v + 1, l, h1, h2, h3, h4, h6 => by
    obtain ⟨t, ht, hc, hk⟩ := I.2 v (by omega)
    unfold x_rwi
    rw [if_pos (show (0 : Int32) < nI (v + 1) from nI_lt (a := 0) (by omega) (by omega)), y_sub1, y_dec1, gA_n (by omega), h4 v (by omega), hk, gA_n (by omega), gA_n (by omega), hw t (by omega), hw i hi, sA_n (by omega)]
    by_cases c : rr_w R t < rr_w R i
    · rw [if_pos c]
      have c' := Int32.lt_iff_toInt_lt.mp c
      have np : ¬ rr_p R t i = true := fun z => by
        rcases rr_p_iff.mp z with z | z
        · omega
        · omega
      have hp : rr_p R i t = true := (rr_p_tot (show i ≠ t by omega)).resolve_right np
      have := (rr_c_mono hp i).1
      refine rw_in h5 hw hi I v _ (by omega) (by omega) (by rw [List.length_set]; exact h3) (fun j hj => ?_) (fun j hj hj2 => ?_)
      · rw [gN_ne (by omega)]; exact h4 j (by omega)
      · by_cases e : j = v + 1
        · rw [e, gN_eq (by omega), Nat.add_sub_cancel, hk]
        · rw [gN_ne (fun z => e z.symm)]; exact h6 j (by omega) hj2
    · rw [if_neg c]
      have c' : ¬ (rr_w R t).toInt < (rr_w R i).toInt := fun z => c (Int32.lt_iff_toInt_lt.mpr z)
      have hp : rr_p R t i = true := rr_p_iff.mpr (by omega)
      have := (rr_c_mono hp i).2 ht
      have e : rr_c R i i = v + 1 := by omega
      rw [e]
      exact ⟨l, rfl, h3, h4, h6⟩
theorem rw_st {R wei : List Int32} {n : Nat} (h5 : n ≤ 5) (hw : ∀ t, t < n → gN wei t = rr_w R t) : ∀ (f i : Nat) (rk : List Int32), i + f = n → rwI R i rk → rwI R n (x_rankByWeight_l10 wei f (nI i) rk)
  | 0, i, rk, e, I => by rw [show n = i by omega]; exact I
  | f + 1, i, rk, e, I => by
    have hi : i < n := by omega
    unfold x_rankByWeight_l10
    dsimp only
    have hle := rr_c_le R i i
    rw [show lpN (nI i) 0 = i from lpN_n0 (by omega)]
    obtain ⟨l', e1, e2, e3, e4⟩ := rw_in h5 hw hi I i rk hle (Nat.le_refl i) I.1 (fun j _ => rfl) (fun j a b => absurd a (by omega))
    rw [e1]
    dsimp only
    rw [sA_n (by omega), nI_1]
    refine rw_st h5 hw f (i + 1) _ (by omega) ⟨by rw [List.length_set]; exact e2, fun k hk => ?_⟩
    by_cases c : k = rr_c R i i
    · refine ⟨i, by omega, ?_, ?_⟩
      · rw [rr_c_s, rr_p_irr, if_neg (by decide), c]; rfl
      · rw [c, gN_eq (by omega)]
    · rw [gN_ne (fun z => c z.symm)]
      by_cases d : k < rr_c R i i
      · obtain ⟨t, ht, hc, hk⟩ := I.2 k (by omega)
        refine ⟨t, by omega, ?_, by rw [e3 k d]; exact hk⟩
        rw [rr_c_s, if_neg (fun z => by have := (rr_c_mono z i).1; omega), hc]; rfl
      · obtain ⟨t, ht, hc, hk⟩ := I.2 (k - 1) (by omega)
        refine ⟨t, by omega, ?_, by rw [e4 k (by omega) (by omega)]; exact hk⟩
        have hp : rr_p R i t = true := (rr_p_tot (show i ≠ t by omega)).resolve_right (fun z => by have := (rr_c_mono z i).2 ht; omega)
        rw [rr_c_s, if_pos hp, hc]
        omega
theorem rw_all {R wei rk : List Int32} {n : Nat} (h5 : n ≤ 5) (hr : rk.length = 5) (hw : ∀ t, t < n → gN wei t = rr_w R t) : rwI R n (x_rankByWeight rk (nI n) wei) := by
  unfold x_rankByWeight
  dsimp only
  rw [show lpN (nI n) 0 = n from lpN_n0 (by omega)]
  exact rw_st h5 hw n 0 _ (Nat.zero_add n) ⟨by rw [fL_len (by omega)]; exact hr, fun k hk => absurd hk (by omega)⟩
theorem ldW_o {n : Nat} {rd : List Int32} (h5 : n ≤ 5) {j : Nat} (hj : j < 196 ∨ 196 + n ≤ j) : gN (ldW n rd) j = gN rd j := by
  unfold gN ldW
  rw [List.getD_eq_getElem?_getD, rr_f_eq h5 hj rd n 0 (Nat.zero_add n), ← List.getD_eq_getElem?_getD]
theorem ldW_r {n : Nat} {rd : List Int32} (h5 : n ≤ 5) (hr : rd.length = 602) {t : Nat} (ht : t < n) : gN (ldW n rd) (196 + rr_c rd t n) = nI t := by
  unfold gN ldW
  rw [List.getD_eq_getElem?_getD, rr_f_at h5 ht n 0 rd (Nat.zero_add n) (Nat.zero_le t) hr]
  rfl
theorem ldW_rk {n : Nat} {rd rk wei : List Int32} (h5 : n ≤ 5) (hr : rd.length = 602) (hk : rk.length = 5) (hw : ∀ t, t < n → gN wei t = rr_w rd t) : ∀ k, k < n → gN (x_rankByWeight rk (nI n) wei) k = gN (ldW n rd) (196 + k) := fun k h => by
  obtain ⟨t, ht, hc, he⟩ := (rw_all h5 hk hw).2 k h
  rw [he, ← hc, ldW_r h5 hr ht]
theorem ldW_wRk {n : Nat} {rd : List Int32} (h5 : n ≤ 5) (hr : rd.length = 602) : wRk n (ldW n rd) := by
  have I := rw_all (R := rd) (wei := (List.range 5).map (rr_w rd)) (rk := List.replicate 5 0) h5 rfl (fun t ht => by
    unfold gN
    rw [List.getD_eq_getElem?_getD, List.getElem?_map, List.getElem?_range (by omega)]
    rfl)
  have key : ∀ k, k < n → ∃ t, t < n ∧ rr_c rd t n = k ∧ gN (ldW n rd) (196 + k) = nI t := fun k hk => by
    obtain ⟨t, ht, hc, -⟩ := I.2 k hk
    exact ⟨t, ht, hc, by rw [← hc, ldW_r h5 hr ht]⟩
  refine ⟨fun k hk => ?_, fun t ht => ⟨rr_c rd t n, rr_c_lt rd t n ht, ldW_r h5 hr ht⟩, fun j k hj hk e => ?_⟩
  · obtain ⟨t, a, -, b⟩ := key k hk
    exact ⟨t, a, b⟩
  · obtain ⟨t, a1, a2, a3⟩ := key j hj
    obtain ⟨u, b1, b2, b3⟩ := key k hk
    rw [a3, b3] at e
    have := congrArg Int32.toInt e
    rw [nI_toInt (by omega), nI_toInt (by omega)] at this
    rw [← a2, ← b2, show t = u by omega]

/-! (scratch: the four lemmas of 97.d that 97.e wants; the whole part lies in p5) -/
theorem jk_at {h : J_H} {k : Nat} {c c' : J_C} (hc : h[k]? = some c) : (h.set k c')[k]? = some c' := List.getElem?_set_self (List.getElem?_eq_some_iff.mp hc).1
theorem jk_add (n k : Nat) : nI n + nI k = nI (n + k) := (Int32.ofNat_add n k).symm
theorem jk_mul (n k : Nat) : nI n * nI k = nI (n * k) := (Int32.ofNat_mul n k).symm
theorem jk_sub (n k : Nat) : nI (n + k) - nI k = nI n := by rw [← jk_add, Int32.add_sub_cancel]

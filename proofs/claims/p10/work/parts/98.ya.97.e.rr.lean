/-! the rest of 97.e -/
/-- some row tells the ranks a -/
def rr_m (n : Nat) (a : List Nat) (row : List (Int × Int)) : Bool := Nat.beq row.length 6 && (decide (row.getD 0 (0, 0) = ((n : Int), (n : Int))) && ((List.range n).all (fun t => decide (row.getD (1 + a.getD t 0) (0, 0) = ((t : Int), (t : Int)))) && (List.range 5).all (fun i => Nat.ble (i + 1) n || decide (row.getD (1 + i) (0, 0) = (0, 4)))))
def rr_b (n : Nat) (a : List Nat) : Bool := (List.range n).all (fun i => (List.range n).any fun t => Nat.beq (a.getD t 0) i) && jxm_r5.any (rr_m n a)
theorem rr_0 : rr_b 0 [] = true := by decide +kernel
theorem rr_1 : rr_b 1 [0] = true := by decide +kernel
set_option maxRecDepth 1000000 in
theorem rr_2 : ∀ a0 a1 : Fin 2, (a1.val ≠ a0.val) → rr_b 2 [a0.val, a1.val] = true := by decide +kernel
set_option maxRecDepth 1000000 in
theorem rr_3 : ∀ a0 a1 a2 : Fin 3, (a1.val ≠ a0.val ∧ a2.val ≠ a0.val ∧ a2.val ≠ a1.val) → rr_b 3 [a0.val, a1.val, a2.val] = true := by decide +kernel
set_option maxRecDepth 1000000 in
theorem rr_4 : ∀ a0 a1 a2 a3 : Fin 4, (a1.val ≠ a0.val ∧ a2.val ≠ a0.val ∧ a2.val ≠ a1.val ∧ a3.val ≠ a0.val ∧ a3.val ≠ a1.val ∧ a3.val ≠ a2.val) → rr_b 4 [a0.val, a1.val, a2.val, a3.val] = true := by decide +kernel
set_option maxRecDepth 1000000 in
theorem rr_5 : ∀ a0 a1 a2 a3 a4 : Fin 5, (a1.val ≠ a0.val ∧ a2.val ≠ a0.val ∧ a2.val ≠ a1.val ∧ a3.val ≠ a0.val ∧ a3.val ≠ a1.val ∧ a3.val ≠ a2.val ∧ a4.val ≠ a0.val ∧ a4.val ≠ a1.val ∧ a4.val ≠ a2.val ∧ a4.val ≠ a3.val) → rr_b 5 [a0.val, a1.val, a2.val, a3.val, a4.val] = true := by decide +kernel
theorem rr_all {n : Nat} (hn : n ≤ 5) (a : Nat → Nat) (h1 : ∀ t, t < n → a t < n) (h2 : ∀ t u, t < n → u < n → t ≠ u → a t ≠ a u) : rr_b n ((List.range n).map a) = true := by
  match n, hn with
  | 0, _ => exact rr_0
  | 1, _ =>
    have e : a 0 = 0 := by have := h1 0 (by decide); omega
    show rr_b 1 [a 0] = true
    rw [e]
    exact rr_1
  | 2, _ =>
    exact rr_2 ⟨a 0, h1 0 (by decide)⟩ ⟨a 1, h1 1 (by decide)⟩ (h2 1 0 (by decide) (by decide) (by decide))
  | 3, _ =>
    exact rr_3 ⟨a 0, h1 0 (by decide)⟩ ⟨a 1, h1 1 (by decide)⟩ ⟨a 2, h1 2 (by decide)⟩ (by simp only []; exact ⟨h2 1 0 (by decide) (by decide) (by decide), h2 2 0 (by decide) (by decide) (by decide), h2 2 1 (by decide) (by decide) (by decide)⟩)
  | 4, _ =>
    exact rr_4 ⟨a 0, h1 0 (by decide)⟩ ⟨a 1, h1 1 (by decide)⟩ ⟨a 2, h1 2 (by decide)⟩ ⟨a 3, h1 3 (by decide)⟩ (by simp only []; exact ⟨h2 1 0 (by decide) (by decide) (by decide), h2 2 0 (by decide) (by decide) (by decide), h2 2 1 (by decide) (by decide) (by decide), h2 3 0 (by decide) (by decide) (by decide), h2 3 1 (by decide) (by decide) (by decide), h2 3 2 (by decide) (by decide) (by decide)⟩)
  | 5, _ =>
    exact rr_5 ⟨a 0, h1 0 (by decide)⟩ ⟨a 1, h1 1 (by decide)⟩ ⟨a 2, h1 2 (by decide)⟩ ⟨a 3, h1 3 (by decide)⟩ ⟨a 4, h1 4 (by decide)⟩ (by simp only []; exact ⟨h2 1 0 (by decide) (by decide) (by decide), h2 2 0 (by decide) (by decide) (by decide), h2 2 1 (by decide) (by decide) (by decide), h2 3 0 (by decide) (by decide) (by decide), h2 3 1 (by decide) (by decide) (by decide), h2 3 2 (by decide) (by decide) (by decide), h2 4 0 (by decide) (by decide) (by decide), h2 4 1 (by decide) (by decide) (by decide), h2 4 2 (by decide) (by decide) (by decide), h2 4 3 (by decide) (by decide) (by decide)⟩)
  | k + 6, h => exact absurd h (by omega)

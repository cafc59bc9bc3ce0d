/-! arrays copied and filled, at numbers; orders; rank() -/
theorem aC_len (x : Int32) (l0 l1 : List Int32) : (aC x l0 l1).length = l1.length := j_cpy_len _ _ _ _ _ _
theorem aC_gN {k j : Nat} {l0 l1 : List Int32} (hk : k < 2 ^ 31) (h1 : l1.length = k) (hj : j < k) : gN (aC (nI k) l0 l1) j = gN l0 j := by
  unfold gN aC j_cpy
  rw [nI_clamp hk, List.getD_eq_getElem?_getD, List.getElem?_mapIdx, List.getElem?_eq_getElem (by omega)]
  show (if 0 ≤ j ∧ j < 0 + k then l0.getD (0 + (j - 0)) 0 else _) = _
  rw [if_pos ⟨Nat.zero_le j, by omega⟩, show 0 + (j - 0) = j by omega]
/-- all of a row copied -/
theorem aC_eq {k : Nat} {l0 l1 : List Int32} (hk : k < 2 ^ 31) (h0 : l0.length = k) (h1 : l1.length = k) : aC (nI k) l0 l1 = l0 :=
  gN_ext (by rw [aC_len, h0, h1]) (fun j hj => aC_gN hk h1 (by rw [aC_len] at hj; omega))
theorem fLl_n {x : Int32} : ∀ (f i : Nat) (l : List Int32), i + f ≤ l.length → l.length < 2 ^ 31 → (fLl x f (nI i) l).length = l.length ∧ ∀ j, gN (fLl x f (nI i) l) j = if i ≤ j ∧ j < i + f then x else gN l j
  | 0, i, l, _, _ => ⟨rfl, fun j => by rw [if_neg (by omega)]; rfl⟩
  | f + 1, i, l, h, h31 => by
    unfold fLl
    rw [nI_1, sA_n (by omega)]
    obtain ⟨a, b⟩ := fLl_n (x := x) f (i + 1) (l.set i x) (by rw [List.length_set]; omega) (by rw [List.length_set]; exact h31)
    refine ⟨by rw [a, List.length_set], fun j => ?_⟩
    rw [b j]
    by_cases c : i + 1 ≤ j ∧ j < i + 1 + f
    · rw [if_pos c, if_pos (by omega)]
    · rw [if_neg c]
      by_cases d : j = i
      · rw [if_pos (by omega), d, gN_eq (by omega)]
      · rw [if_neg (by omega), gN_ne (fun z => d z.symm)]
theorem fL_len {x : Int32} {l : List Int32} (h : l.length < 2 ^ 31) : (fL x l).length = l.length := by
  unfold fL
  rw [lpN_n0 h]
  exact (fLl_n l.length 0 l (by omega) h).1
theorem fL_gN {x : Int32} {l : List Int32} (h : l.length < 2 ^ 31) {j : Nat} (hj : j < l.length) : gN (fL x l) j = x := by
  unfold fL
  rw [lpN_n0 h, show (0 : Int32) = nI 0 from rfl, (fLl_n l.length 0 l (by omega) h).2 j, if_pos (by omega)]
/-- an order of n trains -/
def prm (n : Nat) (l : List Int32) : Prop := (∀ k, k < n → ∃ t, t < n ∧ gN l k = nI t) ∧ ∀ j k, j < n → k < n → gN l j = gN l k → j = k
theorem pig (n : Nat) (h5 : n ≤ 5) (a : Nat → Nat) (h : ∀ k, k < n → a k < n) (hi : ∀ j k, j < n → k < n → a j = a k → j = k) (t : Nat) (ht : t < n) : ∃ k, k < n ∧ a k = t := by
  have e := fun k (hk : k < n) => h k hk
  have i := fun j k (h1 : j < n) (h2 : k < n) (hne : j ≠ k) => fun (z : a j = a k) => hne (hi j k h1 h2 z)
  match n, h5 with
  | 0, _ => omega
  | 1, _ => exact ⟨0, by omega, by have := e 0 (by omega); omega⟩
  | 2, _ =>
    have h0 := e 0 (by omega); have h1 := e 1 (by omega)
    have i1 : ¬ a 0 = a 1 := i 0 1 (by omega) (by omega) (by omega)
    rcases (show a 0 = t ∨ a 1 = t by omega) with z | z
    · exact ⟨0, by omega, z⟩
    · exact ⟨1, by omega, z⟩
  | 3, _ =>
    have h0 := e 0 (by omega); have h1 := e 1 (by omega); have h2 := e 2 (by omega)
    have i1 : ¬ a 0 = a 1 := i 0 1 (by omega) (by omega) (by omega); have i2 : ¬ a 0 = a 2 := i 0 2 (by omega) (by omega) (by omega); have i3 : ¬ a 1 = a 2 := i 1 2 (by omega) (by omega) (by omega)
    rcases (show a 0 = t ∨ a 1 = t ∨ a 2 = t by omega) with z | z | z
    · exact ⟨0, by omega, z⟩
    · exact ⟨1, by omega, z⟩
    · exact ⟨2, by omega, z⟩
  | 4, _ =>
    have key : ∀ p q r s t : Fin 4, p ≠ q → p ≠ r → p ≠ s → q ≠ r → q ≠ s → r ≠ s → p = t ∨ q = t ∨ r = t ∨ s = t := by decide +kernel
    have hne := fun j k (h1 : j < 4) (h2 : k < 4) (c : j ≠ k) => fun (z : (⟨a j, h j h1⟩ : Fin 4) = ⟨a k, h k h2⟩) => c (hi j k h1 h2 (congrArg Fin.val z))
    rcases key ⟨a 0, h 0 (by omega)⟩ ⟨a 1, h 1 (by omega)⟩ ⟨a 2, h 2 (by omega)⟩ ⟨a 3, h 3 (by omega)⟩ ⟨t, ht⟩ (hne 0 1 (by omega) (by omega) (by omega)) (hne 0 2 (by omega) (by omega) (by omega)) (hne 0 3 (by omega) (by omega) (by omega)) (hne 1 2 (by omega) (by omega) (by omega)) (hne 1 3 (by omega) (by omega) (by omega)) (hne 2 3 (by omega) (by omega) (by omega)) with z | z | z | z
    · exact ⟨0, by omega, congrArg Fin.val z⟩
    · exact ⟨1, by omega, congrArg Fin.val z⟩
    · exact ⟨2, by omega, congrArg Fin.val z⟩
    · exact ⟨3, by omega, congrArg Fin.val z⟩
  | 5, _ =>
    have key : ∀ p q r s u t : Fin 5, p ≠ q → p ≠ r → p ≠ s → p ≠ u → q ≠ r → q ≠ s → q ≠ u → r ≠ s → r ≠ u → s ≠ u → p = t ∨ q = t ∨ r = t ∨ s = t ∨ u = t := by decide +kernel
    have hne := fun j k (h1 : j < 5) (h2 : k < 5) (c : j ≠ k) => fun (z : (⟨a j, h j h1⟩ : Fin 5) = ⟨a k, h k h2⟩) => c (hi j k h1 h2 (congrArg Fin.val z))
    rcases key ⟨a 0, h 0 (by omega)⟩ ⟨a 1, h 1 (by omega)⟩ ⟨a 2, h 2 (by omega)⟩ ⟨a 3, h 3 (by omega)⟩ ⟨a 4, h 4 (by omega)⟩ ⟨t, ht⟩ (hne 0 1 (by omega) (by omega) (by omega)) (hne 0 2 (by omega) (by omega) (by omega)) (hne 0 3 (by omega) (by omega) (by omega)) (hne 0 4 (by omega) (by omega) (by omega)) (hne 1 2 (by omega) (by omega) (by omega)) (hne 1 3 (by omega) (by omega) (by omega)) (hne 1 4 (by omega) (by omega) (by omega)) (hne 2 3 (by omega) (by omega) (by omega)) (hne 2 4 (by omega) (by omega) (by omega)) (hne 3 4 (by omega) (by omega) (by omega)) with z | z | z | z | z
    · exact ⟨0, by omega, congrArg Fin.val z⟩
    · exact ⟨1, by omega, congrArg Fin.val z⟩
    · exact ⟨2, by omega, congrArg Fin.val z⟩
    · exact ⟨3, by omega, congrArg Fin.val z⟩
    · exact ⟨4, by omega, congrArg Fin.val z⟩
section PW
variable {n S : Nat} {w w' ph sp ce ri du cm lf pfa prs prr tra len frm tto wei fit way rid lon rk sta he lkd sea row us pms pmm pmt pst pwa rk' od be : List Int32} {shu bus cel mi pk pev lks sst th sst' acs : Int32} {kp : List Int32} {t : Nat}
theorem prm.sur (P : prm n od) (h5 : n ≤ 5) {t : Nat} (ht : t < n) : ∃ k, k < n ∧ gN od k = nI t := by
  have e := fun k (hk : k < n) => P.1 k hk
  obtain ⟨k, hk, z⟩ := pig n h5 (fun k => nV (gN od k)) (fun k hk => by
    obtain ⟨t, h1, h2⟩ := e k hk
    show nV (gN od k) < n
    rw [h2, nV_n (by omega)]; exact h1) (fun j k hj hk z => by
    obtain ⟨t, h1, h2⟩ := e j hj
    obtain ⟨u, h3, h4⟩ := e k hk
    refine P.2 j k hj hk ?_
    have z : nV (gN od j) = nV (gN od k) := z
    rw [h2, h4, nV_n (by omega), nV_n (by omega)] at z
    rw [h2, h4, z]) t ht
  obtain ⟨u, h3, h4⟩ := e k hk
  have z : nV (gN od k) = t := z
  rw [h4, nV_n (by omega)] at z
  exact ⟨k, hk, by rw [h4, z]⟩
theorem pw_n : ∀ (f i : Nat) (w : List Int32), i + f ≤ 5 → w.length = 602 → (m_pw od f i w).length = 602 ∧ ∀ j, gN (m_pw od f i w) j = if 196 + i ≤ j ∧ j < 196 + i + f then gN od (j - 196) else gN w j
  | 0, i, w, _, hl => ⟨hl, fun j => by rw [if_neg (by omega)]; rfl⟩
  | f + 1, i, w, h, hl => by
    unfold m_pw
    rw [show (196 : Int32) + nI i = nI (196 + i) from nI_add 196 i, sA_n (by omega), gA_n (by omega)]
    obtain ⟨a, b⟩ := pw_n f (i + 1) (w.set (196 + i) (gN od i)) (by omega) (by rw [List.length_set]; exact hl)
    refine ⟨a, fun j => ?_⟩
    rw [b j]
    by_cases c : 196 + (i + 1) ≤ j ∧ j < 196 + (i + 1) + f
    · rw [if_pos c, if_pos (by omega)]
    · rw [if_neg c]
      by_cases d : j = 196 + i
      · rw [if_pos (by omega), d, gN_eq (by omega), show 196 + i - 196 = i by omega]
      · rw [if_neg (by omega), gN_ne (fun z => d z.symm)]
theorem prm.wRk (P : prm n od) (h5 : n ≤ 5) (hl : w.length = 602) : wRk n (m_pw od n 0 w) := by
  have g : ∀ k, k < n → gN (m_pw od n 0 w) (196 + k) = gN od k := fun k hk => by
    rw [(pw_n n 0 w (by omega) hl).2, if_pos (by omega), show 196 + k - 196 = k by omega]
  refine ⟨fun k hk => ?_, fun t ht => ?_, fun j k hj hk e => ?_⟩
  · rw [g k hk]; exact P.1 k hk
  · obtain ⟨k, hk, z⟩ := P.sur h5 ht
    exact ⟨k, hk, by rw [g k hk]; exact z⟩
  · rw [g j hj, g k hk] at e
    exact P.2 j k hj hk e
/-- an order is told -/
theorem rV.pw (V : rV n S w shu lks rk sta he lkd pk sea row bus ph sp ce du ri cm lf pfa pev prs prr mi us pms pmm pmt pst pwa) (P : prm n od) (hr : ∀ k, k < n → gN rk' k = gN od k) : rV n S (m_pw od n 0 w) shu lks rk' sta he lkd pk sea row bus ph sp ce du ri cm lf pfa pev prs prr mi us pms pmm pmt pst pwa := by
  have H := V.1
  have h5 := H.n5
  have hl := H.len
  obtain ⟨a, b⟩ := pw_n (od := od) n 0 w (by omega) hl
  refine V.ranks a (fun j hj => by rw [b j, if_neg (by omega)]) (P.wRk h5 hl) (fun k hk => ?_)
  rw [hr k hk, b, if_pos (by omega), show 196 + k - 196 = k by omega]
theorem pw_aF (hn : n ≤ 5) (hl : w.length = 602) : aF (m_pw od n 0 w) w := by
  obtain ⟨a, b⟩ := pw_n (od := od) n 0 w (by omega) hl
  exact ⟨a, fun j hj => by rw [b j, if_neg (fun z => hj (Or.inr (Or.inl (by omega))))]⟩
end PW

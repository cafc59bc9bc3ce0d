/-! acts: shut -/
section SH
variable {n S : Nat} {w w' ph sp ce ri du cm lf pfa prs prr tra len frm tto wei fit way rid lon rk sta he lkd sea row us pms pmm pmt pst pwa : List Int32} {shu bus cel mi pk pev lks sst th sst' acs : Int32} {kp : List Int32} {t : Nat}
theorem bTn_i (b : Bool) : (if b = true then (1 : Int32) else 0) = nI (bTn b) := by cases b <;> rfl
theorem frO (H : wg n S w) {s : Nat} (hs : s < 7) : m_freeOnes w (nI s) = nI (bTn (frT n w s 0) + bTn (frT n w s 1) + bTn (frT n w s 2)) := by
  have hw := H.St hs
  unfold m_freeOnes
  rw [m_st1 (by omega), hw.1, lpN_n0 (by have := hw.2.1; omega)]
  have out : ∀ k, ¬ k < mN w s → frT n w s k = false := fun k hk => by unfold frT; rw [decide_eq_false hk, Bool.false_and]
  have f0 := frM H (s := s) (k := 0) (by omega)
  have f1 := frM H (s := s) (k := 1) (by omega)
  have f2 := frM H (s := s) (k := 2) (by omega)
  rw [bTn_i] at f0 f1 f2
  rcases (show mN w s = 0 ∨ mN w s = 1 ∨ mN w s = 2 ∨ mN w s = 3 by have := hw.2.1; omega) with h | h | h | h <;> rw [h] at f0 f1 f2 out ⊢
  · rw [out 0 (by omega), out 1 (by omega), out 2 (by omega)]
    rfl
  · rw [out 1 (by omega), out 2 (by omega)]
    show (0 : Int32) + (if m_isFree w (nI s) (nI 0) = 0 then 0 else 1) = _
    rw [f0 (by omega), Int32.zero_add]
    rfl
  · rw [out 2 (by omega)]
    show (0 : Int32) + (if m_isFree w (nI s) (nI 0) = 0 then 0 else 1) + (if m_isFree w (nI s) (nI 1) = 0 then 0 else 1) = _
    rw [f0 (by omega), f1 (by omega), Int32.zero_add, nI_add]
    rfl
  · show (0 : Int32) + (if m_isFree w (nI s) (nI 0) = 0 then 0 else 1) + (if m_isFree w (nI s) (nI 1) = 0 then 0 else 1) + (if m_isFree w (nI s) (nI 2) = 0 then 0 else 1) = _
    rw [f0 (by omega), f1 (by omega), f2 (by omega), Int32.zero_add, nI_add, nI_add]
theorem bs_z {p : Nat → Bool} {a : Nat} (h : ∀ c, a ≤ c → p c = false) : ∀ d, bs (a + d) p = bs a p
  | 0 => rfl
  | d + 1 => by
    show bs (a + d) p + bTn (p (a + d)) = _
    rw [h (a + d) (by omega), bs_z h d]
    rfl
theorem bs_zl {p : Nat → Bool} {a b : Nat} (h : ∀ c, a ≤ c → c < b → p c = false) (hab : a ≤ b) : bs b p = bs a p := by
  obtain ⟨d, rfl⟩ : ∃ d, b = a + d := ⟨b - a, by omega⟩
  clear hab
  induction d with
  | zero => rfl
  | succ d ih =>
    show bs (a + d) p + bTn (p (a + d)) = _
    rw [h (a + d) (by omega) (by omega), ih (fun c h1 h2 => h c h1 (by omega))]
    rfl
theorem shut_l (H : wg n S w) {v1 v2 v3 v4 : Int32} {p : Nat → Bool} (hp : ∀ s k, s < S → k < 3 → p (3 * s + k) = frT n w s k) : ∀ (f i : Nat), i + f = S → m_shut_l70 v1 v2 v3 v4 f (nI i) (nI (bs (3 * i) p)) th sst' acs kp w = (nI (bs (3 * S) p), 0, 0, acs, kp, w)
  | 0, i, e => by
    have e : i = S := by omega
    rw [e]
    rfl
  | f + 1, i, e => by
    have hS := H.S7
    unfold m_shut_l70
    have e3 : bs (3 * (i + 1)) p = bs (3 * i) p + (bTn (frT n w i 0) + bTn (frT n w i 1) + bTn (frT n w i 2)) := by
      rw [show 3 * (i + 1) = 3 * i + 1 + 1 + 1 by omega]
      show bs (3 * i) p + bTn (p (3 * i)) + bTn (p (3 * i + 1)) + bTn (p (3 * i + 2)) = _
      rw [show p (3 * i) = frT n w i 0 from hp i 0 (by omega) (by decide), hp i 1 (by omega) (by decide), hp i 2 (by omega) (by decide)]
      omega
    rw [nI_1, frO H (by omega), nI_add, ← e3]
    exact shut_l H hp f (i + 1) (by omega)
theorem ea_shut (V : rV n S w shu lks rk sta he lkd pk sea row bus ph sp ce du ri cm lf pfa pev prs prr mi us pms pmm pmt pst pwa) (Y : qY n S w tra len frm tto wei fit way rid lon cel) (x1 x2 x3 : Int32) (hx3 : x3 = 0 ∨ x3 = 1) :
    eA (x_ashut shu bus (nI S) cel tra sst x1 x2 x3).1 (x_ashut shu bus (nI S) cel tra sst x1 x2 x3).2.1 (x_ashut shu bus (nI S) cel tra sst x1 x2 x3).2.2.2 (m_shut th sst' acs w kp x1 x2 x3) acs kp w ((x_ashut shu bus (nI S) cel tra sst x1 x2 x3).2.2.1 = shu) (fun w' => rV n S w' (x_ashut shu bus (nI S) cel tra sst x1 x2 x3).2.2.1 lks rk sta he lkd pk sea row bus ph sp ce du ri cm lf pfa pev prs prr mi us pms pmm pmt pst pwa ∧ qY n S w' tra len frm tto wei fit way rid lon cel) := by
  have H := V.1
  have h5 := H.n5
  have hS := H.S7
  have O := V.2.2.1
  have U := V.2.2.2.1
  unfold x_ashut m_shut
  rw [g_track H.g Y]
  by_cases c1 : m_isTrack w x1 x2 = 0
  · rw [if_pos c1, if_pos c1]; exact ⟨rfl, rfl, Or.inl ⟨rfl, rfl, rfl⟩⟩
  rw [if_neg c1, if_neg c1]
  obtain ⟨s, k, hs, hk, rfl, rfl⟩ := (track_n H.g).mp c1
  have hw := H.St (s := s) (by omega)
  have hm := hw.2.1
  have hv := hw.2.2 k (by omega)
  have e3 : (if x3 = 0 then (0 : Int32) else 1) = x3 := by
    rcases hx3 with rfl | rfl
    · rfl
    · exact if_neg (by decide)
  have eb : (if (shu &&& (1 <<< (nI (3 * s + k) &&& 31))) = 0 then (0 : Int32) else 1) = fs w s (5 + k) := by
    have u := U s k (by omega) (by omega)
    have z : (shu &&& (1 <<< (nI (3 * s + k) &&& 31))) = 0 ↔ ¬ tb shu (3 * s + k) = true := by
      rw [and_0]
      constructor
      · intro h q
        exact h (3 * s + k) (by omega) ⟨q, by rw [tb_one (by omega) (by omega)]; exact decide_eq_true rfl⟩
      · rintro h c hc ⟨q1, q2⟩
        rw [tb_one (by omega) hc, decide_eq_true_iff] at q2
        rw [← q2] at q1
        exact h q1
    rcases hv with v | v
    · rw [if_pos (z.mpr (fun q => by rw [u, v] at q; exact absurd q (by decide))), v]
    · rw [if_neg (fun q => z.mp q (u.mpr v)), v]
  have ei : (8 : Int32) * nI s + 5 + nI k = nI (8 * s + (5 + k)) := by
    show nI 8 * nI s + nI 5 + nI k = _
    rw [nI_mul, nI_add, nI_add]
    congr 1
    omega
  rw [i3x, e3, m_st5 (by omega) (by omega), ei, sA_n (by omega), show (if (shu &&& (1 <<< (nI (3 * s + k) &&& 31))) = 0 then (0 : Int32) else 1) = fs w s (5 + k) from eb]
  by_cases c2 : fs w s (5 + k) = x3
  · rw [if_pos c2, if_pos c2]; exact ⟨rfl, rfl, Or.inl ⟨rfl, rfl, rfl⟩⟩
  rw [if_neg c2, if_neg c2]
  dsimp only
  have hlw := H.len
  have F : aF (w.set (8 * s + (5 + k)) x3) w := aF.set hlw (Or.inr (Or.inr (Or.inr (by omega))))
  have ne : ∀ j, j ≠ 8 * s + (5 + k) → gN (w.set (8 * s + (5 + k)) x3) j = gN w j := fun j hj => gN_ne (fun z => hj z.symm)
  have eq : gN (w.set (8 * s + (5 + k)) x3) (8 * s + (5 + k)) = x3 := gN_eq (by omega)
  have W : wf n S (w.set (8 * s + (5 + k)) x3) := by
    refine H.aF F (fun s' k' h1 h2 => ?_) (H.R.same h5 (fun j _ _ => ne j (by omega))) ?_
    · by_cases c : s' = s ∧ k' = k
      · rw [c.1, c.2, show fs (w.set (8 * s + (5 + k)) x3) s (5 + k) = x3 from eq]; exact hx3
      · rw [show fs (w.set (8 * s + (5 + k)) x3) s' (5 + k') = fs w s' (5 + k') from ne _ (by omega)]
        exact (H.St h1).2.2 k' h2
    · obtain ⟨m, g1, g2, g3⟩ := H.L
      refine ⟨m, g1, by rw [ne 296 (by omega)]; exact g2, fun j hj => ?_⟩
      obtain ⟨a, b, q, g4, g5, g6, g7, g8, g9, g10⟩ := g3 j hj
      exact ⟨a, b, q, g4, g5, g6, g7, by rw [ne _ (by omega)]; exact g8, by rw [ne _ (by omega)]; exact g9, by rw [ne _ (by omega)]; exact g10⟩
  have U' : rU (w.set (8 * s + (5 + k)) x3) (shu ^^^ (1 <<< (nI (3 * s + k) &&& 31))) := fun s' k' h1 h2 => by
    rw [tb_xor, tb_one (by omega) (by omega)]
    have u := U s' k' h1 h2
    by_cases c : s' = s ∧ k' = k
    · obtain ⟨rfl, rfl⟩ := c
      rw [show fs (w.set (8 * s' + (5 + k')) x3) s' (5 + k') = x3 from eq, decide_eq_true rfl, Bool.xor_true, Bool.not_eq_true', ← Bool.not_eq_true, u]
      rcases hv with v | v <;> rcases hx3 with x | x <;> rw [v, x] at c2 ⊢
      · exact absurd rfl c2
      · decide
      · decide
      · exact absurd rfl c2
    · rw [show fs (w.set (8 * s + (5 + k)) x3) s' (5 + k') = fs w s' (5 + k') from ne _ (by omega), decide_eq_false (by omega), Bool.xor_false]
      exact u
  have V' := V.aF F W (V.2.1.2.2.2.1.aF F h5 (fun u hu => ne _ (by omega))) (O.set F h5 (fun j _ _ => ne j (by omega)) (fun j _ _ => ne j (by omega)) (H.qlk O) (fun u hu => by rw [show ft (w.set (8 * s + (5 + k)) x3) u 3 = ft w u 3 from ne _ (by omega)]; exact (O.2.2.1 u hu).1) (fun u hu => by rw [show ft (w.set (8 * s + (5 + k)) x3) u 10 = ft w u 10 from ne _ (by omega)]; exact (O.2.2.1 u hu).2)) U'
  have Y' := Y.aF F H.g W.g
  generalize w.set (8 * s + (5 + k)) x3 = w1 at V' Y' W
  generalize shu ^^^ (1 <<< (nI (3 * s + k) &&& 31)) = shu1 at V' ⊢
  have fr := fun (s' k' : Nat) (h1 : s' < S) (h2 : k' < 3) => frC W.g V'.2.1.2.1 V'.2.2.2.1 Y' h1 h2
  have top : ∀ c, 3 * S ≤ c → c < 32 → tb (x_freeCells shu1 bus cel) c = false := fun c h1 h2 => by
    unfold x_freeCells
    rw [tb_and, tb_and]
    have : tb cel c = false := by
      rw [← Bool.not_eq_true, Y'.pcel h2]
      rintro ⟨-, q, -⟩
      omega
    rw [this]
    rfl
  have e9 : m_shut_l70 (nI s) (nI k) x3 x3 S 0 0 th sst' (m_keeps acs w kp).2 (m_keeps acs w kp).1 w1 = (nI (bs (3 * S) (tb (x_freeCells shu1 bus cel))), 0, 0, (m_keeps acs w kp).2, (m_keeps acs w kp).1, w1) := shut_l W.g fr S 0 (Nat.zero_add S)
  rw [W.gs, lpN_n0 (by omega), e9]
  refine ⟨?_, rfl, Or.inr ⟨rfl, rfl, rfl, V', Y'⟩⟩
  show x_bitCount (x_freeCells shu1 bus cel) = nI (bs (3 * S) (tb (x_freeCells shu1 bus cel)))
  rw [bc_bits (fun c h1 h2 => top c (by omega) h2), bs_zl (a := 3 * S) (b := 24) (fun c h1 h2 => top c h1 (by omega)) (by omega)]
end SH

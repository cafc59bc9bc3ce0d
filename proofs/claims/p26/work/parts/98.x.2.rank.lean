/-! rank(): the digits read on both sides -/
theorem div10 {r : Nat} (h : r < 2 ^ 31) : nI r / 10 = nI (r / 10) := by
  apply Int32.toInt_inj.mp
  rw [Int32.toInt_div, nI_toInt h, nI_toInt (by omega), show (10 : Int32).toInt = 10 from rfl, show ((r : Int).tdiv 10) = ((r / 10 : Nat) : Int) from rfl, Int.bmod_eq_of_le (by omega) (by omega)]
theorem mod10 {r : Nat} (h : r < 2 ^ 31) : nI r - nI r / 10 * 10 = nI (r % 10) := by
  rw [div10 h]
  have e : nI (r / 10) * 10 = nI (r / 10 * 10) := nI_mul (r / 10) 10
  rw [e, sub_nI (by omega)]
  congr 1
  omega
/-- how many places are told alike -/
def cE (a b : Nat → Int32) : Nat → Nat
  | 0 => 0
  | j + 1 => cE a b j + (if a j = b j then 1 else 0)
theorem cE_congr {a b a' b' : Nat → Int32} : ∀ {n : Nat}, (∀ k, k < n → a k = a' k ∧ b k = b' k) → cE a b n = cE a' b' n
  | 0, _ => rfl
  | n + 1, h => by
    unfold cE
    rw [cE_congr fun k hk => h k (by omega), (h n (by omega)).1, (h n (by omega)).2]
theorem cE_le {a b : Nat → Int32} : ∀ n, cE a b n ≤ n
  | 0 => Nat.le_refl 0
  | n + 1 => by
    have := cE_le (a := a) (b := b) n
    unfold cE
    split <;> omega
theorem same_l {rk be : List Int32} {n : Nat} (h5 : n ≤ 5) (hb : be.length = 5) : ∀ (f i : Nat), i + f = n → x_sameInRank_l4 rk be f (nI i) (nI (cE (gN rk) (gN be) i)) = nI (cE (gN rk) (gN be) n)
  | 0, i, e => by
    have : i = n := by omega
    rw [this]; rfl
  | f + 1, i, e => by
    unfold x_sameInRank_l4
    rw [hb, if_pos (show nI i < nI 5 from nI_lt (by omega) (by omega)), nI_1, gA_n (by omega), gA_n (by omega)]
    have ih := same_l (rk := rk) h5 hb f (i + 1) (by omega)
    have e2 : cE (gN rk) (gN be) (i + 1) = cE (gN rk) (gN be) i + (if gN rk i = gN be i then 1 else 0) := rfl
    by_cases c : gN rk i = gN be i
    · rw [if_pos c] at e2 ⊢
      rw [nI_1, ← e2]; exact ih
    · rw [if_neg c] at e2 ⊢
      rw [e2] at ih
      exact ih
theorem same_n {rk be : List Int32} {n : Nat} (h5 : n ≤ 5) (hb : be.length = 5) : x_sameInRank rk (nI n) be = nI (cE (gN rk) (gN be) n) := by
  unfold x_sameInRank
  rw [lpN_n0 (by omega)]
  exact same_l h5 hb n 0 (Nat.zero_add n)
section RK
variable {n S : Nat} {w : List Int32}
theorem pl_lt {j : Nat} (h : j < 100) : (nI j - 1 < 0) ↔ j = 0 := by
  rw [Int32.lt_iff_toInt_lt, show (1 : Int32) = nI 1 from rfl, predn (by omega) (by decide), show (0 : Int32).toInt = 0 from rfl]
  omega
theorem pl_s (j : Nat) : nI (j + 1) - 1 = nI j := by
  rw [← nI_1]; exact Int32.add_sub_cancel _ _
theorem pl_m (j : Nat) : nI j + (-1) = nI j - 1 := (Int32.sub_eq_add_neg ..).symm
/-- both sides, behind the digits -/
def rkB (n : Nat) (w be od : List Int32) (j : Nat) (seen same : Int32) (X : Int32 × Int32 × List Int32) (M : Int32 × Int32 × Int32 × List Int32) : Prop :=
  (X.1 = 0 ∧ M.1 = 0) ∨ (X.1 = 1 ∧ M.1 = 1 ∧ X.2.1 = M.2.1 ∧ (X.2.2.length = 5 ∧ M.2.2.2.length = 5) ∧ (∀ k, j ≤ k → gN X.2.2 k = gN be k ∧ gN M.2.2.2 k = gN od k) ∧
    (∀ k, k < j → gN X.2.2 k = gN M.2.2.2 k ∧ ∃ t, t < n ∧ gN X.2.2 k = nI t ∧ tb seen t = false) ∧ (∀ k l, k < j → l < j → gN X.2.2 k = gN X.2.2 l → k = l) ∧ M.2.2.1 = same + nI (cE (gN X.2.2) (fun k => gN w (196 + k)) j))
theorem rk_l (H : wg n S w) : ∀ (j f : Nat) (seen same : Int32) (r : Nat) (be od : List Int32), j ≤ f → j ≤ n → r < 2 ^ 31 → be.length = 5 → od.length = 5 → rkB n w be od j seen same (x_rkl (nI n) f seen (nI r) (nI j - 1) be) (m_rk22 w f seen (nI r) same (nI j - 1) od)
  | 0, f, seen, same, r, be, od, hf, hn, hr, hb, ho => by
    have c : (nI 0 - 1 : Int32) < 0 := (pl_lt (by omega)).mpr rfl
    have e1 : x_rkl (nI n) f seen (nI r) (nI 0 - 1) be = (1, nI r, be) := by
      cases f with
      | zero => rfl
      | succ f => unfold x_rkl; rw [if_pos c]
    have e2 : m_rk22 w f seen (nI r) same (nI 0 - 1) od = (1, nI r, same, od) := by
      cases f with
      | zero => rfl
      | succ f => unfold m_rk22; rw [if_pos c]
    rw [e1, e2]
    exact Or.inr ⟨rfl, rfl, rfl, ⟨hb, ho⟩, fun k _ => ⟨rfl, rfl⟩, fun k hk => absurd hk (by omega), fun k l hk => absurd hk (by omega), (Int32.add_zero _).symm⟩
  | j + 1, 0, seen, same, r, be, od, hf, hn, hr, hb, ho => absurd hf (by omega)
  | j + 1, f + 1, seen, same, r, be, od, hf, hn, hr, hb, ho => by
    have h5 := H.n5
    have hd : r % 10 < 10 := Nat.mod_lt _ (by decide)
    unfold x_rkl m_rk22
    rw [pl_s, if_neg (nI_pos (by omega)), if_neg (nI_pos (by omega)), if_neg (show ¬ nI r < 0 from nI_pos (by omega)), mod10 hr, div10 hr, sA_n (by omega), sA_n (by omega), gA_n (by omega), gN_eq (by omega), pl_m]
    by_cases c1 : r % 10 < n
    · rw [if_pos ((nI_ltI (by omega) (by omega)).mpr c1), if_neg ((isTrain_n H).mpr ⟨_, c1, rfl⟩), tb_bit (by omega)]
      cases c2 : tb seen (r % 10)
      · rw [if_neg (show ¬ false = true by decide), if_pos rfl, if_neg (show ¬ (0 : Int32) = 1 by decide)]
        have e9 : (196 : Int32) + nI j = nI (196 + j) := nI_add 196 j
        rw [e9, gA_n (by omega)]
        have ih := rk_l H j f (seen ||| (1 <<< (nI (r % 10) &&& 31))) (same + (if nI (r % 10) = gN w (196 + j) then 1 else 0)) (r / 10) (be.set j (nI (r % 10))) (od.set j (nI (r % 10))) (by omega) (by omega) (by omega) (by rw [List.length_set]; exact hb) (by rw [List.length_set]; exact ho)
        rcases ih with ih | ⟨i1, i2, i3, i4, i5, i6, i7, i8⟩
        · exact Or.inl ih
        · have hj := i5 j (Nat.le_refl j)
          rw [gN_eq (by omega), gN_eq (by omega)] at hj
          refine Or.inr ⟨i1, i2, i3, i4, fun k hk => ?_, fun k hk => ?_, fun k l hk hl e => ?_, ?_⟩
          · have := i5 k (by omega)
            rw [gN_ne (by omega), gN_ne (by omega)] at this
            exact this
          · by_cases c : k = j
            · rw [c, hj.1, hj.2]
              exact ⟨rfl, _, c1, rfl, c2⟩
            · obtain ⟨a, t, b1, b2, b3⟩ := i6 k (by omega)
              refine ⟨a, t, b1, b2, ?_⟩
              rw [tb_or, Bool.or_eq_false_iff] at b3
              exact b3.1
          · have key : ∀ k, k < j → ¬ gN (x_rkl (nI n) f (seen ||| (1 <<< (nI (r % 10) &&& 31))) (nI (r / 10)) (nI j - 1) (be.set j (nI (r % 10)))).2.2 k = nI (r % 10) := fun k hk z => by
              obtain ⟨a, t, b1, b2, b3⟩ := i6 k hk
              rw [z] at b2
              have := (nI_eq (by omega) (by omega)).mp b2
              rw [tb_or, ← this, tb_one (by omega) (by omega), decide_eq_true rfl, Bool.or_true] at b3
              cases b3
            by_cases k1 : k = j
            · by_cases l1 : l = j
              · omega
              · rw [k1, hj.1] at e
                exact absurd e.symm (key l (by omega))
            · by_cases l1 : l = j
              · rw [l1, hj.1] at e
                exact absurd e (key k (by omega))
              · exact i7 k l (by omega) (by omega) e
          · rw [i8, Int32.add_assoc]
            congr 1
            show _ = nI (cE _ _ j + (if gN _ j = gN w (196 + j) then 1 else 0))
            rw [hj.1, ← nI_add, Int32.add_comm]
            congr 1
            split <;> rfl
      · rw [if_pos rfl, if_neg (show ¬ (1 : Int32) = 0 by decide), if_pos rfl]
        exact Or.inl ⟨rfl, rfl⟩
    · rw [if_neg (fun z => c1 ((nI_ltI (by omega) (by omega)).mp z))]
      have : m_isTrain w (nI (r % 10)) = 0 := by
        by_cases z : m_isTrain w (nI (r % 10)) = 0
        · exact z
        · obtain ⟨t, h1, h2⟩ := (isTrain_n H).mp z
          have := (nI_eq (by omega) (by omega)).mp h2
          omega
      rw [if_pos this]
      exact Or.inl ⟨rfl, rfl⟩
end RK
theorem rkl_len {x2 : Int32} : ∀ (f : Nat) (a b c : Int32) (l : List Int32), (x_rkl x2 f a b c l).2.2.length = l.length
  | 0, _, _, _, _ => rfl
  | f + 1, a, b, c, l => by
    unfold x_rkl
    split
    · rfl
    · split
      · split
        · rw [rkl_len f]
          exact List.length_set ..
        · rfl
      · rfl
section ER
variable {n S : Nat} {w ph sp ce ri du cm lf pfa prs prr rk sta he lkd sea row us pms pmm pmt pst pwa od bst : List Int32} {shu bus mi pk pev lks th sst' acs : Int32} {kp : List Int32}
/-- rank(): refused alike, or told alike -/
theorem ea_rank (V : rV n S w shu lks rk sta he lkd pk sea row bus ph sp ce du ri cm lf pfa pev prs prr mi us pms pmm pmt pst pwa) (hb : bst.length = 5) (ho : od.length = 5) (x1 : Int32) :
    (x_readRank bst x1 (nI n)).2.length = 5 ∧ (((x_readRank bst x1 (nI n)).1 = 0 ∧ m_rank n th sst' acs w kp od x1 = (-1, 0, 1, acs, w, kp)) ∨
    (¬ (x_readRank bst x1 (nI n)).1 = 0 ∧ ((x_sameInRank rk (nI n) (x_readRank bst x1 (nI n)).2 = nI n ∧ m_rank n th sst' acs w kp od x1 = (-1, 0, 4, acs, w, kp)) ∨
    (¬ x_sameInRank rk (nI n) (x_readRank bst x1 (nI n)).2 = nI n ∧ ∃ od', m_rank n th sst' acs w kp od x1 = (x_sameInRank rk (nI n) (x_readRank bst x1 (nI n)).2, 0, 0, (m_keeps acs w kp).2, m_pw od' n 0 w, (m_keeps acs w kp).1) ∧ prm n od' ∧ ∀ k, k < n → gN (x_readRank bst x1 (nI n)).2 k = gN od' k)))) := by
  have H := V.1
  have h5 := H.n5
  have hgn : gA w 203 = nI n := H.gn
  have f5 : (fL 0 bst).length = 5 := by rw [fL_len (by omega)]; exact hb
  by_cases cn : x1 < 0
  · -- below 0: refused
    have eX : x_readRank bst x1 (nI n) = (0, bst) := by unfold x_readRank; rw [if_pos cn]
    rw [eX]
    refine ⟨hb, Or.inl ⟨rfl, ?_⟩⟩
    unfold m_rank
    rw [hgn]
    rcases Nat.eq_zero_or_pos n with z | z
    · subst z
      have e2 : m_rk22 w 5 0 x1 0 (nI 0 - 1) od = (1, x1, 0, od) := by
        unfold m_rk22; rw [if_pos ((pl_lt (by omega)).mpr rfl)]
      rw [e2]
      have : ¬ x1 = 0 := fun z => by rw [z] at cn; exact absurd cn (by decide)
      rw [if_neg (show ¬ (1 : Int32) = 0 by decide), if_neg this]
      rfl
    · have e2 : (m_rk22 w 5 0 x1 0 (nI n - 1) od).1 = 0 := by
        obtain ⟨j, rfl⟩ : ∃ j, n = j + 1 := ⟨n - 1, by omega⟩
        unfold m_rk22
        rw [pl_s, if_neg (nI_pos (by omega)), if_pos cn, sA_n (by omega), gA_n (by omega), gN_eq (by omega)]
        have : m_isTrain w (-1) = 0 := by
          by_cases z : m_isTrain w (-1) = 0
          · exact z
          · obtain ⟨t, h1, h2⟩ := (isTrain_n H.g).mp z
            exact absurd h2.symm (nI_nn (by omega))
        rw [if_pos this]
      rw [if_pos e2]
      rfl
  · obtain ⟨r, hr, rfl⟩ : ∃ r, r < 2 ^ 31 ∧ x1 = nI r := by
      have h2 := Int32.toInt_lt x1
      rw [Int32.lt_iff_toInt_lt, show (0 : Int32).toInt = 0 from rfl] at cn
      exact ⟨x1.toInt.toNat, by omega, Int32.toInt_inj.mp (by rw [nI_toInt (by omega)]; omega)⟩
    have B := rk_l H.g n 5 0 0 r (fL 0 bst) od (by omega) (Nat.le_refl n) hr f5 ho
    have eX : x_readRank bst (nI r) (nI n) = if (x_rkl (nI n) 5 0 (nI r) (nI n - 1) (fL 0 bst)).1 = 0 then (0, (x_rkl (nI n) 5 0 (nI r) (nI n - 1) (fL 0 bst)).2.2) else ((if (x_rkl (nI n) 5 0 (nI r) (nI n - 1) (fL 0 bst)).2.1 = 0 then 1 else 0), (x_rkl (nI n) 5 0 (nI r) (nI n - 1) (fL 0 bst)).2.2) := by
      unfold x_readRank
      rw [if_neg cn]
    have eM : m_rank n th sst' acs w kp od (nI r) = if (m_rk22 w 5 0 (nI r) 0 (nI n - 1) od).1 = 0 then (-1, 0, 1, acs, w, kp) else if (m_rk22 w 5 0 (nI r) 0 (nI n - 1) od).2.1 = 0 then (if (m_rk22 w 5 0 (nI r) 0 (nI n - 1) od).2.2.1 = nI n then (-1, 0, 4, acs, w, kp) else ((m_rk22 w 5 0 (nI r) 0 (nI n - 1) od).2.2.1, 0, 0, (m_keeps acs w kp).2, m_pw (m_rk22 w 5 0 (nI r) 0 (nI n - 1) od).2.2.2 n 0 w, (m_keeps acs w kp).1)) else (-1, 0, 1, acs, w, kp) := by
      unfold m_rank
      rw [hgn]
      rfl
    have hXl : (x_rkl (nI n) 5 0 (nI r) (nI n - 1) (fL 0 bst)).2.2.length = 5 := by rw [rkl_len, f5]
    generalize x_rkl (nI n) 5 0 (nI r) (nI n - 1) (fL 0 bst) = X at B eX hXl
    generalize m_rk22 w 5 0 (nI r) 0 (nI n - 1) od = M at B eM
    rcases B with ⟨b1, b2⟩ | ⟨b1, b2, b3, ⟨b4, b4'⟩, b5, b6, b7, b8⟩
    · rw [if_pos b1] at eX
      rw [if_pos b2] at eM
      rw [eX, eM]
      exact ⟨hXl, Or.inl ⟨rfl, rfl⟩⟩
    · rw [if_neg (by rw [b1]; decide)] at eX
      rw [if_neg (by rw [b2]; decide), ← b3] at eM
      have es : x_sameInRank rk (nI n) X.2.2 = M.2.2.1 := by
        rw [same_n h5 b4, b8, Int32.zero_add]
        congr 1
        have := cE_congr (a := gN rk) (b := gN X.2.2) (a' := fun k => gN w (196 + k)) (b' := gN X.2.2) (n := n) (fun k hk => ⟨V.2.2.1.2.1 k hk, rfl⟩)
        rw [this]
        have sym : ∀ (a b : Nat → Int32) m, cE a b m = cE b a m := fun a b m => by
          induction m with
          | zero => rfl
          | succ m ih =>
            unfold cE
            rw [ih]
            by_cases c : a m = b m
            · rw [if_pos c, if_pos c.symm]
            · rw [if_neg c, if_neg (fun z => c z.symm)]
        exact sym _ _ n
      by_cases c0 : X.2.1 = 0
      · rw [if_pos c0] at eX eM
        rw [eX, eM]
        refine ⟨hXl, Or.inr ⟨(show ¬ (1 : Int32) = 0 by decide), ?_⟩⟩
        dsimp only
        rw [es]
        by_cases c4 : M.2.2.1 = nI n
        · rw [if_pos c4]
          exact Or.inl ⟨c4, rfl⟩
        · rw [if_neg c4]
          refine Or.inr ⟨c4, M.2.2.2, rfl, ⟨fun k hk => ?_, fun j k hj hk e => ?_⟩, fun k hk => (b6 k hk).1⟩
          · obtain ⟨a, t, h1, h2, -⟩ := b6 k hk
            exact ⟨t, h1, by rw [← a]; exact h2⟩
          · rw [← (b6 j hj).1, ← (b6 k hk).1] at e
            exact b7 j k hj hk e
      · rw [if_neg c0] at eX eM
        rw [eX, eM]
        exact ⟨hXl, Or.inl ⟨rfl, rfl⟩⟩
end ER

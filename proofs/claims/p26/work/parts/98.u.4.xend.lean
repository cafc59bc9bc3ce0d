/-! the end of minutes: the class -/
section XE
variable {n S d : Nat} {w w0 ph sp ce ri tra len frm tto wei fit way rid lon : List Int32} {mi pk : Int32}
theorem x_trIn_l (H : wf n S w0) (P : rP n w0 ph sp ce) {s : Nat} (hs : s < 7) : ∀ (f i : Nat), i + f = n → x_trainsIn_l4 ph sp (nI s) f (nI i) (mk5 (fun u => decide (u < i) && inS w0 s u)) = mk5 (fun u => decide (u < n) && inS w0 s u)
  | 0, i, e => by
    have : i = n := by omega
    subst this
    rfl
  | f + 1, i, e => by
    have h5 := H.n5
    have hS := H.S7
    unfold x_trainsIn_l4
    rw [gA_n (by omega), gA_n (by omega), P.pph (by omega), nI_1]
    have e2 : (if ft w0 i 6 = 1 then (if gN sp i = nI s then (mk5 (fun u => decide (u < i) && inS w0 s u) ||| (1 <<< (nI i &&& 31))) else mk5 (fun u => decide (u < i) && inS w0 s u)) else mk5 (fun u => decide (u < i) && inS w0 s u)) = mk5 (fun u => decide (u < i + 1) && inS w0 s u) := by
      have no : inS w0 s i = false → mk5 (fun u => decide (u < i) && inS w0 s u) = mk5 (fun u => decide (u < i + 1) && inS w0 s u) := fun z => mk5_eq fun u _ => by
        by_cases c : u = i
        · rw [c, z, Bool.and_false, Bool.and_false]
        · rw [decide_eq_decide.mpr (show u < i ↔ u < i + 1 by omega)]
      by_cases c : ft w0 i 6 = 1
      · have h7 := (H.T (t := i) (by omega)).2.2.2.2.1 (by rw [c]; decide)
        rw [if_pos c, P.psp (by omega) (by rw [c]; decide), h7.1]
        by_cases c2 : atT w0 i = s
        · rw [c2, if_pos rfl, mk5_or (by omega)]
          refine mk5_eq fun u _ => ?_
          by_cases c3 : u = i
          · rw [c3, Nat.beq_eq.mpr rfl, Bool.or_true, decide_eq_true (show i < i + 1 by omega)]
            unfold inS
            rw [decide_eq_true c, c2, Nat.beq_eq.mpr rfl]; rfl
          · rw [show Nat.beq u i = false from Bool.eq_false_iff.mpr (fun z => c3 (Nat.beq_eq.mp z)), Bool.or_false, decide_eq_decide.mpr (show u < i ↔ u < i + 1 by omega)]
        · rw [if_neg (fun z => c2 ((nI_eq (by omega) (by omega)).mp z))]
          refine no ?_
          unfold inS
          rw [show Nat.beq (atT w0 i) s = false from Bool.eq_false_iff.mpr (fun z => c2 (Nat.beq_eq.mp z)), Bool.and_false]
      · rw [if_neg c]
        refine no ?_
        unfold inS
        rw [decide_eq_false c, Bool.false_and]
    rw [e2]
    exact x_trIn_l H P hs f (i + 1) (by omega)
theorem x_trIn (H : wf n S w0) (P : rP n w0 ph sp ce) {s : Nat} (hs : s < 7) : x_trainsIn ph sp (nI n) (nI s) = mk5 (fun u => decide (u < n) && inS w0 s u) := by
  unfold x_trainsIn
  have := H.n5
  rw [lpN_n0 (by omega)]
  have e0 : (0 : Int32) = mk5 (fun u => decide (u < 0) && inS w0 s u) := by
    rw [← mk5_none]
    exact mk5_eq fun u _ => by rw [decide_eq_false (Nat.not_lt_zero u)]; rfl
  have := x_trIn_l H P hs n 0 (Nat.zero_add n)
  rw [← e0] at this
  exact this
/-- a pair's three, as met, as not -/
def xD (w0 pms pmm pmt : List Int32) (t q : Nat) : Prop := gN pmt (5 * t + q) = (gN w0 (570 + (5 * t + q)) ||| (1 <<< (nI (atT w0 t) &&& 31))) ∧ gN pms (5 * t + q) = (if gN w0 (246 + (5 * t + q)) = -1 then nI (atT w0 t) else gN w0 (246 + (5 * t + q))) ∧ gN pmm (5 * t + q) = (if gN w0 (246 + (5 * t + q)) = -1 then gN w0 201 else gN w0 (271 + (5 * t + q)))
def xU (w0 pms pmm pmt : List Int32) (t q : Nat) : Prop := gN pmt (5 * t + q) = gN w0 (570 + (5 * t + q)) ∧ gN pms (5 * t + q) = gN w0 (246 + (5 * t + q)) ∧ gN pmm (5 * t + q) = gN w0 (271 + (5 * t + q))
theorem i75 (t u : Nat) : nI t * 5 + nI u = nI (5 * t + u) := by
  show nI t * nI 5 + _ = _
  rw [nI_mul, nI_add]
  congr 1
  omega
theorem x_nm_l (H : wf n S w0) (hm : mi = gN w0 201) {t : Nat} (ht : t < n) (h6 : ft w0 t 6 = 1) {p : Nat → Bool} (hsp : gN sp t = nI (atT w0 t)) : ∀ (f i : Nat) (pms pmm pmt : List Int32), i + f = 5 → pms.length = 25 → pmm.length = 25 → pmt.length = 25 → (∀ q, i ≤ q → q < 5 → xU w0 pms pmm pmt t q) →
    ∃ pms' pmm' pmt', x_noteMeetings_l3 mi sp (nI t) (mk5 p) f (nI i) pms pmm pmt = (pms', pmm', pmt') ∧ (pms'.length = 25 ∧ pmm'.length = 25 ∧ pmt'.length = 25) ∧ (∀ q, i ≤ q → q < 5 → if p q = true then xD w0 pms' pmm' pmt' t q else xU w0 pms' pmm' pmt' t q) ∧ ∀ t' q, t' < 5 → q < 5 → (t' ≠ t ∨ q < i) → gN pmt' (5 * t' + q) = gN pmt (5 * t' + q) ∧ gN pms' (5 * t' + q) = gN pms (5 * t' + q) ∧ gN pmm' (5 * t' + q) = gN pmm (5 * t' + q)
  | 0, i, pms, pmm, pmt, e, l1, l2, l3, hu => ⟨pms, pmm, pmt, rfl, ⟨l1, l2, l3⟩, fun q a b => absurd b (by omega), fun _ _ _ _ _ => ⟨rfl, rfl, rfl⟩⟩
  | f + 1, i, pms, pmm, pmt, e, l1, l2, l3, hu => by
    have h5 := H.n5
    have hS := H.S7
    have h7 := (H.T ht).2.2.2.2.1 (by rw [h6]; decide)
    unfold x_noteMeetings_l3
    rw [mk5_bit (by omega), i75, nI_1, gA_n (by omega), gA_n (by omega), hsp]
    have hui := hu i (Nat.le_refl i) (by omega)
    cases hp : p i
    · rw [if_pos (show (bif false then (1 : Int32) else 0) = 0 from rfl)]
      obtain ⟨a, b, c, g1, g2, g3, g4⟩ := x_nm_l H hm ht h6 hsp f (i + 1) pms pmm pmt (by omega) l1 l2 l3 (fun q q1 q2 => hu q (by omega) q2)
      refine ⟨a, b, c, g1, g2, fun q q1 q2 => ?_, fun t' q q1 q2 q3 => g4 t' q q1 q2 (by omega)⟩
      by_cases y : q = i
      · rw [y, hp, if_neg (by decide)]
        obtain ⟨z1, z2, z3⟩ := g4 t i (by omega) (by omega) (Or.inr (by omega))
        exact ⟨z1.trans hui.1, z2.trans hui.2.1, z3.trans hui.2.2⟩
      · exact g3 q (by omega) q2
    · rw [if_neg (show ¬ (bif true then (1 : Int32) else 0) = 0 by decide)]
      dsimp only
      rw [sA_n (by omega), sA_n (by omega), sA_n (by omega), hui.1]
      have hwp := H.P (5 * t + i) (by omega) (by omega)
      have fin : ∀ pms1 pmm1 : List Int32, pms1.length = 25 → pmm1.length = 25 → (∀ j, j ≠ 5 * t + i → gN pms1 j = gN pms j ∧ gN pmm1 j = gN pmm j) → gN pms1 (5 * t + i) = (if gN w0 (246 + (5 * t + i)) = -1 then nI (atT w0 t) else gN w0 (246 + (5 * t + i))) → gN pmm1 (5 * t + i) = (if gN w0 (246 + (5 * t + i)) = -1 then gN w0 201 else gN w0 (271 + (5 * t + i))) → ∃ pms' pmm' pmt', x_noteMeetings_l3 mi sp (nI t) (mk5 p) f (nI (i + 1)) pms1 pmm1 (pmt.set (5 * t + i) (gN w0 (570 + (5 * t + i)) ||| (1 <<< (nI (atT w0 t) &&& 31)))) = (pms', pmm', pmt') ∧ (pms'.length = 25 ∧ pmm'.length = 25 ∧ pmt'.length = 25) ∧ (∀ q, i ≤ q → q < 5 → if p q = true then xD w0 pms' pmm' pmt' t q else xU w0 pms' pmm' pmt' t q) ∧ ∀ t' q, t' < 5 → q < 5 → (t' ≠ t ∨ q < i) → gN pmt' (5 * t' + q) = gN pmt (5 * t' + q) ∧ gN pms' (5 * t' + q) = gN pms (5 * t' + q) ∧ gN pmm' (5 * t' + q) = gN pmm (5 * t' + q) := by
        intro pms1 pmm1 k1 k2 k3 k4 k5
        obtain ⟨a, b, c, g1, g2, g3, g4⟩ := x_nm_l H hm ht h6 hsp f (i + 1) pms1 pmm1 (pmt.set (5 * t + i) (gN w0 (570 + (5 * t + i)) ||| (1 <<< (nI (atT w0 t) &&& 31)))) (by omega) k1 k2 (by rw [List.length_set]; exact l3) (fun q q1 q2 => by
          have := hu q (by omega) q2
          obtain ⟨y1, y2⟩ := k3 (5 * t + q) (by omega)
          exact ⟨by rw [gN_ne (by omega)]; exact this.1, y1.trans this.2.1, y2.trans this.2.2⟩)
        refine ⟨a, b, c, g1, g2, fun q q1 q2 => ?_, fun t' q q1 q2 q3 => ?_⟩
        · by_cases y : q = i
          · rw [y, hp, if_pos rfl]
            obtain ⟨z1, z2, z3⟩ := g4 t i (by omega) (by omega) (Or.inr (by omega))
            exact ⟨z1.trans (by rw [gN_eq (by omega)]), z2.trans k4, z3.trans k5⟩
          · exact g3 q (by omega) q2
        · obtain ⟨z1, z2, z3⟩ := g4 t' q q1 q2 (by omega)
          obtain ⟨y1, y2⟩ := k3 (5 * t' + q) (by omega)
          exact ⟨z1.trans (by rw [gN_ne (by omega)]), z2.trans y1, z3.trans y2⟩
      by_cases c : gN w0 (570 + (5 * t + i)) = 0
      · have c' := hwp.mp c
        rw [if_pos c]
        refine fin _ _ (by rw [List.length_set]; exact l1) (by rw [List.length_set]; exact l2) (fun j hj => ⟨by rw [gN_ne (fun z => hj z.symm)], by rw [gN_ne (fun z => hj z.symm)]⟩) ?_ ?_
        · rw [if_pos c', gN_eq (by omega)]
        · rw [if_pos c', gN_eq (by omega), hm]
      · have c' : ¬ gN w0 (246 + (5 * t + i)) = -1 := fun z => c (hwp.mpr z)
        rw [if_neg c]
        refine fin _ _ l1 l2 (fun j hj => ⟨rfl, rfl⟩) ?_ ?_
        · rw [if_neg c']; exact hui.2.1
        · rw [if_neg c']; exact hui.2.2
/-- so far: the class's -/
def eJ (n d i : Nat) (w0 pms pmm pmt pst pwa : List Int32) : Prop := (pms.length = 25 ∧ pmm.length = 25 ∧ pmt.length = 25 ∧ pst.length = 7 ∧ pwa.length = 5) ∧ (∀ t, t < n → gN pwa t = ft w0 t 12 + nI (d * bN (decide (t < i) && decide (ft w0 t 6 = 1)))) ∧ (∀ s, s < 7 → gN pst s = gN w0 (595 + s) + nI (d * sumN (fun t => bN (inS w0 s t)) i)) ∧ ∀ t q, t < 5 → q < 5 → 0 < n → if (decide (t < i) && met n w0 t q) = true then xD w0 pms pmm pmt t q else xU w0 pms pmm pmt t q
theorem x_nmin_l (H : wf n S w0) (P : rP n w0 ph sp ce) (hm : mi = gN w0 201) : ∀ (f i : Nat) (pms pmm pmt pst pwa : List Int32), i + f = n → eJ n d i w0 pms pmm pmt pst pwa → ∃ pms' pmm' pmt' pst' pwa', x_noteMinutes_l10 mi ph sp (nI n) (nI d) f (nI i) pms pmm pmt pst pwa = (pms', pmm', pmt', pst', pwa') ∧ eJ n d n w0 pms' pmm' pmt' pst' pwa'
  | 0, i, pms, pmm, pmt, pst, pwa, e, J => by
    have : i = n := by omega
    subst this
    exact ⟨pms, pmm, pmt, pst, pwa, rfl, J⟩
  | f + 1, i, pms, pmm, pmt, pst, pwa, e, J => by
    have h5 := H.n5
    have hS := H.S7
    have hi : i < n := by omega
    obtain ⟨⟨l1, l2, l3, l4, l5⟩, j1, j2, j3⟩ := J
    unfold x_noteMinutes_l10
    rw [gA_n (l := ph) (by omega), P.pph hi, nI_1]
    by_cases c : ft w0 i 6 = 1
    · have h7 := (H.T hi).2.2.2.2.1 (by rw [c]; decide)
      have hsp : gN sp i = nI (atT w0 i) := (P.psp hi (by rw [c]; decide)).trans h7.1
      rw [if_pos c, gA_n (l := sp) (by omega), hsp, x_trIn H P (by omega), mk5_clr (by omega)]
      dsimp only
      rw [sA_n (by omega), sA_n (by omega), gA_n (by omega), gA_n (by omega)]
      unfold x_noteMeetings
      rw [show lpN 5 0 = 5 from rfl]
      obtain ⟨a, b, g, k1, k2, k3, k4⟩ := x_nm_l (mi := mi) H hm hi c (p := fun u => (decide (u < n) && inS w0 (atT w0 i) u) && !Nat.beq u i) hsp 5 0 pms pmm pmt rfl l1 l2 l3 (fun q _ q2 => by
        have := j3 i q (by omega) q2 (by omega)
        rw [decide_eq_false (show ¬ i < i by omega), Bool.false_and, if_neg (by decide)] at this
        exact this)
      rw [show (0 : Int32) = nI 0 from rfl, k1]
      dsimp only
      refine x_nmin_l H P hm f (i + 1) a b g _ _ (by omega) ⟨⟨k2.1, k2.2.1, k2.2.2, by rw [List.length_set]; exact l4, by rw [List.length_set]; exact l5⟩, fun t ht => ?_, fun s hs => ?_, fun t q ht hq hn => ?_⟩
      · by_cases y : t = i
        · rw [y, gN_eq (by omega), j1 i hi, decide_eq_false (show ¬ i < i by omega), decide_eq_true (show i < i + 1 by omega), decide_eq_true c, Int32.add_assoc, nI_add]
          congr 2
        · rw [gN_ne (fun z => y z.symm), j1 t ht, decide_eq_decide.mpr (show t < i + 1 ↔ t < i by omega)]
      · show _ = _ + nI (d * (sumN _ i + bN (inS w0 s i)))
        by_cases y : atT w0 i = s
        · have : inS w0 s i = true := by
            unfold inS
            rw [decide_eq_true c, y, Nat.beq_eq.mpr rfl]; rfl
          rw [this, ← y, gN_eq (by omega), j2 _ (by omega), Int32.add_assoc, nI_add]
          congr 2
        · have : inS w0 s i = false := by
            unfold inS
            rw [show Nat.beq (atT w0 i) s = false from Bool.eq_false_iff.mpr (fun z => y (Nat.beq_eq.mp z)), Bool.and_false]
          rw [this, gN_ne (by omega), j2 s hs]
          rfl
      · by_cases y : t = i
        · subst y
          rw [decide_eq_true (show t < t + 1 by omega), Bool.true_and]
          have := k3 q (Nat.zero_le _) hq
          have em : ((decide (q < n) && inS w0 (atT w0 t) q) && !Nat.beq q t) = met n w0 t q := by
            apply Bool.eq_iff_iff.mpr
            rw [met_n, Bool.and_eq_true_iff, Bool.and_eq_true_iff, decide_eq_true_iff]
            unfold inS
            rw [Bool.and_eq_true_iff, decide_eq_true_iff, Nat.beq_eq, Bool.not_eq_true']
            constructor
            · rintro ⟨⟨a1, a2, a3⟩, a4⟩
              exact ⟨⟨hi, a1⟩, fun z => (by rw [Nat.beq_eq.mpr z.symm] at a4; cases a4), c, a2, a3.symm⟩
            · rintro ⟨⟨_, a1⟩, a2, _, a3, a4⟩
              exact ⟨⟨a1, a3, a4.symm⟩, Bool.eq_false_iff.mpr (fun z => a2 (Nat.beq_eq.mp z).symm)⟩
          rw [em] at this
          exact this
        · rw [decide_eq_decide.mpr (show t < i + 1 ↔ t < i by omega)]
          obtain ⟨z1, z2, z3⟩ := k4 t q ht hq (Or.inl y)
          have := j3 t q ht hq hn
          by_cases m : (decide (t < i) && met n w0 t q) = true
          · rw [if_pos m] at this ⊢
            exact ⟨z1.trans this.1, z2.trans this.2.1, z3.trans this.2.2⟩
          · rw [if_neg m] at this ⊢
            exact ⟨z1.trans this.1, z2.trans this.2.1, z3.trans this.2.2⟩
    · rw [if_neg c]
      refine x_nmin_l H P hm f (i + 1) pms pmm pmt pst pwa (by omega) ⟨⟨l1, l2, l3, l4, l5⟩, fun t ht => ?_, fun s hs => ?_, fun t q ht hq hn => ?_⟩
      · rw [j1 t ht]
        by_cases y : t = i
        · rw [y, decide_eq_false c, Bool.and_false, Bool.and_false]
        · rw [decide_eq_decide.mpr (show t < i + 1 ↔ t < i by omega)]
      · show _ = _ + nI (d * (sumN _ i + bN (inS w0 s i)))
        have : inS w0 s i = false := by
          unfold inS
          rw [decide_eq_false c, Bool.false_and]
        rw [this]
        exact j2 s hs
      · have := j3 t q ht hq hn
        by_cases y : t = i
        · subst y
          rw [decide_eq_false (show ¬ t < t by omega), Bool.false_and, if_neg (by decide)] at this
          rw [if_neg (fun z => c (met_n.mp (Bool.and_eq_true_iff.mp z).2).2.2.1)]
          exact this
        · rw [decide_eq_decide.mpr (show t < i + 1 ↔ t < i by omega)]
          exact this
theorem sum_fnd {f : Nat → Bool} : ∀ {n : Nat}, n < 2 ^ 31 → (∀ t u, t < n → u < n → f t = true → f u = true → t = u) → sumN (fun t => bN (f t)) n = if fnd f n 0 = -1 then 0 else 1
  | 0, _, _ => rfl
  | n + 1, hn, h => by
    have ih := sum_fnd (f := f) (n := n) (by omega) (fun t u a b => h t u (by omega) (by omega))
    show sumN _ n + bN (f n) = _
    rw [ih]
    by_cases c : fnd f n 0 = -1
    · have cn := (fnd_n (by omega)).mp c
      rw [if_pos c]
      cases e : f n
      · rw [if_pos ((fnd_n hn).mpr fun t ht => by
          by_cases y : t = n
          · rw [y]; exact e
          · exact cn t (by omega))]; rfl
      · rw [if_neg (fun z => by rw [(fnd_n hn).mp z n (by omega)] at e; cases e)]; rfl
    · rw [if_neg c]
      obtain ⟨s, hs, es⟩ : ∃ s, s < n ∧ f s = true := by
        rcases fnd_or (p := f) n 0 with ⟨a, _⟩ | ⟨s, a, b, _, g, _⟩
        · exact absurd a c
        · exact ⟨s, by omega, g⟩
      have e : f n = false := by
        cases e : f n
        · rfl
        · exact absurd (h s n (by omega) (by omega) es e) (by omega)
      rw [e, if_neg (fun z => by rw [(fnd_n hn).mp z s (by omega)] at es; cases es)]
      rfl
theorem x_us_l {us pms pmm pmt pst pwa : List Int32} (I : rI n w0 ri) : ∀ (f i : Nat) (us : List Int32), i + f = 6 → us.length = 6 → ∃ us', x_endMinutes_l7 ph sp ri pk (nI n) (nI d) f (nI i) mi us pms pmm pmt pst pwa = x_endMinutes_l7 ph sp ri pk (nI n) (nI d) 0 6 mi us' pms pmm pmt pst pwa ∧ us'.length = 6 ∧ ∀ k, k < 6 → gN us' k = if i ≤ k ∧ ¬ fnd (onS w0 k) n 0 = -1 then gN us k + nI d else gN us k
  | 0, i, us, e, l => ⟨us, rfl, l, fun k hk => by rw [if_neg (fun z => by omega)]⟩
  | f + 1, i, us, e, l => by
    unfold x_endMinutes_l7
    rw [gA_n (l := ri) (by omega), I.2 i (by omega), nI_1]
    by_cases c : fnd (onS w0 i) n 0 = -1
    · rw [if_pos c]
      obtain ⟨us', g1, g2, g3⟩ := x_us_l (us := us) I f (i + 1) us (by omega) l
      refine ⟨us', g1, g2, fun k hk => ?_⟩
      rw [g3 k hk]
      by_cases y : k = i
      · rw [y, if_neg (fun z => by omega), if_neg (fun z => z.2 c)]
      · by_cases z : i ≤ k ∧ ¬ fnd (onS w0 k) n 0 = -1
        · rw [if_pos z, if_pos ⟨by omega, z.2⟩]
        · rw [if_neg z, if_neg (fun q => z ⟨by omega, q.2⟩)]
    · rw [if_neg c]
      dsimp only
      rw [sA_n (by omega), gA_n (by omega)]
      obtain ⟨us', g1, g2, g3⟩ := x_us_l (us := us) I f (i + 1) (us.set i (gN us i + nI d)) (by omega) (by rw [List.length_set]; exact l)
      refine ⟨us', g1, g2, fun k hk => ?_⟩
      rw [g3 k hk]
      by_cases y : k = i
      · rw [y, if_neg (fun z => by omega), if_pos ⟨Nat.le_refl i, c⟩, gN_eq (by omega)]
      · rw [gN_ne (fun z => y z.symm)]
        by_cases z : i ≤ k ∧ ¬ fnd (onS w0 k) n 0 = -1
        · rw [if_pos z, if_pos ⟨by omega, z.2⟩]
        · rw [if_neg z, if_neg (fun q => z ⟨by omega, q.2⟩)]
theorem x_end {us pms pmm pmt pst pwa : List Int32} (H : wf n S w0) (P : rP n w0 ph sp ce) (I : rI n w0 ri) (K : qK w0 us) (Q : rQ n w0 pk pms pmm pmt pst pwa) (hm : mi = gN w0 201) (hd : 0 < d) (hd2 : d < 2 ^ 31) (R : eR n d w w0) {z : Int32 × List Int32 × List Int32 × List Int32 × List Int32 × List Int32 × List Int32} (hz : x_endMinutes mi ph sp ri us pk pms pmm pmt pst pwa (nI n) (nI d) = z) : z.1 = gN w 201 ∧ qK w z.2.1 ∧ rQ n w pk z.2.2.1 z.2.2.2.1 z.2.2.2.2.1 z.2.2.2.2.2.1 z.2.2.2.2.2.2 := by
  have h5 := H.n5
  obtain ⟨r1, r2, r3, r4, r5, r6⟩ := R
  unfold x_endMinutes at hz
  rw [if_pos (show (0 : Int32) < nI d from nI_lt (a := 0) hd hd2), show lpN 6 0 = 6 from rfl] at hz
  obtain ⟨us', g1, g2, g3⟩ := x_us_l (us := us) (mi := mi) (pk := pk) (ph := ph) (sp := sp) (d := d) (pms := pms) (pmm := pmm) (pmt := pmt) (pst := pst) (pwa := pwa) I 6 0 us rfl K.1
  rw [show (0 : Int32) = nI 0 from rfl] at hz
  rw [g1] at hz
  unfold x_endMinutes_l7 at hz
  dsimp only at hz
  have hK : qK w us' := ⟨g2, fun k hk => by
    rw [g3 k hk, r3 k hk, sum_fnd (f := onS w0 k) (by omega) (fun t u a b c e => by
      unfold onS at c e
      obtain ⟨c1, c2⟩ := Bool.and_eq_true_iff.mp c
      obtain ⟨e1, e2⟩ := Bool.and_eq_true_iff.mp e
      apply Decidable.byContradiction
      intro y
      exact H.D.2 t u a b y (of_decide_eq_true c1) (of_decide_eq_true e1) ((Nat.beq_eq.mp c2).trans (Nat.beq_eq.mp e2).symm)), K.2 k hk]
    by_cases c : fnd (onS w0 k) n 0 = -1
    · rw [if_neg (fun z => z.2 c), if_pos c, Nat.mul_zero]; exact (Int32.add_zero _).symm
    · rw [if_pos ⟨Nat.zero_le k, c⟩, if_neg c, Nat.mul_one]⟩
  unfold x_noteMinutes at hz
  by_cases c0 : pk = 0
  · rw [if_pos c0] at hz
    subst hz
    exact ⟨by rw [r2, hm], hK, Or.inl c0⟩
  · rw [if_neg c0, lpN_n0 (by omega)] at hz
    rcases Q with Q | ⟨⟨l1, l2, l3, l4, l5⟩, q1, q2, q3⟩
    · exact absurd Q c0
    obtain ⟨a, b, c, d', e, k1, ⟨m1, m2, m3, m4, m5⟩, k2, k3, k4⟩ := x_nmin_l (d := d) H P hm n 0 pms pmm pmt pst pwa (Nat.zero_add n) ⟨⟨l1, l2, l3, l4, l5⟩, fun t ht => by
      rw [decide_eq_false (Nat.not_lt_zero t), Bool.false_and, show bN false = 0 from rfl, Nat.mul_zero]
      exact (q3 t ht).trans (Int32.add_zero _).symm, fun s hs => by
      rw [show sumN (fun t => bN (inS w0 s t)) 0 = 0 from rfl, Nat.mul_zero]
      exact (q2 s hs).trans (Int32.add_zero _).symm, fun t q ht hq hn => by
      rw [decide_eq_false (Nat.not_lt_zero t), Bool.false_and, if_neg (by decide)]
      obtain ⟨y1, y2, y3⟩ := q1 (5 * t + q) (by omega) hn
      exact ⟨y3, y1, y2⟩⟩
    rw [show (0 : Int32) = nI 0 from rfl, k1] at hz
    subst hz
    refine ⟨by rw [r2, hm], hK, Or.inr ⟨⟨m1, m2, m3, m4, m5⟩, fun k hk hn => ?_, fun s hs => ?_, fun t ht => ?_⟩⟩
    · have ek : k = 5 * (k / 5) + k % 5 := by omega
      have k4' := k4 (k / 5) (k % 5) (by omega) (by omega) hn
      have r6' := r6 (k / 5) (k % 5) (by omega) (by omega)
      rw [decide_eq_true hd, Bool.true_and] at r6'
      have em : (decide (k / 5 < n) && met n w0 (k / 5) (k % 5)) = met n w0 (k / 5) (k % 5) := by
        cases y : met n w0 (k / 5) (k % 5)
        · rw [Bool.and_false]
        · rw [decide_eq_true (met_n.mp y).1.1]; rfl
      rw [em] at k4'
      by_cases m : met n w0 (k / 5) (k % 5) = true
      · rw [if_pos m] at k4' r6'
        unfold xD at k4'
        unfold pD at r6'
        rw [← ek] at k4' r6'
        exact ⟨k4'.2.1.trans r6'.2.1.symm, k4'.2.2.trans r6'.2.2.symm, k4'.1.trans r6'.1.symm⟩
      · rw [if_neg m] at k4' r6'
        unfold xU at k4'
        unfold pU at r6'
        rw [← ek] at k4' r6'
        exact ⟨k4'.2.1.trans r6'.2.1.symm, k4'.2.2.trans r6'.2.2.symm, k4'.1.trans r6'.1.symm⟩
    · rw [k3 s hs, r5 s hs]
    · rw [k2 t ht, r4 t ht, decide_eq_true ht, Bool.true_and]
end XE

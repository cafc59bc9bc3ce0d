/-! leftStanding of both; what the moves change -/
section LS
variable {n S : Nat} {w tra len frm tto wei fit way rid lon : List Int32} {shu cel : Int32}
theorem sfL_eq : ∀ (f t : Nat) (p : Nat → Bool) (i : Nat), m_sfL w f t p i = (p i || (decide (t ≤ i) && decide (i < t + f) && m_plc w i))
  | 0, t, p, i => by
    unfold m_sfL
    rw [show (decide (t ≤ i) && decide (i < t + 0)) = false by
      by_cases c : t ≤ i
      · rw [decide_eq_false (show ¬ i < t + 0 by omega), Bool.and_false]
      · rw [decide_eq_false c]; rfl]
    rw [Bool.false_and, Bool.or_false]
  | f + 1, t, p, i => by
    unfold m_sfL
    rw [sfL_eq f (t + 1)]
    by_cases c : i = t
    · rw [c, decide_eq_false (show ¬ t + 1 ≤ t by omega), decide_eq_true (show t ≤ t by omega), decide_eq_true (show t < t + (f + 1) by omega)]
      cases m_plc w t
      · simp
      · simp
    · have e : Nat.beq i t = false := Bool.eq_false_iff.mpr (fun z => c (Nat.beq_eq.mp z))
      rw [e]
      have e2 : decide (t + 1 ≤ i) = decide (t ≤ i) := decide_eq_decide.mpr (by omega)
      have e3 : decide (i < t + 1 + f) = decide (i < t + (f + 1)) := decide_eq_decide.mpr (by omega)
      rw [e2, e3, Bool.or_false]
      split <;> rfl
theorem plc_n (H : wg n S w) {t : Nat} (ht : t < n) : m_plc w t = decide (cL w t < 21) := by
  unfold m_plc
  have := H.n5
  have := H.S7
  rcases H.place ht with ⟨h1, h2⟩ | ⟨h1, h2, h3, h4, h5⟩
  · rw [h1, h2]; rfl
  · rw [h1, decide_eq_false (nI_nn (by omega)), decide_eq_true h3]; rfl
/-- seats that tell where all stand -/
def rZ (n : Nat) (w : List Int32) (st : Nat → Int32) : Prop := ∀ t, t < n → (cL w t < 21 ∧ st t = nI (cL w t)) ∨ (cL w t = 99 ∧ (st t = -1 ∨ st t = 21))
theorem x_left_l (H : wg n S w) (D : wd1 n w) (U : rU w shu) (Y : qY n S w tra len frm tto wei fit way rid lon cel) {ce : List Int32} {v2 v3 : Int32} (Z : rZ n w (fun t => if nI t = v2 then v3 else gN ce t)) {tk : List Int32} (htk : tk.length = 5) : ∀ (f i : Nat) (v5 v6 : Int32) (sea row : List Int32) (rl : Int32), i + f = n → v5 = mk5 (fun u => decide (u < i) && decide (cL w u < 21)) → (∀ c, c < 32 → (tb v6 c = true ↔ ∃ u, u < i ∧ cL w u < 21 ∧ cL w u = c)) → sea.length = 5 → row.length = 5 → (∀ u, u < i → gN sea u = if nI u = v2 then v3 else gN ce u) →
    ∃ sea' row' k', x_leftStanding_l15 shu ce (nI n) fit way v2 v3 f (nI i) v5 v6 sea row rl = (mk5 (m_sf w n tk).1, sea', row', nI k') ∧ sea'.length = 5 ∧ row'.length = 5 ∧ k' ≤ 5 ∧ (m_sf w n tk).2.2 = nI k' ∧ ∀ j, j < k' → gN row' j = gN (m_sf w n tk).2.1 j
  | 0, i, v5, v6, sea, row, rl, e, h5, h6, hs, hr, hu => by
    have hn5 := H.n5
    have hin : i = n := by omega
    subst hin
    unfold x_leftStanding_l15
    rw [show lpN 5 0 = 5 from rfl]
    have ep : v5 = mk5 (m_sfL w i 0 (fun _ => false)) := by
      rw [h5]
      refine mk5_eq fun u _ => ?_
      rw [sfL_eq, Bool.false_or, decide_eq_true (Nat.zero_le u), Bool.true_and, Nat.zero_add]
      by_cases c : u < i
      · rw [plc_n H c]
      · rw [decide_eq_false c]; rfl
    have hP : ∀ u, m_sfL w i 0 (fun _ => false) u = true ↔ u < i ∧ cL w u < 21 := fun u => by
      rw [sfL_eq, Bool.false_or, decide_eq_true (Nat.zero_le u), Bool.true_and, Nat.zero_add]
      by_cases c : u < i
      · rw [plc_n H c, decide_eq_true c, Bool.true_and, decide_eq_true_iff]
        exact ⟨fun z => ⟨c, z⟩, fun z => z.2⟩
      · rw [decide_eq_false c]
        exact ⟨fun z => (nomatch z), fun z => absurd z.1 c⟩
    rw [ep]
    obtain ⟨row', k', g1, g2, g3, g4, g5⟩ := x_rounds H D U Y (sea := sea) (v2 := v2) (v3 := v3) 5 (m_sfL w i 0 (fun _ => false)) v6 0 row tk 0 (cnt5_le _) (fun t ht hp => by
      have := (hP t).mp hp
      refine ⟨this.2, ?_⟩
      rw [hu t ht]
      rcases Z t ht with z | z
      · exact z.2
      · omega) (fun c hc => by
      rw [h6 c hc]
      constructor
      · rintro ⟨u, q1, q2, q3⟩; exact ⟨u, q1, (hP u).mpr ⟨q1, q2⟩, q3⟩
      · rintro ⟨u, q1, q2, q3⟩; exact ⟨u, q1, ((hP u).mp q2).2, q3⟩) hr htk (by have := cnt5_le (m_sfL w i 0 (fun _ => false)); omega) (fun j hj => absurd hj (by omega))
    exact ⟨sea, row', k', g1, hs, g2, g3, g4, g5⟩
  | f + 1, i, v5, v6, sea, row, rl, e, h5, h6, hs, hr, hu => by
    have hn5 := H.n5
    unfold x_leftStanding_l15
    dsimp only
    rw [sA_n (by omega), gA_n (l := ce) (by omega), gA_n (by omega), gN_eq (by omega), nI_1]
    have hu' : ∀ u, u < i + 1 → gN (sea.set i (if nI i = v2 then v3 else gN ce i)) u = if nI u = v2 then v3 else gN ce u := fun u hui => by
      by_cases c : u = i
      · rw [c, gN_eq (by omega)]
      · rw [gN_ne (by omega)]; exact hu u (by omega)
    have hz := Z i (by omega)
    have hz : (cL w i < 21 ∧ (if nI i = v2 then v3 else gN ce i) = nI (cL w i)) ∨ (cL w i = 99 ∧ ((if nI i = v2 then v3 else gN ce i) = -1 ∨ (if nI i = v2 then v3 else gN ce i) = 21)) := hz
    generalize (if nI i = v2 then v3 else gN ce i) = x at hz hu'
    have skip : cL w i = 99 → ∃ sea' row' k', x_leftStanding_l15 shu ce (nI n) fit way v2 v3 f (nI (i + 1)) v5 v6 (sea.set i x) row rl = (mk5 (m_sf w n tk).1, sea', row', nI k') ∧ sea'.length = 5 ∧ row'.length = 5 ∧ k' ≤ 5 ∧ (m_sf w n tk).2.2 = nI k' ∧ ∀ j, j < k' → gN row' j = gN (m_sf w n tk).2.1 j := fun hc => by
      refine x_left_l H D U Y Z htk f (i + 1) v5 v6 _ row rl (by omega) ?_ (fun c h32 => ?_) (by rw [List.length_set]; exact hs) hr hu'
      · rw [h5]
        refine mk5_eq fun u _ => ?_
        by_cases c : u = i
        · rw [c, hc, show decide (99 < 21) = false from rfl, Bool.and_false, Bool.and_false]
        · rw [decide_eq_decide.mpr (show u < i ↔ u < i + 1 by omega)]
      · rw [h6 c h32]
        constructor
        · rintro ⟨u, q1, q2⟩; exact ⟨u, by omega, q2⟩
        · rintro ⟨u, q1, q2⟩
          by_cases d : u = i
          · rw [d] at q2; omega
          · exact ⟨u, by omega, q2⟩
    rcases hz with ⟨hc, ex⟩ | ⟨hc, ex⟩
    · rw [ex, if_neg (nI_pos (by omega)), if_pos (show nI (cL w i) < 21 from (nI_ltI (b := 21) (by omega) (by decide)).mpr hc)]
      rw [← ex]
      refine x_left_l H D U Y Z htk f (i + 1) _ _ _ row rl (by omega) ?_ (fun c h32 => ?_) (by rw [List.length_set]; exact hs) hr hu'
      · rw [h5, mk5_or (by omega)]
        refine mk5_eq fun u _ => ?_
        by_cases c : u = i
        · rw [c, Nat.beq_eq.mpr rfl, Bool.or_true, decide_eq_true hc, decide_eq_true (show i < i + 1 by omega)]; rfl
        · rw [show Nat.beq u i = false from Bool.eq_false_iff.mpr (fun z => c (Nat.beq_eq.mp z)), Bool.or_false, decide_eq_decide.mpr (show u < i ↔ u < i + 1 by omega)]
      · rw [ex, tb_or, tb_one (by omega) h32, Bool.or_eq_true, h6 c h32, decide_eq_true_iff]
        constructor
        · rintro (⟨u, q1, q2⟩ | q)
          · exact ⟨u, by omega, q2⟩
          · exact ⟨i, by omega, hc, q⟩
        · rintro ⟨u, q1, q2, q3⟩
          by_cases d : u = i
          · rw [d] at q3; exact Or.inr q3
          · exact Or.inl ⟨u, by omega, q2, q3⟩
    · rcases ex with ex | ex
      · rw [if_pos (show x < 0 by rw [ex]; decide)]
        exact skip hc
      · rw [if_neg (show ¬ x < 0 by rw [ex]; decide), if_neg (show ¬ x < 21 by rw [ex]; decide)]
        exact skip hc
theorem x_left (H : wg n S w) (D : wd1 n w) (U : rU w shu) (Y : qY n S w tra len frm tto wei fit way rid lon cel) {ce sea row tk : List Int32} {v2 v3 rl : Int32} (Z : rZ n w (fun t => if nI t = v2 then v3 else gN ce t)) (hs : sea.length = 5) (hr : row.length = 5) (htk : tk.length = 5) :
    ∃ sea' row' k', x_leftStanding shu ce rl row sea (nI n) fit way v2 v3 = (mk5 (m_sf w n tk).1, sea', row', nI k') ∧ sea'.length = 5 ∧ row'.length = 5 ∧ k' ≤ 5 ∧ (m_sf w n tk).2.2 = nI k' ∧ ∀ j, j < k' → gN row' j = gN (m_sf w n tk).2.1 j := by
  unfold x_leftStanding
  have := H.n5
  rw [lpN_n0 (by omega)]
  exact x_left_l H D U Y Z htk n 0 0 0 sea row rl (Nat.zero_add n) (by
    rw [← mk5_none]
    exact mk5_eq fun u _ => by rw [decide_eq_false (Nat.not_lt_zero u)]; rfl) (fun c hc => by
    rw [tb_0]
    exact ⟨fun z => (by cases z), fun ⟨u, q1, _⟩ => absurd q1 (Nat.not_lt_zero u)⟩) hs hr (fun u hu => absurd hu (Nat.not_lt_zero u))
theorem cI_or (H : wg n S w) {t : Nat} (ht : t < n) : (cL w t < 21 ∧ cI (cL w t) = nI (cL w t)) ∨ (cL w t = 99 ∧ cI (cL w t) = -1) := by
  unfold cI
  rcases H.cl ht with e | e
  · rw [e]; exact Or.inr ⟨rfl, rfl⟩
  · rw [if_pos e]; exact Or.inl ⟨e, rfl⟩
theorem rZ_ce {ph sp ce : List Int32} (H : wg n S w) (P : rP n w ph sp ce) : rZ n w (fun t => if nI t = (-1 : Int32) then (-1) else gN ce t) := by
  intro t ht
  have := H.n5
  dsimp only
  rw [if_neg (nI_nn (by omega)), P.pce ht]
  rcases cI_or H ht with z | z
  · exact Or.inl z
  · exact Or.inr ⟨z.1, Or.inl z.2⟩
theorem x_safe {ph sp ce sea row tk : List Int32} {rl : Int32} (H : wg n S w) (D : wd1 n w) (P : rP n w ph sp ce) (U : rU w shu) (Y : qY n S w tra len frm tto wei fit way rid lon cel) (hs : sea.length = 5) (hr : row.length = 5) (htk : tk.length = 5) : ∃ sea' row' k', x_isSafe shu ce rl row sea (nI n) fit way = (m_isSafe w n, sea', row', nI k') ∧ sea'.length = 5 ∧ row'.length = 5 ∧ k' ≤ 5 ∧ (m_sf w n tk).2.2 = nI k' ∧ ∀ j, j < k' → gN row' j = gN (m_sf w n tk).2.1 j := by
  obtain ⟨sea', row', k', h1, h2, h3, h4, h5, h6⟩ := x_left H D U Y (rl := rl) (v2 := -1) (v3 := -1) (rZ_ce H P) hs hr htk
  refine ⟨sea', row', k', ?_, h2, h3, h4, h5, h6⟩
  unfold x_isSafe m_isSafe
  rw [h1, m_sf_1 w n tk]
end LS
section MV
variable {n S : Nat} {w : List Int32} {t : Nat}
theorem wf.cmF (H : wf n S w) (ht : t < n) (h6 : ft w t 6 = 0) (hb : tF n w t (fR w t) ≠ 9) {w' : List Int32} (hw : w' = cmW w (sumN (eV w) n) t (tF n w t (fR w t))) :
    w'.length = 602 ∧ (∀ j, (j < 56 + 28 * t ∨ 84 + 28 * t ≤ j) → (j < 309 ∨ 570 ≤ j) → gN w' j = gN w j) ∧ (∀ j, 309 ≤ j → j < 570 → gN w' j = gN (evW w (sumN (eV w) n) (nI t) 0 (nI (fR w t))) j) ∧ ft w' t 6 = 1 ∧ ft w' t 7 = nI (fR w t) ∧ ft w' t (13 + fR w t) = gN w 201 ∧ (∀ k, k < 28 → k ≠ 6 → k ≠ 7 → k ≠ 8 → k ≠ 13 + fR w t → ft w' t k = ft w t k) ∧ cL w' t = 3 * fR w t + tF n w t (fR w t) ∧ cL w' t < 21 := by
  have h5 := H.n5
  have hS := H.S7
  have hl := H.len
  have hT := H.T ht
  have he := H.ev65 ht (by rw [h6]; decide)
  have hf : fR w t < 7 := by have := hT.1.2; omega
  obtain ⟨b1, b2, b3, b4⟩ := tF_free n w t (fR w t) (by omega) hb
  generalize tF n w t (fR w t) = b at *
  have hm := (H.St hf).2.1
  generalize sumN (eV w) n = e at *
  have rd := fun (k : Nat) (hk : k < 28) => cmW_t (b := b) hl (by omega : t < 5) he hf hk
  rw [← hw] at rd
  have r6 : ft w' t 6 = 1 := by rw [rd 6 (by decide), if_neg (by omega), if_pos rfl]
  have r7 : ft w' t 7 = nI (fR w t) := by rw [rd 7 (by decide), if_neg (by omega), if_neg (by decide), if_pos rfl]
  have r8 : ft w' t 8 = nI b := by rw [rd 8 (by decide), if_neg (by omega), if_neg (by decide), if_neg (by decide), if_pos rfl, eb_nn hb]
  have f7 : atT w' t = fR w t := (congrArg nV r7).trans (nV_n (by omega))
  have f8 : kT w' t = b := (congrArg nV r8).trans (nV_n (by omega))
  have fc : cL w' t = 3 * fR w t + b := by unfold cL; rw [if_pos r6, f7, f8]
  refine ⟨by rw [hw, cmW_len]; exact hl, fun j h1 h2 => by rw [hw, cmW_o hf h1, evW_ne h2 he], fun j h1 h2 => by rw [hw, cmW_o hf (by omega)], r6, r7, ?_, fun k hk k1 k2 k3 k4 => ?_, fc, by omega⟩
  · rw [rd _ (by omega), if_pos rfl]
  · rw [rd k hk, if_neg k4, if_neg k1, if_neg k2, if_neg k3]
theorem wf.lvF (H : wf n S w) (ht : t < n) (h6 : ft w t 6 = 1) (hb : nxT w t ≠ tO w t → tF n w t (nxT w t) ≠ 9) {w' : List Int32} (hw : w' = lvW w (sumN (eV w) n) t (if nxT w t = tO w t then -1 else eb (tF n w t (nxT w t))) (sumN (gV w (sC w t)) n)) :
    w'.length = 602 ∧ (∀ j, (j < 56 + 28 * t ∨ 84 + 28 * t ≤ j) → (j < 309 ∨ 570 ≤ j) → gN w' j = if j = 210 + sC w t then nI (sumN (gV w (sC w t)) n + 1) else if j = 216 + 5 * sC w t + sumN (gV w (sC w t)) n then nI t else gN w j) ∧ (∀ j, 309 ≤ j → j < 570 → gN w' j = gN (evW w (sumN (eV w) n) (nI t) 1 (nI (atT w t))) j) ∧ ft w' t 6 = 2 ∧ ft w' t 9 = gN w 201 + rN w t (sC w t) ∧ ft w' t (20 + atT w t) = gN w 201 ∧ (∀ k, k < 28 → k ≠ 6 → k ≠ 9 → k ≠ 8 → k ≠ 20 + atT w t → ft w' t k = ft w t k) ∧ cL w' t = (if nxT w t = tO w t then 99 else 3 * nxT w t + tF n w t (nxT w t)) ∧ (cL w' t < 21 ∨ nxT w t = tO w t) ∧ sC w t < 6 ∧ sumN (gV w (sC w t)) n < 5 := by
  have h5 := H.n5
  have hS := H.S7
  have hl := H.len
  have hT := H.T ht
  have he := H.ev65 ht (by rw [h6]; decide)
  obtain ⟨-, -, x3, x4, x5⟩ := hT.next hS (by omega) (Or.inl h6)
  have h7 := hT.2.2.2.2.1 (by rw [h6]; decide)
  have ha : atT w t < 7 := by omega
  have hg := H.go5 ht (gV_no hT h6)
  have hfree : nxT w t ≠ tO w t → _ := fun z => tF_free n w t (nxT w t) (by omega) (hb z)
  generalize tF n w t (nxT w t) = b at *
  have hm := (H.St (s := nxT w t) (by omega)).2.1
  generalize sumN (eV w) n = e at *
  generalize sumN (gV w (sC w t)) n = g at *
  generalize ev : (if nxT w t = tO w t then (-1 : Int32) else eb b) = v at *
  have rd := fun (k : Nat) (hk : k < 28) => lvW_t (b := v) (g := g) hl (by omega : t < 5) he ha hk
  rw [← hw] at rd
  have r1 : ft w' t 1 = ft w t 1 := by rw [rd 1 (by decide), if_neg (by omega), if_neg (by decide), if_neg (by decide), if_neg (by decide)]
  have r2 : ft w' t 2 = ft w t 2 := by rw [rd 2 (by decide), if_neg (by omega), if_neg (by decide), if_neg (by decide), if_neg (by decide)]
  have r6 : ft w' t 6 = 2 := by rw [rd 6 (by decide), if_neg (by omega), if_neg (by decide), if_pos rfl]
  have r7 : ft w' t 7 = ft w t 7 := by rw [rd 7 (by decide), if_neg (by omega), if_neg (by decide), if_neg (by decide), if_neg (by decide)]
  have r8 : ft w' t 8 = v := by rw [rd 8 (by decide), if_neg (by omega), if_neg (by decide), if_neg (by decide), if_pos rfl]
  have f1 : fR w' t = fR w t := congrArg nV r1
  have f2 : tO w' t = tO w t := congrArg nV r2
  have f7 : atT w' t = atT w t := congrArg nV r7
  have fX : nxT w' t = nxT w t := by unfold nxT; rw [f1, f2, f7]
  have fc : cL w' t = if nxT w t = tO w t then 99 else 3 * nxT w t + b := by
    unfold cL
    rw [if_neg (by rw [r6]; decide), if_pos r6, fX, f2]
    by_cases c : nxT w t = tO w t
    · rw [if_pos c, if_pos c]
    · rw [if_neg c, if_neg c]
      have e1 : v = nI b := by rw [← ev, if_neg c, eb_nn (hb c)]
      have : kT w' t = b := (congrArg nV (r8.trans e1)).trans (nV_n (by have := (hfree c).1; omega))
      rw [this]
  refine ⟨by rw [hw, lvW_len]; exact hl, fun j h1 h2 => by rw [hw, lvW_o hl ha x4 hg h1, evW_ne h2 he], fun j h1 h2 => by rw [hw, lvW_o hl ha x4 hg (by omega), if_neg (by omega), if_neg (by omega)], r6, ?_, ?_, fun k hk k1 k2 k3 k4 => ?_, fc, ?_, x4, hg⟩
  · rw [rd 9 (by decide), if_neg (by omega), if_pos rfl]
  · rw [rd _ (by omega), if_pos rfl]
  · rw [rd k hk, if_neg k4, if_neg k2, if_neg k1, if_neg k3]
  · by_cases c : nxT w t = tO w t
    · exact Or.inr c
    · rw [fc, if_neg c]
      have := (hfree c).1
      exact Or.inl (by omega)
theorem wf.arF (H : wf n S w) (ht : t < n) (h6 : ft w t 6 = 2) {w' : List Int32} (hw : w' = arW w (sumN (eV w) n) t) :
    w'.length = 602 ∧ (∀ j, (j < 56 + 28 * t ∨ 84 + 28 * t ≤ j) → (j < 309 ∨ 570 ≤ j) → gN w' j = gN w j) ∧ (∀ j, 309 ≤ j → j < 570 → gN w' j = gN (evW w (sumN (eV w) n) (nI t) 2 (nI (nxT w t))) j) ∧ ft w' t 6 = (if nxT w t = tO w t then 3 else 1) ∧ ft w' t 7 = nI (nxT w t) ∧ ft w' t (13 + nxT w t) = gN w 201 ∧ (nxT w t = tO w t → ft w' t 11 = gN w 201) ∧ (∀ k, k < 28 → k ≠ 6 → k ≠ 7 → k ≠ 11 → k ≠ 13 + nxT w t → ft w' t k = ft w t k) ∧ cL w' t = cL w t ∧ nxT w t < S := by
  have h5 := H.n5
  have hS := H.S7
  have hl := H.len
  have hT := H.T ht
  have he := H.ev65 ht (by rw [h6]; decide)
  obtain ⟨-, -, x3, x4, x5⟩ := hT.next hS (by omega) (Or.inr h6)
  have hn : nxT w t < 7 := by omega
  have hcl : cL w t = if nxT w t = tO w t then 99 else 3 * nxT w t + kT w t := by unfold cL; rw [if_neg (by rw [h6]; decide), if_pos h6]
  generalize sumN (eV w) n = e at *
  have rd := fun (k : Nat) (hk : k < 28) => arW_t hl (by omega : t < 5) he hn hk
  rw [← hw] at rd
  have r6 : ft w' t 6 = if nxT w t = tO w t then 3 else 1 := by rw [rd 6 (by decide), if_neg (by omega), if_pos rfl]
  have r7 : ft w' t 7 = nI (nxT w t) := by rw [rd 7 (by decide), if_neg (by omega), if_neg (by decide), if_neg (by omega), if_pos rfl]
  have r8 : ft w' t 8 = ft w t 8 := by rw [rd 8 (by decide), if_neg (by omega), if_neg (by decide), if_neg (by omega), if_neg (by decide)]
  have f7 : atT w' t = nxT w t := (congrArg nV r7).trans (nV_n (by omega))
  have f8 : kT w' t = kT w t := congrArg nV r8
  have r62 : ¬ ft w' t 6 = 2 := by rw [r6]; split <;> decide
  have fc : cL w' t = cL w t := by
    rw [hcl]
    unfold cL
    rw [if_neg r62, r6, f7, f8]
    by_cases c : nxT w t = tO w t
    · rw [if_pos c, if_pos c, if_neg (by decide)]
    · rw [if_neg c, if_neg c, if_pos rfl]
  refine ⟨by rw [hw, arW_len]; exact hl, fun j h1 h2 => by rw [hw, arW_o hn h1, evW_ne h2 he], fun j h1 h2 => by rw [hw, arW_o hn (by omega)], r6, r7, ?_, fun c => ?_, fun k hk k1 k2 k3 k4 => ?_, fc, x3⟩
  · rw [rd _ (by omega), if_neg (by omega), if_neg (by omega), if_pos rfl]
  · rw [rd 11 (by decide), if_pos ⟨rfl, c⟩]
  · rw [rd k hk, if_neg (fun z => k3 z.1), if_neg k1, if_neg k4, if_neg k2]
end MV

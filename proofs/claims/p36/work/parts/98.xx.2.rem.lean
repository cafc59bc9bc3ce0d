/-! a train is taken out of the line: the block that tells it -/
theorem sumN_mono {f g : Nat → Nat} : ∀ {n : Nat}, (∀ u, u < n → f u ≤ g u) → sumN f n ≤ sumN g n
  | 0, _ => Nat.le_refl 0
  | n + 1, h => by
    have h1 := sumN_mono (n := n) (fun u hu => h u (by omega))
    have h2 := h n (by omega)
    show sumN f n + f n ≤ sumN g n + g n
    omega
/-- train t is DONE, at TO -/
def rmW (w : List Int32) (t : Nat) : List Int32 := ((w.set (56 + 28 * t + 6) 3).set (56 + 28 * t + 7) (ft w t 2)).set (56 + 28 * t + 11) (ft w t (13 + tO w t))
section RM
variable {n S : Nat} {w : List Int32} {t : Nat}
theorem rmW_len : (rmW w t).length = w.length := by unfold rmW; simp only [List.length_set]
theorem rmW_o {j : Nat} (hj : j < 56 + 28 * t ∨ 84 + 28 * t ≤ j) : gN (rmW w t) j = gN w j := by
  unfold rmW
  rw [gN_ne (by omega), gN_ne (by omega), gN_ne (by omega)]
theorem rmW_t (hl : w.length = 602) (ht : t < 5) {k : Nat} (hk : k < 28) : ft (rmW w t) t k = if k = 11 then ft w t (13 + tO w t) else if k = 7 then ft w t 2 else if k = 6 then 3 else ft w t k := by
  unfold ft rmW
  by_cases c1 : k = 11
  · rw [if_pos c1, c1, gN_eq (by simp only [List.length_set]; omega)]; rfl
  rw [if_neg c1, gN_ne (by omega)]
  by_cases c2 : k = 7
  · rw [if_pos c2, c2, gN_eq (by simp only [List.length_set]; omega)]; rfl
  rw [if_neg c2, gN_ne (by omega)]
  by_cases c3 : k = 6
  · rw [if_pos c3, c3, gN_eq (by omega)]
  · rw [if_neg c3, gN_ne (by omega)]
theorem rmW_u {u : Nat} (hu : u ≠ t) : sT (rmW w t) w u := fun k hk => rmW_o (by omega)
theorem rmW_6 (hl : w.length = 602) (ht : t < 5) : ft (rmW w t) t 6 = 3 := by rw [rmW_t hl ht (by decide), if_neg (by decide), if_neg (by decide), if_pos rfl]
theorem rmW_s (hl : w.length = 602) (ht : t < 5) {k : Nat} (hk : k < 28) (h1 : k ≠ 6) (h2 : k ≠ 7) (h3 : k ≠ 11) : ft (rmW w t) t k = ft w t k := by rw [rmW_t hl ht hk, if_neg h3, if_neg h2, if_neg h1]
theorem rmW_c (hl : w.length = 602) (ht : t < 5) : cL (rmW w t) t = 99 := by
  unfold cL
  rw [rmW_6 hl ht, if_neg (by decide), if_neg (by decide)]
/-- all that's told of a train that isn't t, or of t but HOW, AT, ENDED -/
theorem rmW_k (hl : w.length = 602) (ht : t < 5) {u k : Nat} (hk : k < 28) (h1 : k ≠ 6) (h2 : k ≠ 7) (h3 : k ≠ 11) : ft (rmW w t) u k = ft w u k := by
  by_cases c : u = t
  · rw [c]; exact rmW_s hl ht hk h1 h2 h3
  · exact rmW_u c k hk
theorem wf.rmV (H : wf n S w) (ht : t < n) : wf n S (rmW w t) := by
  have h5 := H.n5
  have hS := H.S7
  have hl := H.len
  have hT := H.T ht
  have t5 : t < 5 := by omega
  have hu : ∀ u, u ≠ t → sT (rmW w t) w u := fun u h => rmW_u h
  have hs : sS (rmW w t) w := sS_of fun j hj => rmW_o (by omega)
  have r6 := rmW_6 hl t5
  have rc := rmW_c hl t5
  have r1 : ft (rmW w t) t 1 = ft w t 1 := rmW_s hl t5 (by decide) (by decide) (by decide) (by decide)
  have r2 : ft (rmW w t) t 2 = ft w t 2 := rmW_s hl t5 (by decide) (by decide) (by decide) (by decide)
  have r7 : ft (rmW w t) t 7 = ft w t 2 := by rw [rmW_t hl t5 (by decide), if_neg (by decide), if_pos rfl]
  have ro : ∀ j, (j < 56 ∨ 196 ≤ j) → gN (rmW w t) j = gN w j := fun j h => rmW_o (by omega)
  have f1 : fR (rmW w t) t = fR w t := congrArg nV r1
  have f2 : tO (rmW w t) t = tO w t := congrArg nV r2
  have f7 : atT (rmW w t) t = tO w t := congrArg nV r7
  have wl : (rmW w t).length = 602 := rmW_len.trans hl
  generalize rmW w t = w' at *
  refine ⟨⟨?_, (ro 203 (by omega)).trans H.A.2.1, h5, (ro 202 (by omega)).trans H.A.2.2.2.1, hS⟩, fun s h => hs.qwS h (H.St h), fun u h => ?_, ⟨fun a b ha hb hab hc1 => ?_, fun a b ha hb hab h1 h2 => ?_⟩, ⟨fun k h => ?_, fun u h => ?_, fun j k hj hk => ?_⟩, ?_, ?_, fun k h => ?_⟩
  · exact wl
  · by_cases e : u = t
    · rw [e]
      unfold wTr onW
      rw [f1, f2, f7, r1, r2, r6, r7]
      exact ⟨hT.1, hT.2.1, hT.2.2.1, Or.inr (Or.inr (Or.inr rfl)), fun _ => hT.2.1, fun z => by rcases z with z | z <;> exact absurd z (by decide), fun _ => rfl, fun z => absurd z (by decide), fun z => absurd z (by decide)⟩
    · exact (hu u e).qwT hs hS (H.T h)
  · by_cases e : a = t
    · rw [e, rc] at hc1; omega
    · by_cases e2 : b = t
      · rw [e2, rc]; omega
      · rw [(hu a e).qcL] at hc1 ⊢
        rw [(hu b e2).qcL]
        exact H.D.1 a b ha hb hab hc1
  · by_cases e : a = t
    · rw [e, r6] at h1; exact absurd h1 (by decide)
    · by_cases e2 : b = t
      · rw [e2, r6] at h2; exact absurd h2 (by decide)
      · rw [hu a e 6 (by decide)] at h1
        rw [hu b e2 6 (by decide)] at h2
        rw [(hu a e).qsC, (hu b e2).qsC]
        exact H.D.2 a b ha hb hab h1 h2
  · rw [ro _ (by omega)]; exact H.R.1 k h
  · obtain ⟨k, g1, g2⟩ := H.R.2.1 u h
    exact ⟨k, g1, by rw [ro _ (by omega)]; exact g2⟩
  · rw [ro _ (by omega), ro _ (by omega)]
    exact H.R.2.2 j k hj hk
  · have e1 : eN w' = eN w := congrArg nV (ro 309 (by omega))
    have g1 : ∀ k, k < 6 → gM w' k = gM w k := fun k hk => congrArg nV (ro _ (by omega))
    have hev : ∀ u, u < n → eV w u ≤ eV w' u := fun u hun => by
      by_cases e : u = t
      · rw [e]
        unfold eV
        rw [r6, f7, f1, if_neg (show ¬ (3 : Int32) = 0 by decide), if_neg (show ¬ (3 : Int32) = 2 by decide)]
        by_cases c0 : ft w t 6 = 0
        · rw [if_pos c0]; omega
        rw [if_neg c0]
        by_cases c2 : ft w t 6 = 2
        · rw [if_pos c2]
          have := hT.2.2.2.2.2.1 (Or.inr c2)
          unfold onW at this
          omega
        · rw [if_neg c2]
          by_cases c1 : ft w t 6 = 1
          · have := hT.2.2.2.2.2.1 (Or.inl c1)
            unfold onW at this
            omega
          · have c3 : ft w t 6 = 3 := by rcases hT.2.2.2.1 with e | e | e | e <;> first | exact e | contradiction
            rw [hT.2.2.2.2.2.2.1 c3]
            exact Nat.le_refl _
      · rw [(hu u e).qeV]
        exact Nat.le_refl _
    have hgv : ∀ k u, u < n → gV w k u ≤ gV w' k u := fun k u hun => by
      by_cases e : u = t
      · rw [e]
        unfold gV
        rw [r6, f7, f1, f2, if_neg (show ¬ (3 : Int32) = 0 by decide), if_neg (show ¬ (3 : Int32) = 2 by decide), Nat.add_zero, Nat.add_zero]
        by_cases c0 : ft w t 6 = 0
        · rw [if_pos c0]; omega
        rw [if_neg c0]
        have key : onW w t ∨ (¬ ft w t 6 = 2 ∧ atT w t = tO w t) := by
          rcases hT.2.2.2.1 with e | e | e | e
          · exact absurd e c0
          · exact Or.inl (hT.2.2.2.2.2.1 (Or.inl e))
          · exact Or.inl (hT.2.2.2.2.2.1 (Or.inr e))
          · exact Or.inr ⟨by rw [e]; decide, hT.2.2.2.2.2.2.1 e⟩
        rcases key with key | ⟨k1, k2⟩
        · unfold onW at key
          have hb : (if ft w t 6 = 2 then 1 else 0) ≤ 1 := by split <;> omega
          generalize (if ft w t 6 = 2 then 1 else 0) = b at hb
          by_cases d : fR w t < tO w t
          · rw [if_pos d, if_pos d]
            by_cases c : fR w t ≤ k ∧ k < atT w t + b
            · rw [if_pos c, if_pos (by omega)]; exact Nat.le_refl _
            · rw [if_neg c]; exact Nat.zero_le _
          · rw [if_neg d, if_neg d]
            by_cases c : k < fR w t ∧ atT w t ≤ k + b
            · rw [if_pos c, if_pos (by omega)]; exact Nat.le_refl _
            · rw [if_neg c]; exact Nat.zero_le _
        · rw [if_neg k1, k2, Nat.add_zero, Nat.add_zero]
          exact Nat.le_refl _
      · rw [(hu u e).qgV]
        exact Nat.le_refl _
    exact ⟨by rw [e1, ro 309 (by omega)]; exact H.E.1, fun k hk => by rw [g1 k hk, ro _ (by omega)]; exact H.E.2.1 k hk, by rw [e1]; have := H.E.2.2.1; have := sumN_mono hev; omega, fun k hk => by rw [g1 k hk]; have := H.E.2.2.2 k hk; have := sumN_mono (hgv k); omega⟩
  · obtain ⟨m, g1, g2, g3⟩ := H.L
    refine ⟨m, g1, by rw [ro 296 (by omega)]; exact g2, fun k hm => ?_⟩
    obtain ⟨a, s, q, g4, g5, g6, g7, g8, g9, g10⟩ := g3 k hm
    exact ⟨a, s, q, g4, g5, g6, g7, by rw [ro _ (by omega)]; exact g8, by rw [ro _ (by omega)]; exact g9, by rw [ro _ (by omega)]; exact g10⟩
  · rw [ro _ (by omega), ro _ (by omega)]
    exact H.P k h
end RM
section RX
variable {n S : Nat} {w ph sp ce ri du cm lf pfa prs prr tra len frm tto wei fit way rid lon rk sta he lkd sea row us pms pmm pmt pst pwa : List Int32} {shu bus cel mi pev lks : Int32} {t : Nat}
/-- the class takes it out -/
theorem x_rem (V : rV n S w shu lks rk sta he lkd 0 sea row bus ph sp ce du ri cm lf pfa pev prs prr mi us pms pmm pmt pst pwa) (Y : qY n S w tra len frm tto wei fit way rid lon cel) (ht : t < n) {z : Int32 × List Int32 × List Int32 × List Int32} (hz : x_remove bus ph sp ce ri tto (nI t) = z) :
    rV n S (rmW w t) shu lks rk sta he lkd 0 sea row z.1 z.2.1 sp z.2.2.1 du z.2.2.2 cm lf pfa pev prs prr mi us pms pmm pmt pst pwa := by
  obtain ⟨H, ⟨P, B, I, Dd, C, N, G⟩, O, U, K, Q, T, ls, lr⟩ := V
  have h5 := H.n5
  have hS := H.S7
  have hl := H.len
  have hT := H.T ht
  have t5 : t < 5 := by omega
  have H' := H.rmV ht
  have r6 := rmW_6 hl t5
  have rc := rmW_c hl t5
  have ro : ∀ j, (j < 56 ∨ 196 ≤ j) → gN (rmW w t) j = gN w j := fun j h => rmW_o (by omega)
  have rk' := fun (u k : Nat) (hk : k < 28) (h1 : k ≠ 6) (h2 : k ≠ 7) (h3 : k ≠ 11) => rmW_k (u := u) hl t5 hk h1 h2 h3
  have ru : ∀ u, u ≠ t → sT (rmW w t) w u := fun u h => rmW_u h
  have r11 : ft (rmW w t) t 11 = ft w t (13 + tO w t) := by rw [rmW_t hl t5 (by decide), if_pos rfl]
  have r2 : tO (rmW w t) t = tO w t := congrArg nV (rk' t 2 (by decide) (by decide) (by decide) (by decide))
  have hcl : cL w t = 99 ∨ cL w t < 21 := by
    rcases cI_or H.g ht with e | e
    · exact Or.inr e.1
    · exact Or.inl e.1
  obtain ⟨tk1, tk2⟩ := take_B (w' := rmW w t) (x2 := -1) h5 H.D.1 B ht P.1.2.2 (P.pce ht) hcl (fun u _ hne => (ru u hne).qcL) (by rw [rc]; rfl) (Or.inl rc)
  have ez : z.1 = (x_takeCell bus ce (nI t) (-1)).1 ∧ z.2.1 = ph.set t 3 ∧ z.2.2.1 = ce.set t (-1) ∧ z.2.2.2 = if ft w t 6 = 2 then ri.set (sC w t) (-1) else ri := by
    unfold x_remove at hz
    rw [gA_n (l := ph) (by omega), P.pph ht] at hz
    by_cases c : ft w t 6 = 2
    · rw [if_pos c] at hz
      obtain ⟨-, y2⟩ := x_next H.g P Y ht (Or.inr c)
      have hsc := (hT.next hS (by omega) (Or.inr c)).2.2.2.1
      rw [y2, sA_n (by omega), sA_n (by omega)] at hz
      rw [← hz, if_pos c]
      exact ⟨rfl, rfl, tk1, rfl⟩
    · rw [if_neg c, sA_n (by omega)] at hz
      rw [← hz, if_neg c]
      exact ⟨rfl, rfl, tk1, rfl⟩
  obtain ⟨z1, z2, z3, z4⟩ := ez
  rw [z1, z2, z3, z4]
  generalize rmW w t = w' at *
  refine ⟨H', ⟨⟨⟨by rw [List.length_set]; exact P.1.1, P.1.2.1, by rw [List.length_set]; exact P.1.2.2⟩, fun u hu => ?_⟩, tk2, ⟨?_, fun k hk => ?_⟩, ⟨Dd.1, fun u hu h6 => ?_⟩, ⟨C.1, fun u s hu hs => ?_⟩, fun u hu h6 => ?_, Or.inl rfl⟩, ⟨?_, fun k hk => ?_, fun u hu => ?_, ?_, fun i hi => ?_⟩, rU.frame U (fun s k hs hk => ro _ (by omega)), ⟨K.1, fun k hk => ?_⟩, Or.inl rfl, fun u hu h6 => ?_, ls, lr⟩
  · by_cases c : u = t
    · rw [c, gN_eq (by have := P.1.1; omega), gN_eq (by have := P.1.2.2; omega), r6, rc]
      exact ⟨rfl, fun q => by rcases q with q | q <;> exact absurd q (by decide), rfl⟩
    · rw [gN_ne (fun q => c q.symm), gN_ne (fun q => c q.symm), ru u c 6 (by decide), ru u c 7 (by decide), (ru u c).qcL]
      exact P.2 u hu
  · split
    · rw [List.length_set]; exact I.1
    · exact I.1
  · by_cases c6 : ft w t 6 = 2
    · rw [if_pos c6]
      by_cases c : k = sC w t
      · rw [c, gN_eq (by have := I.1; have := (hT.next hS (by omega) (Or.inr c6)).2.2.2.1; omega)]
        refine ((fnd_n (by omega)).mpr fun u hun => ?_).symm
        unfold onS
        by_cases d : u = t
        · rw [d, r6]; rfl
        · rw [ru u d 6 (by decide), (ru u d).qsC]
          by_cases e : ft w u 6 = 2
          · rw [decide_eq_true e, Bool.true_and]
            exact Bool.eq_false_iff.mpr (fun q => H.D.2 u t hun ht d e c6 (Nat.beq_eq.mp q))
          · rw [decide_eq_false e, Bool.false_and]
      · rw [gN_ne (fun q => c q.symm), I.2 k hk]
        refine fnd_congr fun u _ hun => ?_
        unfold onS
        by_cases d : u = t
        · rw [d, r6, decide_eq_true c6, Bool.true_and]
          show Nat.beq (sC w t) k = (decide ((3 : Int32) = 2) && _)
          rw [decide_eq_false (by decide), Bool.false_and]
          exact Bool.eq_false_iff.mpr (fun q => c (Nat.beq_eq.mp q).symm)
        · rw [ru u d 6 (by decide), (ru u d).qsC]
    · rw [if_neg c6, I.2 k hk]
      refine fnd_congr fun u _ hun => ?_
      unfold onS
      by_cases d : u = t
      · rw [d, r6, decide_eq_false c6, decide_eq_false (show ¬ (3 : Int32) = 2 by decide), Bool.false_and, Bool.false_and]
      · rw [ru u d 6 (by decide), (ru u d).qsC]
  · by_cases c : u = t
    · rw [c, r6] at h6; exact absurd h6 (by decide)
    · rw [ru u c 6 (by decide)] at h6
      rw [ru u c 9 (by decide)]
      exact Dd.2 u hu h6
  · rw [rk' u _ (by omega) (by omega) (by omega) (by omega), rk' u _ (by omega) (by omega) (by omega) (by omega)]
    exact C.2 u s hu hs
  · by_cases c : u = t
    · rw [c, r11, r2, rk' t (13 + tO w t) (by have := hT.2.1.2; omega) (by omega) (by omega) (by omega)]
    · rw [ru u c 6 (by decide)] at h6
      rw [(ru u c).qtO, ru u c 11 (by decide), ru u c _ (by have := (H.T hu).2.1.2; omega)]
      exact N u hu h6
  · rw [ro 201 (by omega)]; exact O.1
  · rw [ro _ (by omega)]; exact O.2.1 k hk
  · rw [rk' u 3 (by decide) (by decide) (by decide) (by decide), rk' u 10 (by decide) (by decide) (by decide) (by decide)]
    exact O.2.2.1 u hu
  · rw [ro 296 (by omega)]; exact O.2.2.2.1
  · rw [ro _ (by omega)]; exact O.2.2.2.2 i hi
  · rw [ro _ (by omega)]; exact K.2 k hk
  · by_cases c : u = t
    · rw [c, r6] at h6; exact absurd h6 (by decide)
    · have z := ru u c
      have := (H.T hu).1.2
      rw [z.qaT, z.qfR, z 6 (by decide), z (13 + fR w u) (by omega), ro 201 (by omega)] at *
      exact T u hu h6
/-- the price of all but one -/
theorem x_prX_l (H : wf n S w) (P : rP n w ph sp ce) (C : rC n w cm lf) (N : wEn n w) (O : rO n w mi lks rk sta he lkd) (Y : qY n S w tra len frm tto wei fit way rid lon cel) (ht : t < n) : ∀ (f i : Nat) (a : Int32), i + f = n → x_price_l4 sta ph cm tto wei lon (nI t) f (nI i) a = lq (fun i a => if i = t then a else a + pT w i) f i a
  | 0, _, _, _ => rfl
  | f + 1, i, a, e => by
    have h5 := H.n5
    unfold x_price_l4
    rw [nI_1, x_prX_l H P C N O Y ht f (i + 1) _ (by omega)]
    show _ = lq _ f (i + 1) (if i = t then a else a + pT w i)
    congr 1
    by_cases c : i = t
    · rw [if_pos c, if_pos (by rw [c])]
    · rw [if_neg c, if_neg (fun z => c ((nI_eq (by omega) (by omega)).mp z)), gA_n (l := wei) (by omega), Y.pwei (by omega), gA_n (l := ph) (by omega), P.pph (by omega), x_del H P C N O Y (by omega)]
      unfold pT
      by_cases c3 : ft w i 6 = 3
      · rw [if_pos c3, if_pos c3, if_pos c3]
      · rw [if_neg c3, if_neg c3]
theorem x_prX (H : wf n S w) (P : rP n w ph sp ce) (C : rC n w cm lf) (N : wEn n w) (O : rO n w mi lks rk sta he lkd) (Y : qY n S w tra len frm tto wei fit way rid lon cel) (ht : t < n) : x_price sta ph cm (nI n) tto wei lon (nI t) = prX n w t := by
  unfold x_price prX
  rw [lpN_n0 (by have := H.n5; omega)]
  exact x_prX_l H P C N O Y ht n 0 0 (Nat.zero_add n)
end RX

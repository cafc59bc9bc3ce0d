/-! acts: link, cut -/
def shf : Nat → Nat → List Int32 → List Int32
  | 0, _, l => l
  | f + 1, i, l => shf f (i + 1) (l.set i (gN l (i + 3)))
theorem shf_len : ∀ (f i : Nat) (l : List Int32), (shf f i l).length = l.length
  | 0, _, _ => rfl
  | f + 1, i, l => by
    unfold shf
    rw [shf_len f (i + 1), List.length_set]
theorem shf_gN : ∀ (f i : Nat) (l : List Int32) (j : Nat), i + f ≤ l.length → gN (shf f i l) j = if i ≤ j ∧ j < i + f then gN l (j + 3) else gN l j
  | 0, i, l, j, e => by
    rw [if_neg (by omega)]
    rfl
  | f + 1, i, l, j, e => by
    unfold shf
    rw [shf_gN f (i + 1) _ j (by rw [List.length_set]; omega)]
    by_cases c : i + 1 ≤ j ∧ j < i + 1 + f
    · rw [if_pos c, if_pos (by omega), gN_ne (by omega)]
    · rw [if_neg c]
      by_cases d : j = i
      · rw [if_pos (by omega), d, gN_eq (by omega)]
      · rw [if_neg (by omega), gN_ne (fun z => d z.symm)]
theorem drops_l {v1 : Int32} : ∀ (f i : Nat) (w : List Int32), i + f < 2 ^ 30 → m_dropsLink_l8 v1 f (nI i) w = (shf f i w).set 296 (gN (shf f i w) 296 - 1)
  | 0, i, w, e => by
    unfold m_dropsLink_l8 shf
    show sA w (nI 296) (gA w (nI 296) - 1) = _
    rw [sA_n (by omega), gA_n (by omega)]
  | f + 1, i, w, e => by
    unfold m_dropsLink_l8 shf
    dsimp only
    rw [show nI i + 3 = nI (i + 3) from nI_add i 3, nI_1, sA_n (by omega), gA_n (by omega)]
    exact drops_l f (i + 1) _ (by omega)
theorem remove_l {v1 lks : Int32} : ∀ (f i : Nat) (lkd : List Int32), i + f < 2 ^ 30 → x_removeLink_l4 v1 f (nI i) lks lkd = (lks - 1, shf f i lkd)
  | 0, i, lkd, e => rfl
  | f + 1, i, lkd, e => by
    unfold x_removeLink_l4 shf
    dsimp only
    rw [show nI i + 3 = nI (i + 3) from nI_add i 3, nI_1, sA_n (by omega), gA_n (by omega)]
    exact remove_l f (i + 1) _ (by omega)
theorem n3 (k : Nat) : (3 : Int32) * nI k = nI (3 * k) := nI_mul 3 k
theorem drops_n {w : List Int32} {k : Nat} (hk : k < 4) : m_dropsLink w (nI k) = (shf (9 - 3 * k) (297 + 3 * k) w).set 296 (gN (shf (9 - 3 * k) (297 + 3 * k) w) 296 - 1) := by
  unfold m_dropsLink
  rw [n3, show (297 : Int32) + nI (3 * k) = nI (297 + 3 * k) from nI_add 297 _, show nI (297 + 3 * k) + 3 = nI (297 + 3 * k + 3) from nI_add _ 3, show (309 : Int32) = nI 309 from rfl, lpN_nn (by omega) (by omega), show 309 - (297 + 3 * k + 3) = 9 - 3 * k by omega]
  exact drops_l _ _ w (by omega)
theorem remove_n {lkd : List Int32} {m k : Nat} (hm : m ≤ 4) (hk : k < m) : x_removeLink (nI m) lkd (nI k) = (nI (m - 1), shf (3 * (m - 1) - 3 * k) (3 * k) lkd) := by
  unfold x_removeLink
  rw [nI_sub1 (by omega), n3, n3, lpN_nn (by omega) (by omega), remove_l _ _ lkd (by omega), nI_sub1 (by omega)]
section WAF
variable {n S : Nat} {w w' ph sp ce ri du cm lf pfa prs prr tra len frm tto wei fit way rid lon rk sta he lkd sea row us pms pmm pmt pst pwa : List Int32} {shu bus cel mi pk pev lks sst th sst' acs : Int32} {kp : List Int32} {t : Nat}
theorem wf.aF (H : wf n S w) (F : aF w' w) (hsh : ∀ s k, s < 7 → k < 3 → fs w' s (5 + k) = 0 ∨ fs w' s (5 + k) = 1) (R : wRk n w') (L : wL n S w') : wf n S w' := by
  have h5 := H.n5
  have hS := H.S7
  have em : ∀ s, s < 7 → mN w' s = mN w s := fun s hs => congrArg nV (F.2 _ (aX_s hs (by decide)))
  refine ⟨⟨F.1, by rw [F.2 203 (aX_j (by omega))]; exact H.A.2.1, h5, by rw [F.2 202 (aX_j (by omega))]; exact H.A.2.2.2.1, hS⟩, fun s hs => ⟨?_, ?_, fun k hk => hsh s k hs hk⟩, fun u hu => ?_, ⟨fun a b ha hb hab hc => ?_, fun a b ha hb hab h1 h2 => ?_⟩, R, ⟨?_, fun k hk => ?_⟩, L, fun k hk => ?_⟩
  · rw [em s hs]; exact (F.2 _ (aX_s hs (by decide))).trans (H.St hs).1
  · rw [em s hs]; exact (H.St hs).2.1
  · have z := F.p (t := u) (by omega)
    have hT := H.T hu
    have hn7 : ft w u 6 = 2 → nxT w u < 7 := fun e => by
      have := ((hT.next hS (by omega) (Or.inr e))).2.2.1
      omega
    obtain ⟨a1, a2, a3, a4, a5, a6, a7, a8, a9⟩ := hT
    unfold wTr
    rw [z.qfR, z.qtO, z.qaT, z.qkT, z.qnX, z.qonW, z 1 (by decide), z 2 (by decide), z 6 (by decide), z 7 (by decide), z 8 (by decide)]
    refine ⟨a1, a2, a3, a4, a5, a6, a7, fun e => ?_, fun e => ?_⟩
    · rw [em _ (by have := (a5 (by rw [e]; decide)).2; omega)]; exact a8 e
    · rcases a9 e with g | ⟨g1, g2, g3⟩
      · exact Or.inl g
      · exact Or.inr ⟨g1, g2, by rw [em _ (hn7 e)]; exact g3⟩
  · rw [(F.p (t := a) (by omega)).qcL] at hc ⊢
    rw [(F.p (t := b) (by omega)).qcL]
    exact H.D.1 a b ha hb hab hc
  · rw [(F.p (t := a) (by omega)) 6 (by decide)] at h1
    rw [(F.p (t := b) (by omega)) 6 (by decide)] at h2
    rw [(F.p (t := a) (by omega)).qsC, (F.p (t := b) (by omega)).qsC]
    exact H.D.2 a b ha hb hab h1 h2
  · rw [F.2 309 (aX_j (by omega)), H.E.1, sumN_congr (f' := eV w') (fun u hu => (F.p (t := u) (by omega)).qeV)]
  · rw [F.2 _ (aX_j (by omega)), H.E.2 k hk, sumN_congr (f' := gV w' k) (fun u hu => (F.p (t := u) (by omega)).qgV k)]
  · rw [F.2 _ (aX_j (by omega)), F.2 _ (aX_j (by omega))]
    exact H.P k hk
theorem wRk.same (R : wRk n w) (h5 : n ≤ 5) (h : ∀ j, 196 ≤ j → j < 201 → gN w' j = gN w j) : wRk n w' := by
  refine ⟨fun k hk => ?_, fun t ht => ?_, fun j k hj hk => ?_⟩
  · rw [h _ (by omega) (by omega)]; exact R.1 k hk
  · obtain ⟨k, g1, g2⟩ := R.2.1 t ht
    exact ⟨k, g1, by rw [h _ (by omega) (by omega)]; exact g2⟩
  · rw [h _ (by omega) (by omega), h _ (by omega) (by omega)]
    exact R.2.2 j k hj hk
/-- only the LINKs are written -/
def lF (w' w : List Int32) : Prop := w'.length = 602 ∧ ∀ j, j < 296 ∨ 309 ≤ j → gN w' j = gN w j
theorem lF.aF (F : lF w' w) : aF w' w := ⟨F.1, fun j hj => F.2 j (by unfold aX at hj; omega)⟩
theorem rV.lF {lks' : Int32} {lkd' : List Int32} (V : rV n S w shu lks rk sta he lkd pk sea row bus ph sp ce du ri cm lf pfa pev prs prr mi us pms pmm pmt pst pwa) (Y : qY n S w tra len frm tto wei fit way rid lon cel) (F : lF w' w) (L : wL n S w') (h1 : lks' = gN w' 296) (h2 : ∀ i, i < 3 * nV lks' → gN lkd' i = gN w' (297 + i)) : rV n S w' shu lks' rk sta he lkd' pk sea row bus ph sp ce du ri cm lf pfa pev prs prr mi us pms pmm pmt pst pwa ∧ qY n S w' tra len frm tto wei fit way rid lon cel := by
  have H := V.1
  have h5 := H.n5
  have O := V.2.2.1
  have W : wf n S w' := H.aF F.aF (fun s k hs hk => by
    rw [show fs w' s (5 + k) = fs w s (5 + k) from F.2 _ (by omega)]
    exact (H.St hs).2.2 k hk) (H.R.same h5 (fun j _ _ => F.2 j (by omega))) L
  refine ⟨V.aF F.aF W (V.2.1.2.2.2.1.aF F.aF h5 (fun t ht => F.2 _ (by omega))) ⟨?_, fun k hk => ?_, fun t ht => ?_, h1, h2⟩ (rU.frame V.2.2.2.1 (fun s k hs hk => F.2 _ (by omega))), Y.aF F.aF H.g W.g⟩
  · rw [F.2 201 (by omega)]; exact O.1
  · rw [F.2 _ (by omega)]; exact O.2.1 k hk
  · rw [show ft w' t 3 = ft w t 3 from F.2 _ (by omega), show ft w' t 10 = ft w t 10 from F.2 _ (by omega)]; exact O.2.2.1 t ht
theorem ea_cut (V : rV n S w shu lks rk sta he lkd pk sea row bus ph sp ce du ri cm lf pfa pev prs prr mi us pms pmm pmt pst pwa) (Y : qY n S w tra len frm tto wei fit way rid lon cel) (hl : lkd.length = 12) (x1 : Int32) :
    eA (x_acut lks lkd sst x1).1 (x_acut lks lkd sst x1).2.1 (x_acut lks lkd sst x1).2.2.2.2 (m_cut th sst' acs w kp x1) acs kp w ((x_acut lks lkd sst x1).2.2.1 = lks ∧ (x_acut lks lkd sst x1).2.2.2.1 = lkd) (fun w' => (x_acut lks lkd sst x1).2.2.2.1.length = 12 ∧ rV n S w' shu (x_acut lks lkd sst x1).2.2.1 rk sta he (x_acut lks lkd sst x1).2.2.2.1 pk sea row bus ph sp ce du ri cm lf pfa pev prs prr mi us pms pmm pmt pst pwa ∧ qY n S w' tra len frm tto wei fit way rid lon cel) := by
  have H := V.1
  have h5 := H.n5
  have O := V.2.2.1
  obtain ⟨m, m1, m2, m3⟩ := H.L
  have el : lks = nI m := O.2.2.2.1.trans m2
  subst el
  unfold x_acut m_cut
  rw [gA_296, m2]
  by_cases c1 : x1 < 0
  · rw [if_pos c1, if_pos c1]; exact ⟨rfl, rfl, Or.inl ⟨rfl, ⟨rfl, rfl⟩, rfl⟩⟩
  rw [if_neg c1, if_neg c1]
  by_cases c2 : x1 < nI m
  · rw [if_pos c2, if_pos c2]
    obtain ⟨k, hk, rfl⟩ : ∃ k, k < m ∧ x1 = nI k := by
      rw [Int32.lt_iff_toInt_lt, nI_toInt (by omega)] at c2
      rw [Int32.lt_iff_toInt_lt, show (0 : Int32).toInt = 0 from rfl] at c1
      exact ⟨x1.toInt.toNat, by omega, Int32.toInt_inj.mp (by rw [nI_toInt (by omega)]; omega)⟩
    rw [remove_n m1 hk, drops_n (by omega)]
    have hw := H.len
    have sg := fun j => shf_gN (9 - 3 * k) (297 + 3 * k) w j (by omega)
    have sl := shf_len (9 - 3 * k) (297 + 3 * k) w
    have sk := fun j => shf_gN (3 * (m - 1) - 3 * k) (3 * k) lkd j (by omega)
    have e6 : gN (shf (9 - 3 * k) (297 + 3 * k) w) 296 - 1 = nI (m - 1) := by
      rw [sg 296, if_neg (by omega), m2, nI_sub1 (by omega)]
    rw [e6]
    generalize shf (9 - 3 * k) (297 + 3 * k) w = w1 at sg sl
    have gj : ∀ i, i < 12 → gN (w1.set 296 (nI (m - 1))) (297 + i) = if 3 * k ≤ i ∧ i < 9 then gN w (297 + i + 3) else gN w (297 + i) := fun i hi => by
      rw [gN_ne (by omega), sg (297 + i)]
      by_cases c : 3 * k ≤ i ∧ i < 9
      · rw [if_pos c, if_pos (by omega)]
      · rw [if_neg c, if_neg (by omega)]
    have F : lF (w1.set 296 (nI (m - 1))) w := ⟨by rw [List.length_set, sl]; exact hw, fun j hj => by
      rw [gN_ne (by omega), sg j, if_neg (by omega)]⟩
    have g6 : gN (w1.set 296 (nI (m - 1))) 296 = nI (m - 1) := gN_eq (by omega)
    have Lk : wL n S (w1.set 296 (nI (m - 1))) := by
      refine ⟨m - 1, by omega, g6, fun k' hk' => ?_⟩
      by_cases c : k ≤ k'
      · obtain ⟨t, s, q, a1, a2, a3, a4, a5, a6, a7⟩ := m3 (k' + 1) (by omega)
        refine ⟨t, s, q, a1, a2, a3, a4, ?_, ?_, ?_⟩
        · rw [gj (3 * k') (by omega), if_pos (by omega)]; exact a5
        · rw [Nat.add_assoc, gj (3 * k' + 1) (by omega), if_pos (by omega)]; exact a6
        · rw [Nat.add_assoc, gj (3 * k' + 2) (by omega), if_pos (by omega)]; exact a7
      · obtain ⟨t, s, q, a1, a2, a3, a4, a5, a6, a7⟩ := m3 k' (by omega)
        refine ⟨t, s, q, a1, a2, a3, a4, ?_, ?_, ?_⟩
        · rw [gj (3 * k') (by omega), if_neg (by omega)]; exact a5
        · rw [Nat.add_assoc, gj (3 * k' + 1) (by omega), if_neg (by omega)]; exact a6
        · rw [Nat.add_assoc, gj (3 * k' + 2) (by omega), if_neg (by omega)]; exact a7
    have o5 := O.2.2.2.2
    rw [nV_n (by omega)] at o5
    have R := V.lF Y F Lk (lks' := nI (m - 1)) (lkd' := shf (3 * (m - 1) - 3 * k) (3 * k) lkd) g6.symm (fun i hi => by
      rw [nV_n (by omega)] at hi
      rw [sk i, gj i (by omega)]
      by_cases c : 3 * k ≤ i
      · rw [if_pos (by omega), if_pos (by omega), o5 (i + 3) (by omega)]
        rfl
      · rw [if_neg (by omega), if_neg (by omega), o5 i (by omega)])
    refine ⟨?_, rfl, Or.inr ⟨rfl, rfl, rfl, ?_, R⟩⟩
    · show nI (m - 1) = gA (w1.set 296 (nI (m - 1))) 296
      rw [gA_296, g6]
    · show (shf (3 * (m - 1) - 3 * k) (3 * k) lkd).length = 12
      rw [shf_len]; exact hl
  · rw [if_neg c2, if_neg c2]; exact ⟨rfl, rfl, Or.inl ⟨rfl, ⟨rfl, rfl⟩, rfl⟩⟩
end WAF

/-! acts: link, cut -/
def shf : Nat → Nat → List Int32 → List Int32
  | 0, _, l => l
  | f + 1, i, l => shf f (i + 1) (l.set i (gN l (i + 3)))
theorem shf_len : ∀ (f i : Nat) (l : List Int32), (shf f i l).length = l.length
  | 0, _, _ => rfl
  | f + 1, i, l => by
    unfold shf
    rw [shf_len f (i + 1), List.length_set]
theorem shf_gN : ∀ (f i : Nat) (l : List Int32) (j : Nat), i + f ≤ l.length → gN (shf f i l) j = if i ≤ j ∧ j < i + f then gN l (j + 3) else gN l j
  | 0, i, l, j, e => by
    rw [if_neg (by omega)]
    rfl
  | f + 1, i, l, j, e => by
    unfold shf
    rw [shf_gN f (i + 1) _ j (by rw [List.length_set]; omega)]
    by_cases c : i + 1 ≤ j ∧ j < i + 1 + f
    · rw [if_pos c, if_pos (by omega), gN_ne (by omega)]
    · rw [if_neg c]
      by_cases d : j = i
      · rw [if_pos (by omega), d, gN_eq (by omega)]
      · rw [if_neg (by omega), gN_ne (fun z => d z.symm)]
theorem drops_l {v1 : Int32} : ∀ (f i : Nat) (w : List Int32), i + f < 2 ^ 30 → m_dropsLink_l8 v1 f (nI i) w = (shf f i w).set 296 (gN (shf f i w) 296 - 1)
  | 0, i, w, e => by
    unfold m_dropsLink_l8 shf
    show sA w (nI 296) (gA w (nI 296) - 1) = _
    rw [sA_n (by omega), gA_n (by omega)]
  | f + 1, i, w, e => by
    unfold m_dropsLink_l8 shf
    dsimp only
    rw [show nI i + 3 = nI (i + 3) from nI_add i 3, nI_1, sA_n (by omega), gA_n (by omega)]
    exact drops_l f (i + 1) _ (by omega)
theorem remove_l {v1 lks : Int32} : ∀ (f i : Nat) (lkd : List Int32), i + f < 2 ^ 30 → x_removeLink_l4 v1 f (nI i) lks lkd = (lks - 1, shf f i lkd)
  | 0, i, lkd, e => rfl
  | f + 1, i, lkd, e => by
    unfold x_removeLink_l4 shf
    dsimp only
    rw [show nI i + 3 = nI (i + 3) from nI_add i 3, nI_1, sA_n (by omega), gA_n (by omega)]
    exact remove_l f (i + 1) _ (by omega)
theorem n3 (k : Nat) : (3 : Int32) * nI k = nI (3 * k) := nI_mul 3 k
theorem drops_n {w : List Int32} {k : Nat} (hk : k < 4) : m_dropsLink w (nI k) = (shf (9 - 3 * k) (297 + 3 * k) w).set 296 (gN (shf (9 - 3 * k) (297 + 3 * k) w) 296 - 1) := by
  unfold m_dropsLink
  rw [n3, show (297 : Int32) + nI (3 * k) = nI (297 + 3 * k) from nI_add 297 _, show nI (297 + 3 * k) + 3 = nI (297 + 3 * k + 3) from nI_add _ 3, show (309 : Int32) = nI 309 from rfl, lpN_nn (by omega) (by omega), show 309 - (297 + 3 * k + 3) = 9 - 3 * k by omega]
  exact drops_l _ _ w (by omega)
theorem remove_n {lkd : List Int32} {m k : Nat} (hm : m ≤ 4) (hk : k < m) : x_removeLink (nI m) lkd (nI k) = (nI (m - 1), shf (3 * (m - 1) - 3 * k) (3 * k) lkd) := by
  unfold x_removeLink
  rw [nI_sub1 (by omega), n3, n3, lpN_nn (by omega) (by omega), remove_l _ _ lkd (by omega), nI_sub1 (by omega)]
section WAF
variable {n S : Nat} {w w' ph sp ce ri du cm lf pfa prs prr tra len frm tto wei fit way rid lon rk sta he lkd sea row us pms pmm pmt pst pwa : List Int32} {shu bus cel mi pk pev lks sst th sst' acs : Int32} {kp : List Int32} {t : Nat}
theorem wf.aF (H : wf n S w) (F : aF w' w) (hsh : ∀ s k, s < 7 → k < 3 → fs w' s (5 + k) = 0 ∨ fs w' s (5 + k) = 1) (R : wRk n w') (L : wL n S w') : wf n S w' := by
  have h5 := H.n5
  have hS := H.S7
  have em : ∀ s, s < 7 → mN w' s = mN w s := fun s hs => congrArg nV (F.2 _ (aX_s hs (by decide)))
  refine ⟨⟨F.1, by rw [F.2 203 (aX_j (by omega))]; exact H.A.2.1, h5, by rw [F.2 202 (aX_j (by omega))]; exact H.A.2.2.2.1, hS⟩, fun s hs => ⟨?_, ?_, fun k hk => hsh s k hs hk⟩, fun u hu => ?_, ⟨fun a b ha hb hab hc => ?_, fun a b ha hb hab h1 h2 => ?_⟩, R, ⟨?_, fun k hk => ?_⟩, L, fun k hk => ?_⟩
  · rw [em s hs]; exact (F.2 _ (aX_s hs (by decide))).trans (H.St hs).1
  · rw [em s hs]; exact (H.St hs).2.1
  · have z := F.p (t := u) (by omega)
    have hT := H.T hu
    have hn7 : ft w u 6 = 2 → nxT w u < 7 := fun e => by
      have := ((hT.next hS (by omega) (Or.inr e))).2.2.1
      omega
    obtain ⟨a1, a2, a3, a4, a5, a6, a7, a8, a9⟩ := hT
    unfold wTr
    rw [z.qfR, z.qtO, z.qaT, z.qkT, z.qnX, z.qonW, z 1 (by decide), z 2 (by decide), z 6 (by decide), z 7 (by decide), z 8 (by decide)]
    refine ⟨a1, a2, a3, a4, a5, a6, a7, fun e => ?_, fun e => ?_⟩
    · rw [em _ (by have := (a5 (by rw [e]; decide)).2; omega)]; exact a8 e
    · rcases a9 e with g | ⟨g1, g2, g3⟩
      · exact Or.inl g
      · exact Or.inr ⟨g1, g2, by rw [em _ (hn7 e)]; exact g3⟩
  · rw [(F.p (t := a) (by omega)).qcL] at hc ⊢
    rw [(F.p (t := b) (by omega)).qcL]
    exact H.D.1 a b ha hb hab hc
  · rw [(F.p (t := a) (by omega)) 6 (by decide)] at h1
    rw [(F.p (t := b) (by omega)) 6 (by decide)] at h2
    rw [(F.p (t := a) (by omega)).qsC, (F.p (t := b) (by omega)).qsC]
    exact H.D.2 a b ha hb hab h1 h2
  · rw [F.2 309 (aX_j (by omega)), H.E.1, sumN_congr (f' := eV w') (fun u hu => (F.p (t := u) (by omega)).qeV)]
  · rw [F.2 _ (aX_j (by omega)), H.E.2 k hk, sumN_congr (f' := gV w' k) (fun u hu => (F.p (t := u) (by omega)).qgV k)]
  · rw [F.2 _ (aX_j (by omega)), F.2 _ (aX_j (by omega))]
    exact H.P k hk
theorem wRk.same (R : wRk n w) (h5 : n ≤ 5) (h : ∀ j, 196 ≤ j → j < 201 → gN w' j = gN w j) : wRk n w' := by
  refine ⟨fun k hk => ?_, fun t ht => ?_, fun j k hj hk => ?_⟩
  · rw [h _ (by omega) (by omega)]; exact R.1 k hk
  · obtain ⟨k, g1, g2⟩ := R.2.1 t ht
    exact ⟨k, g1, by rw [h _ (by omega) (by omega)]; exact g2⟩
  · rw [h _ (by omega) (by omega), h _ (by omega) (by omega)]
    exact R.2.2 j k hj hk
/-- only the LINKs are written -/
def lF (w' w : List Int32) : Prop := w'.length = 602 ∧ ∀ j, j < 296 ∨ 309 ≤ j → gN w' j = gN w j
theorem lF.aF (F : lF w' w) : aF w' w := ⟨F.1, fun j hj => F.2 j (by unfold aX at hj; omega)⟩
theorem rV.lF {lks' : Int32} {lkd' : List Int32} (V : rV n S w shu lks rk sta he lkd pk sea row bus ph sp ce du ri cm lf pfa pev prs prr mi us pms pmm pmt pst pwa) (Y : qY n S w tra len frm tto wei fit way rid lon cel) (F : lF w' w) (L : wL n S w') (h1 : lks' = gN w' 296) (h2 : ∀ i, i < 3 * nV lks' → gN lkd' i = gN w' (297 + i)) : rV n S w' shu lks' rk sta he lkd' pk sea row bus ph sp ce du ri cm lf pfa pev prs prr mi us pms pmm pmt pst pwa ∧ qY n S w' tra len frm tto wei fit way rid lon cel := by
  have H := V.1
  have h5 := H.n5
  have O := V.2.2.1
  have W : wf n S w' := H.aF F.aF (fun s k hs hk => by
    rw [show fs w' s (5 + k) = fs w s (5 + k) from F.2 _ (by omega)]
    exact (H.St hs).2.2 k hk) (H.R.same h5 (fun j _ _ => F.2 j (by omega))) L
  refine ⟨V.aF F.aF W (V.2.1.2.2.2.1.aF F.aF h5 (fun t ht => F.2 _ (by omega))) ⟨?_, fun k hk => ?_, fun t ht => ?_, h1, h2⟩ (rU.frame V.2.2.2.1 (fun s k hs hk => F.2 _ (by omega))), Y.aF F.aF H.g W.g⟩
  · rw [F.2 201 (by omega)]; exact O.1
  · rw [F.2 _ (by omega)]; exact O.2.1 k hk
  · rw [show ft w' t 3 = ft w t 3 from F.2 _ (by omega), show ft w' t 10 = ft w t 10 from F.2 _ (by omega)]; exact O.2.2.1 t ht
theorem ea_cut (V : rV n S w shu lks rk sta he lkd pk sea row bus ph sp ce du ri cm lf pfa pev prs prr mi us pms pmm pmt pst pwa) (Y : qY n S w tra len frm tto wei fit way rid lon cel) (hl : lkd.length = 12) (x1 : Int32) :
    eA (x_acut lks lkd sst x1).1 (x_acut lks lkd sst x1).2.1 (x_acut lks lkd sst x1).2.2.2.2 (m_cut th sst' acs w kp x1) acs kp w ((x_acut lks lkd sst x1).2.2.1 = lks ∧ (x_acut lks lkd sst x1).2.2.2.1 = lkd) (fun w' => (x_acut lks lkd sst x1).2.2.2.1.length = 12 ∧ rV n S w' shu (x_acut lks lkd sst x1).2.2.1 rk sta he (x_acut lks lkd sst x1).2.2.2.1 pk sea row bus ph sp ce du ri cm lf pfa pev prs prr mi us pms pmm pmt pst pwa ∧ qY n S w' tra len frm tto wei fit way rid lon cel) := by
  have H := V.1
  have h5 := H.n5
  have O := V.2.2.1
  obtain ⟨m, m1, m2, m3⟩ := H.L
  have el : lks = nI m := O.2.2.2.1.trans m2
  subst el
  unfold x_acut m_cut
  rw [gA_296, m2]
  by_cases c1 : x1 < 0
  · rw [if_pos c1, if_pos c1]; exact ⟨rfl, rfl, Or.inl ⟨rfl, ⟨rfl, rfl⟩, rfl⟩⟩
  rw [if_neg c1, if_neg c1]
  by_cases c2 : x1 < nI m
  · rw [if_pos c2, if_pos c2]
    obtain ⟨k, hk, rfl⟩ : ∃ k, k < m ∧ x1 = nI k := by
      rw [Int32.lt_iff_toInt_lt, nI_toInt (by omega)] at c2
      rw [Int32.lt_iff_toInt_lt, show (0 : Int32).toInt = 0 from rfl] at c1
      exact ⟨x1.toInt.toNat, by omega, Int32.toInt_inj.mp (by rw [nI_toInt (by omega)]; omega)⟩
    rw [remove_n m1 hk, drops_n (by omega)]
    have hw := H.len
    have sg := fun j => shf_gN (9 - 3 * k) (297 + 3 * k) w j (by omega)
    have sl := shf_len (9 - 3 * k) (297 + 3 * k) w
    have sk := fun j => shf_gN (3 * (m - 1) - 3 * k) (3 * k) lkd j (by omega)
    have e6 : gN (shf (9 - 3 * k) (297 + 3 * k) w) 296 - 1 = nI (m - 1) := by
      rw [sg 296, if_neg (by omega), m2, nI_sub1 (by omega)]
    rw [e6]
    generalize shf (9 - 3 * k) (297 + 3 * k) w = w1 at sg sl
    have gj : ∀ i, i < 12 → gN (w1.set 296 (nI (m - 1))) (297 + i) = if 3 * k ≤ i ∧ i < 9 then gN w (297 + i + 3) else gN w (297 + i) := fun i hi => by
      rw [gN_ne (by omega), sg (297 + i)]
      by_cases c : 3 * k ≤ i ∧ i < 9
      · rw [if_pos c, if_pos (by omega)]
      · rw [if_neg c, if_neg (by omega)]
    have F : lF (w1.set 296 (nI (m - 1))) w := ⟨by rw [List.length_set, sl]; exact hw, fun j hj => by
      rw [gN_ne (by omega), sg j, if_neg (by omega)]⟩
    have g6 : gN (w1.set 296 (nI (m - 1))) 296 = nI (m - 1) := gN_eq (by omega)
    have Lk : wL n S (w1.set 296 (nI (m - 1))) := by
      refine ⟨m - 1, by omega, g6, fun k' hk' => ?_⟩
      by_cases c : k ≤ k'
      · obtain ⟨t, s, q, a1, a2, a3, a4, a5, a6, a7⟩ := m3 (k' + 1) (by omega)
        refine ⟨t, s, q, a1, a2, a3, a4, ?_, ?_, ?_⟩
        · rw [gj (3 * k') (by omega), if_pos (by omega)]; exact a5
        · rw [Nat.add_assoc, gj (3 * k' + 1) (by omega), if_pos (by omega)]; exact a6
        · rw [Nat.add_assoc, gj (3 * k' + 2) (by omega), if_pos (by omega)]; exact a7
      · obtain ⟨t, s, q, a1, a2, a3, a4, a5, a6, a7⟩ := m3 k' (by omega)
        refine ⟨t, s, q, a1, a2, a3, a4, ?_, ?_, ?_⟩
        · rw [gj (3 * k') (by omega), if_neg (by omega)]; exact a5
        · rw [Nat.add_assoc, gj (3 * k' + 1) (by omega), if_neg (by omega)]; exact a6
        · rw [Nat.add_assoc, gj (3 * k' + 2) (by omega), if_neg (by omega)]; exact a7
    have o5 := O.2.2.2.2
    rw [nV_n (by omega)] at o5
    have R := V.lF Y F Lk (lks' := nI (m - 1)) (lkd' := shf (3 * (m - 1) - 3 * k) (3 * k) lkd) g6.symm (fun i hi => by
      rw [nV_n (by omega)] at hi
      rw [sk i, gj i (by omega)]
      by_cases c : 3 * k ≤ i
      · rw [if_pos (by omega), if_pos (by omega), o5 (i + 3) (by omega)]
        rfl
      · rw [if_neg (by omega), if_neg (by omega), o5 i (by omega)])
    refine ⟨?_, rfl, Or.inr ⟨rfl, rfl, rfl, ?_, R⟩⟩
    · show nI (m - 1) = gA (w1.set 296 (nI (m - 1))) 296
      rw [gA_296, g6]
    · show (shf (3 * (m - 1) - 3 * k) (3 * k) lkd).length = 12
      rw [shf_len]; exact hl
  · rw [if_neg c2, if_neg c2]; exact ⟨rfl, rfl, Or.inl ⟨rfl, ⟨rfl, rfl⟩, rfl⟩⟩
theorem link_l {v1 v2 v3 : Int32} {m : Nat} (m4 : m ≤ 4) (hk : ∀ k, k < m → gA lkd (3 * nI k) = m_link0 w (nI k) 0 ∧ gA lkd (3 * nI k + 1) = m_link0 w (nI k) 1 ∧ gA lkd (3 * nI k + 2) = m_link0 w (nI k) 2) : ∀ (f i : Nat) (v : Int32), i + f = m → (v = 0 ∨ v = 1) → ∃ v5, m_link_l45 v1 v2 v3 f (nI i) v th sst' acs kp w = m_link_l45 v1 v2 v3 0 v5 (if v = 0 then x_hasLink_l3 lkd v1 v2 v3 f (nI i) else 1) th sst' acs kp w
  | 0, i, v, e, hv => ⟨nI i, by
    rcases hv with rfl | rfl
    · rw [if_pos rfl]; rfl
    · rw [if_neg (by decide)]⟩
  | f + 1, i, v, e, hv => by
    obtain ⟨a, b, c⟩ := hk i (by omega)
    rw [m_link_l45, x_hasLink_l3, nI_1, a, b, c]
    rcases hv with rfl | rfl
    · rw [if_pos rfl, if_pos rfl]
      by_cases c1 : m_link0 w (nI i) 0 = v1
      · rw [if_pos c1, if_pos c1]
        by_cases c2 : m_link0 w (nI i) 1 = v2
        · rw [if_pos c2, if_pos c2]
          by_cases c3 : m_link0 w (nI i) 2 = v3
          · rw [if_pos c3, if_pos c3]
            obtain ⟨v5, h⟩ := link_l m4 hk f (i + 1) 1 (by omega) (Or.inr rfl)
            exact ⟨v5, by rw [h, if_neg (by decide)]⟩
          · rw [if_neg c3, if_neg c3]
            obtain ⟨v5, h⟩ := link_l m4 hk f (i + 1) 0 (by omega) (Or.inl rfl)
            exact ⟨v5, by rw [h, if_pos rfl]⟩
        · rw [if_neg c2, if_neg c2]
          obtain ⟨v5, h⟩ := link_l m4 hk f (i + 1) 0 (by omega) (Or.inl rfl)
          exact ⟨v5, by rw [h, if_pos rfl]⟩
      · rw [if_neg c1, if_neg c1]
        obtain ⟨v5, h⟩ := link_l m4 hk f (i + 1) 0 (by omega) (Or.inl rfl)
        exact ⟨v5, by rw [h, if_pos rfl]⟩
    · rw [if_neg (show ¬ (1 : Int32) = 0 by decide), if_neg (show ¬ (1 : Int32) = 0 by decide)]
      obtain ⟨v5, h⟩ := link_l m4 hk f (i + 1) 1 (by omega) (Or.inr rfl)
      exact ⟨v5, by rw [h, if_neg (by decide)]⟩
/-- one LINK more -/
def lkA (w : List Int32) (m : Nat) (a b c : Int32) : List Int32 := (((w.set (297 + 3 * m) a).set (297 + 3 * m + 1) b).set (297 + 3 * m + 2) c).set 296 (nI (m + 1))
theorem lkA_gN (hw : w.length = 602) {m : Nat} (hm : m < 4) {a b c : Int32} (j : Nat) : gN (lkA w m a b c) j = if j = 296 then nI (m + 1) else if j = 297 + 3 * m + 2 then c else if j = 297 + 3 * m + 1 then b else if j = 297 + 3 * m then a else gN w j := by
  unfold lkA
  by_cases c0 : j = 296
  · rw [if_pos c0, c0, gN_eq (by rw [List.length_set, List.length_set, List.length_set]; omega)]
  rw [if_neg c0, gN_ne (fun z => c0 z.symm)]
  by_cases c1 : j = 297 + 3 * m + 2
  · rw [if_pos c1, c1, gN_eq (by rw [List.length_set, List.length_set]; omega)]
  rw [if_neg c1, gN_ne (fun z => c1 z.symm)]
  by_cases c2 : j = 297 + 3 * m + 1
  · rw [if_pos c2, c2, gN_eq (by rw [List.length_set]; omega)]
  rw [if_neg c2, gN_ne (fun z => c2 z.symm)]
  by_cases c3 : j = 297 + 3 * m
  · rw [if_pos c3, c3, gN_eq (by omega)]
  rw [if_neg c3, gN_ne (fun z => c3 z.symm)]
theorem ea_link (V : rV n S w shu lks rk sta he lkd pk sea row bus ph sp ce du ri cm lf pfa pev prs prr mi us pms pmm pmt pst pwa) (Y : qY n S w tra len frm tto wei fit way rid lon cel) (hl : lkd.length = 12) (x1 x2 x3 : Int32) :
    eA (x_alink lks lkd (nI S) (nI n) sst x1 x2 x3).1 (x_alink lks lkd (nI S) (nI n) sst x1 x2 x3).2.1 (x_alink lks lkd (nI S) (nI n) sst x1 x2 x3).2.2.2.2 (m_link th sst' acs w kp x1 x2 x3) acs kp w ((x_alink lks lkd (nI S) (nI n) sst x1 x2 x3).2.2.1 = lks ∧ (x_alink lks lkd (nI S) (nI n) sst x1 x2 x3).2.2.2.1 = lkd) (fun w' => (x_alink lks lkd (nI S) (nI n) sst x1 x2 x3).2.2.2.1.length = 12 ∧ rV n S w' shu (x_alink lks lkd (nI S) (nI n) sst x1 x2 x3).2.2.1 rk sta he (x_alink lks lkd (nI S) (nI n) sst x1 x2 x3).2.2.2.1 pk sea row bus ph sp ce du ri cm lf pfa pev prs prr mi us pms pmm pmt pst pwa ∧ qY n S w' tra len frm tto wei fit way rid lon cel) := by
  have H := V.1
  have h5 := H.n5
  have hS := H.S7
  have O := V.2.2.1
  obtain ⟨m, m1, m0, m2, m3⟩ := lnk H O
  have L0 := H.L
  subst m0
  unfold x_alink m_link
  rw [g_train H.g, g_train H.g, g_stat H.g, gA_296, m2, lpN_n0 (by omega)]
  by_cases c1 : m_isTrain w x1 = 0
  · rw [if_pos c1, if_pos c1]; exact ⟨rfl, rfl, Or.inl ⟨rfl, ⟨rfl, rfl⟩, rfl⟩⟩
  rw [if_neg c1, if_neg c1]
  by_cases c3 : m_isTrain w x3 = 0
  · rw [if_pos c3, if_pos c3]
    by_cases c2 : m_isStation w x2 = 0
    · rw [if_pos c2]; exact ⟨rfl, rfl, Or.inl ⟨rfl, ⟨rfl, rfl⟩, rfl⟩⟩
    · rw [if_neg c2]; exact ⟨rfl, rfl, Or.inl ⟨rfl, ⟨rfl, rfl⟩, rfl⟩⟩
  rw [if_neg c3, if_neg c3]
  by_cases c2 : m_isStation w x2 = 0
  · rw [if_pos c2, if_pos c2]; exact ⟨rfl, rfl, Or.inl ⟨rfl, ⟨rfl, rfl⟩, rfl⟩⟩
  rw [if_neg c2, if_neg c2]
  obtain ⟨t, ht, rfl⟩ := (isTrain_n H.g).mp c1
  obtain ⟨q, hq, rfl⟩ := (isTrain_n H.g).mp c3
  obtain ⟨s, hs, rfl⟩ := (stat_n H.g).mp c2
  have hk : ∀ k, k < m → gA lkd (3 * nI k) = m_link0 w (nI k) 0 ∧ gA lkd (3 * nI k + 1) = m_link0 w (nI k) 1 ∧ gA lkd (3 * nI k + 2) = m_link0 w (nI k) 2 := fun k hk => by
    obtain ⟨t', s', q', _, _, _, _, a1, a2, a3, b1, b2, b3⟩ := m3 k hk
    rw [a1, a2, a3, b1, b2, b3]
    exact ⟨rfl, rfl, rfl⟩
  by_cases c4 : nI t = nI q
  · rw [if_pos c4, if_pos c4]
    obtain ⟨v5, h⟩ := link_l (th := th) (sst' := sst') (acs := acs) (kp := kp) (v1 := nI t) (v2 := nI s) (v3 := nI q) m1 hk m 0 1 (by omega) (Or.inr rfl)
    rw [show (0 : Int32) = nI 0 from rfl, h, if_neg (by decide), m_link_l45, if_neg (by decide)]
    exact ⟨rfl, rfl, Or.inl ⟨rfl, ⟨rfl, rfl⟩, rfl⟩⟩
  rw [if_neg c4, if_neg c4]
  obtain ⟨v5, h⟩ := link_l (th := th) (sst' := sst') (acs := acs) (kp := kp) (v1 := nI t) (v2 := nI s) (v3 := nI q) m1 hk m 0 0 (by omega) (Or.inl rfl)
  rw [show m_link_l45 (nI t) (nI s) (nI q) m 0 0 th sst' acs kp w = _ from h, if_pos rfl, m_link_l45, gA_296, m2]
  have eh : x_hasLink (nI m) lkd (nI t) (nI s) (nI q) = x_hasLink_l3 lkd (nI t) (nI s) (nI q) m (nI 0) := by
    unfold x_hasLink
    rw [lpN_n0 (by omega)]
    rfl
  rw [eh]
  by_cases c5 : x_hasLink_l3 lkd (nI t) (nI s) (nI q) m (nI 0) = 0
  · rw [if_pos c5, if_pos c5]
    by_cases c6 : m = 4
    · have d1 : ¬ nI m < 4 := by rw [c6]; decide
      have d2 : nI m = 4 := by rw [c6]; rfl
      rw [if_neg d1, if_pos d2]
      exact ⟨rfl, rfl, Or.inl ⟨rfl, ⟨rfl, rfl⟩, rfl⟩⟩
    · have d1 : nI m < 4 := (nI_ltI (b := 4) (by omega) (by decide)).mpr (by omega)
      have d2 : ¬ nI m = 4 := fun z => c6 ((nI_eq (b := 4) (by omega) (by decide)).mp z)
      rw [if_pos d1, if_neg d2]
      unfold x_addLink
      rw [if_pos d1]
      dsimp only
      have i0 : (297 : Int32) + 3 * nI m = nI (297 + 3 * m) := by rw [n3]; exact nI_add 297 _
      rw [i0, n3, show nI (3 * m) + 1 = nI (3 * m + 1) from nI_add _ 1, show nI (3 * m) + 2 = nI (3 * m + 2) from nI_add _ 2, show nI (297 + 3 * m) + 1 = nI (297 + 3 * m + 1) from nI_add _ 1, show nI (297 + 3 * m) + 2 = nI (297 + 3 * m + 2) from nI_add _ 2, nI_1]
      rw [sA_n (by omega), sA_n (by omega), sA_n (by omega), sA_n (by omega), sA_n (by omega), sA_n (by omega)]
      have e9 : gA (((w.set (297 + 3 * m) (nI t)).set (297 + 3 * m + 1) (nI s)).set (297 + 3 * m + 2) (nI q)) 296 = nI m := by
        rw [gA_296, gN_ne (by omega), gN_ne (by omega), gN_ne (by omega), m2]
      rw [e9, nI_1, show ∀ (l : List Int32) (x : Int32), sA l 296 x = l.set 296 x from fun l x => sA_n (i := 296) (by decide)]
      have el : (((w.set (297 + 3 * m) (nI t)).set (297 + 3 * m + 1) (nI s)).set (297 + 3 * m + 2) (nI q)).set 296 (nI (m + 1)) = lkA w m (nI t) (nI s) (nI q) := rfl
      rw [el]
      have hw := H.len
      have G := fun j => lkA_gN hw (m := m) (by omega) (a := nI t) (b := nI s) (c := nI q) j
      have F : lF (lkA w m (nI t) (nI s) (nI q)) w := ⟨by unfold lkA; rw [List.length_set, List.length_set, List.length_set, List.length_set]; exact hw, fun j hj => by
        rw [G j, if_neg (by omega), if_neg (by omega), if_neg (by omega), if_neg (by omega)]⟩
      have g6 : gN (lkA w m (nI t) (nI s) (nI q)) 296 = nI (m + 1) := by rw [G 296, if_pos rfl]
      obtain ⟨m', n1, n2, n3'⟩ := L0
      have em : m' = m := (nI_eq (by omega) (by omega)).mp (n2.symm.trans m2)
      subst em
      have Lk : wL n S (lkA w m' (nI t) (nI s) (nI q)) := by
        refine ⟨m' + 1, by omega, g6, fun k hk => ?_⟩
        by_cases d : k = m'
        · subst d
          refine ⟨t, s, q, ht, hs, hq, fun z => c4 (by rw [z]), ?_, ?_, ?_⟩
          · rw [G, if_neg (by omega), if_neg (by omega), if_neg (by omega), if_pos rfl]
          · rw [G, if_neg (by omega), if_neg (by omega), if_pos rfl]
          · rw [G, if_neg (by omega), if_pos rfl]
        · obtain ⟨t', s', q', a1, a2, a3, a4, a5, a6, a7⟩ := n3' k (by omega)
          refine ⟨t', s', q', a1, a2, a3, a4, ?_, ?_, ?_⟩
          · rw [G, if_neg (by omega), if_neg (by omega), if_neg (by omega), if_neg (by omega)]; exact a5
          · rw [G, if_neg (by omega), if_neg (by omega), if_neg (by omega), if_neg (by omega)]; exact a6
          · rw [G, if_neg (by omega), if_neg (by omega), if_neg (by omega), if_neg (by omega)]; exact a7
      have o5 := O.2.2.2.2
      rw [nV_n (by omega)] at o5
      have R := V.lF Y F Lk (lks' := nI (m' + 1)) (lkd' := ((lkd.set (3 * m') (nI t)).set (3 * m' + 1) (nI s)).set (3 * m' + 2) (nI q)) g6.symm (fun i hi => by
        rw [nV_n (by omega)] at hi
        rw [G]
        rw [if_neg (by omega)]
        by_cases d2 : i = 3 * m' + 2
        · rw [if_pos (by omega), d2, gN_eq (by rw [List.length_set, List.length_set]; omega)]
        rw [if_neg (by omega), gN_ne (by omega)]
        by_cases d1 : i = 3 * m' + 1
        · rw [if_pos (by omega), d1, gN_eq (by rw [List.length_set]; omega)]
        rw [if_neg (by omega), gN_ne (by omega)]
        by_cases d0 : i = 3 * m'
        · rw [if_pos (by omega), d0, gN_eq (by omega)]
        rw [if_neg (by omega), gN_ne (by omega)]
        exact o5 i (by omega))
      refine ⟨?_, rfl, Or.inr ⟨rfl, rfl, rfl, ?_, R⟩⟩
      · show nI (m' + 1) - 1 = gA (lkA w m' (nI t) (nI s) (nI q)) 296 - 1
        rw [gA_296, g6]
      · show (((lkd.set (3 * m') (nI t)).set (3 * m' + 1) (nI s)).set (3 * m' + 2) (nI q)).length = 12
        rw [List.length_set, List.length_set, List.length_set]; exact hl
  · rw [if_neg c5, if_neg c5]
    exact ⟨rfl, rfl, Or.inl ⟨rfl, ⟨rfl, rfl⟩, rfl⟩⟩
end WAF

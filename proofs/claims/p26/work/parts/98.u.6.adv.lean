/-! prices; minutes that go by, quiet ones at once -/
section PR
variable {n S : Nat} {w ph sp ce ri du cm lf tra len frm tto wei fit way rid lon rk sta he lkd : List Int32} {cel mi lks : Int32} {t : Nat}
theorem x_del (H : wf n S w) (P : rP n w ph sp ce) (C : rC n w cm lf) (N : wEn n w) (O : rO n w mi lks rk sta he lkd) (Y : qY n S w tra len frm tto wei fit way rid lon cel) (ht : t < n) : x_delay sta ph cm tto lon (nI t) = if ft w t 6 = 3 then m_delayOf w (nI t) else -1 := by
  have h5 := H.n5
  have hS := H.S7
  have ho := (H.T ht).2.1
  unfold x_delay m_delayOf
  rw [gA_n (l := ph) (by omega), P.pph ht, gA_n (l := tto) (by omega), Y.ptto ht, ho.1, gA_n (l := sta) (by omega), (O.2.2.1 t ht).1, gA_n (l := lon) (by omega), Y.plon ht, m_of11 (by omega), m_of3 (by omega)]
  by_cases c : ft w t 6 = 3
  · have ec : nI t * 7 + nI (tO w t) = nI (7 * t + tO w t) := by
      show nI t * nI 7 + _ = _
      rw [nI_mul, nI_add]
      congr 1
      omega
    rw [if_pos c, if_pos c, ec, gA_n (by omega), (C.2 t (tO w t) ht (by omega)).1, N t ht c]
  · rw [if_neg c, if_neg c]
theorem x_pri_l (H : wf n S w) (P : rP n w ph sp ce) (C : rC n w cm lf) (N : wEn n w) (O : rO n w mi lks rk sta he lkd) (Y : qY n S w tra len frm tto wei fit way rid lon cel) : ∀ (f i : Nat) (a : Int32), i + f = n → x_price_l4 sta ph cm tto wei lon (-1) f (nI i) a = m_price_l4 w f (nI i) a
  | 0, _, _, _ => rfl
  | f + 1, i, a, e => by
    have h5 := H.n5
    unfold x_price_l4 m_price_l4
    rw [if_neg (nI_nn (by omega)), gA_n (l := wei) (by omega), Y.pwei (by omega), gA_n (l := ph) (by omega), P.pph (by omega), x_del H P C N O Y (by omega), m_of5 (by omega), m_of6 (by omega), nI_1, x_pri_l H P C N O Y f (i + 1) _ (by omega)]
    by_cases c : ft w i 6 = 3
    · rw [if_pos c, if_pos c, if_pos c]
    · rw [if_neg c, if_neg c]
theorem x_pri (H : wf n S w) (P : rP n w ph sp ce) (C : rC n w cm lf) (N : wEn n w) (O : rO n w mi lks rk sta he lkd) (Y : qY n S w tra len frm tto wei fit way rid lon cel) : x_price sta ph cm (nI n) tto wei lon (-1) = m_price w := by
  unfold x_price m_price
  rw [H.gn, lpN_n0 (by have := H.n5; omega)]
  exact x_pri_l H P C N O Y n 0 0 (Nat.zero_add n)
end PR
theorem iMn_i (x y : Int32) : (iMn x y).toInt ≤ x.toInt ∧ (iMn x y).toInt ≤ y.toInt ∧ ∀ L : Int, L ≤ x.toInt → L ≤ y.toInt → L ≤ (iMn x y).toInt := by
  unfold iMn
  by_cases c : y < x
  · rw [if_pos c]
    rw [Int32.lt_iff_toInt_lt] at c
    exact ⟨by omega, by omega, fun L _ h => h⟩
  · rw [if_neg c]
    rw [Int32.lt_iff_toInt_lt] at c
    exact ⟨by omega, by omega, fun L h _ => h⟩
theorem x_due_l {mi v1 : Int32} {sta ph du he : List Int32} {n : Nat} (hn : n ≤ 5) : ∀ (f i : Nat) (v2 : Int32), i + f = n →
    (x_nextDue_l4 mi sta ph du he v1 f (nI i) v2).toInt ≤ v2.toInt ∧ (∀ t, i ≤ t → t < n → (gN ph t = 2 → (x_nextDue_l4 mi sta ph du he v1 f (nI i) v2).toInt ≤ (gN du t).toInt) ∧ (¬ gN he t < mi → (x_nextDue_l4 mi sta ph du he v1 f (nI i) v2).toInt ≤ (gN he t).toInt) ∧ (gN ph t = 0 → ¬ gN sta t < mi → (x_nextDue_l4 mi sta ph du he v1 f (nI i) v2).toInt ≤ (gN sta t).toInt)) ∧ (mi.toInt ≤ v2.toInt → (∀ t, i ≤ t → t < n → gN ph t = 2 → mi.toInt ≤ (gN du t).toInt) → mi.toInt ≤ (x_nextDue_l4 mi sta ph du he v1 f (nI i) v2).toInt)
  | 0, i, v2, e => ⟨by unfold x_nextDue_l4; omega, fun t a b => absurd b (by omega), fun h _ => h⟩
  | f + 1, i, v2, e => by
    unfold x_nextDue_l4
    rw [gA_n (l := ph) (by omega), gA_n (l := sta) (by omega), gA_n (l := he) (by omega), gA_n (l := du) (by omega), nI_1]
    have hA : (if gN ph i = 2 then iMn v2 (gN du i) else v2).toInt ≤ v2.toInt ∧ (gN ph i = 2 → (if gN ph i = 2 then iMn v2 (gN du i) else v2).toInt ≤ (gN du i).toInt) ∧ (mi.toInt ≤ v2.toInt → (gN ph i = 2 → mi.toInt ≤ (gN du i).toInt) → mi.toInt ≤ (if gN ph i = 2 then iMn v2 (gN du i) else v2).toInt) := by
      by_cases c : gN ph i = 2
      · rw [if_pos c]
        obtain ⟨a, b, d⟩ := iMn_i v2 (gN du i)
        exact ⟨a, fun _ => b, fun h1 h2 => d _ h1 (h2 c)⟩
      · rw [if_neg c]
        exact ⟨by omega, fun h => absurd h c, fun h _ => h⟩
    generalize (if gN ph i = 2 then iMn v2 (gN du i) else v2) = A at hA ⊢
    have hB : (if gN he i < mi then A else iMn A (gN he i)).toInt ≤ A.toInt ∧ (¬ gN he i < mi → (if gN he i < mi then A else iMn A (gN he i)).toInt ≤ (gN he i).toInt) ∧ (mi.toInt ≤ A.toInt → mi.toInt ≤ (if gN he i < mi then A else iMn A (gN he i)).toInt) := by
      by_cases c : gN he i < mi
      · rw [if_pos c]
        exact ⟨by omega, fun h => absurd c h, fun h => h⟩
      · rw [if_neg c]
        obtain ⟨a, b, d⟩ := iMn_i A (gN he i)
        refine ⟨a, fun _ => b, fun h => d _ h ?_⟩
        rw [Int32.lt_iff_toInt_lt] at c
        omega
    generalize (if gN he i < mi then A else iMn A (gN he i)) = B at hB ⊢
    have hC : (if gN ph i = 0 then (if gN sta i < mi then B else iMn B (gN sta i)) else B).toInt ≤ B.toInt ∧ (gN ph i = 0 → ¬ gN sta i < mi → (if gN ph i = 0 then (if gN sta i < mi then B else iMn B (gN sta i)) else B).toInt ≤ (gN sta i).toInt) ∧ (mi.toInt ≤ B.toInt → mi.toInt ≤ (if gN ph i = 0 then (if gN sta i < mi then B else iMn B (gN sta i)) else B).toInt) := by
      by_cases c : gN ph i = 0
      · rw [if_pos c]
        by_cases c2 : gN sta i < mi
        · rw [if_pos c2]
          exact ⟨by omega, fun _ h => absurd c2 h, fun h => h⟩
        · rw [if_neg c2]
          obtain ⟨a, b, d⟩ := iMn_i B (gN sta i)
          refine ⟨a, fun _ _ => b, fun h => d _ h ?_⟩
          rw [Int32.lt_iff_toInt_lt] at c2
          omega
      · rw [if_neg c]
        exact ⟨by omega, fun h => absurd h c, fun h => h⟩
    generalize (if gN ph i = 0 then (if gN sta i < mi then B else iMn B (gN sta i)) else B) = G at hC ⊢
    obtain ⟨i1, i2, i3⟩ := x_due_l (mi := mi) (v1 := v1) (sta := sta) (ph := ph) (du := du) (he := he) hn f (i + 1) G (by omega)
    refine ⟨by omega, fun t a b => ?_, fun h1 h2 => i3 (hC.2.2 (hB.2.2 (hA.2.2 h1 (h2 i (Nat.le_refl i) (by omega))))) (fun t a b => h2 t (by omega) b)⟩
    by_cases c : t = i
    · rw [c]
      refine ⟨fun h => ?_, fun h => ?_, fun h h' => ?_⟩
      · have := hA.2.1 h; omega
      · have := hB.2.1 h; omega
      · have := hC.2.1 h h'; omega
    · exact i2 t (by omega) b
/-- minutes that go by: e: till all are DONE or it is STUCK -/
def m_adv (n : Nat) (care : Int32) (e : Bool) : Nat → List Int32 → List Int32
  | 0, w => w
  | r + 1, w => if e = true ∧ ¬ (m_howMany w 3 < gA w 203 ∧ m_isStuck w = 0) then w else m_adv n care e r (m_minute n w care)
theorem m_adv_f (n : Nat) (care : Int32) : ∀ r w, m_adv n care false r w = m_mins n care r w
  | 0, _ => rfl
  | r + 1, w => by
    unfold m_adv m_mins
    rw [if_neg (fun z => nomatch z.1), m_adv_f n care r]
theorem m_adv_t (n : Nat) (care : Int32) : ∀ r w, m_adv n care true r w = m_tte n care r w
  | 0, _ => rfl
  | r + 1, w => by
    unfold m_adv m_tte
    rw [m_adv_t n care r]
    by_cases c : m_howMany w 3 < gA w 203
    · rw [if_pos c]
      by_cases d : m_isStuck w = 0
      · rw [if_pos d, if_neg (fun z => z.2 ⟨c, d⟩)]
      · rw [if_neg d, if_pos ⟨rfl, fun z => d z.2⟩]
    · rw [if_neg c, if_pos ⟨rfl, fun z => c z.1⟩]
def ends (n : Nat) : Nat → List Int32 → List Int32
  | 0, w => w
  | d + 1, w => m_end n (ends n d w)
theorem ends_R {n S : Nat} {w : List Int32} (H : wf n S w) : ∀ d, wf n S (ends n d w) ∧ eR n d (ends n d w) w
  | 0 => ⟨H, eR.rf H.len⟩
  | d + 1 => by
    obtain ⟨a, b⟩ := ends_R H d
    exact eR.step a b H
theorem howMany_n {n S : Nat} {w : List Int32} (H : wg n S w) {v : Int32} : ∀ (f i a : Nat), i + f = n → ∃ c, c ≤ f ∧ m_howMany_l4 w v f (nI i) (nI a) = nI (a + c)
  | 0, _, a, _ => ⟨0, Nat.le_refl 0, rfl⟩
  | f + 1, i, a, e => by
    have h5 := H.n5
    unfold m_howMany_l4
    rw [nI_1]
    by_cases c : m_of w (nI i) 6 = v
    · rw [if_pos c, nI_1]
      obtain ⟨k, h1, h2⟩ := howMany_n H (v := v) f (i + 1) (a + 1) (by omega)
      exact ⟨k + 1, by omega, by rw [h2]; congr 1; omega⟩
    · rw [if_neg c, Int32.add_zero]
      obtain ⟨k, h1, h2⟩ := howMany_n H (v := v) f (i + 1) a (by omega)
      exact ⟨k, by omega, h2⟩
theorem howMany_c {n S : Nat} {w : List Int32} (H : wg n S w) (v : Int32) : ∃ c, c ≤ n ∧ m_howMany w v = nI c := by
  unfold m_howMany
  rw [H.gn, lpN_n0 (by have := H.n5; omega)]
  obtain ⟨c, h1, h2⟩ := howMany_n H (v := v) n 0 0 (Nat.zero_add n)
  exact ⟨c, h1, by rw [show (0 : Int32) = nI 0 from rfl, h2]; congr 1; omega⟩
theorem howMany_lt {n S : Nat} {w : List Int32} (H : wg n S w) (v : Int32) : m_howMany w v < gA w 203 ↔ ¬ m_howMany w v = nI n := by
  have h5 := H.n5
  obtain ⟨c, h1, h2⟩ := howMany_c H v
  rw [H.gn, h2, nI_ltI (by omega) (by omega), nI_eq (by omega) (by omega)]
  omega
section ADV
variable {n S : Nat} {tra len frm tto wei fit way rid lon rk sta he lkd : List Int32} {shu cel pk lks care v1 v4 : Int32} {e : Bool}
theorem x_end0 {us pms pmm pmt pst pwa ph sp ri : List Int32} {mi : Int32} {nt : Int32} : x_endMinutes mi ph sp ri us pk pms pmm pmt pst pwa nt (nI 0) = (mi, us, pms, pmm, pmt, pst, pwa) := by
  unfold x_endMinutes
  rw [if_neg (show ¬ (0 : Int32) < nI 0 by decide)]
/-- the quiet ones are as the reference's, one by one -/
theorem adv_quiet {w ph sp ce du ri cm lf pfa prs prr : List Int32} {bus pev mi : Int32} (H : wf n S w) (M : qM n w pk bus ph sp ce du ri cm lf pfa pev prs prr) (O : rO n w mi lks rk sta he lkd) (U : rU w shu) (Y : qY n S w tra len frm tto wei fit way rid lon cel) (T : tS n w) (q : quiet n care w) (hs : ¬ (e = true ∧ ¬ (m_howMany w 3 < gA w 203 ∧ m_isStuck w = 0))) {m ρ : Nat} (hm : gN w 201 = nI m) (h30 : ρ < 2 ^ 30) (d1 : ∀ t, t < n → ft w t 6 = 2 → (ρ : Int) ≤ (ft w t 9).toInt) (d2 : ∀ t, t < n → ¬ ft w t 10 < nI (m + 1) → (ρ : Int) ≤ (ft w t 10).toInt) (d3 : ∀ t, t < n → ft w t 6 = 0 → ¬ ft w t 3 < nI (m + 1) → (ρ : Int) ≤ (ft w t 3).toInt) : ∀ d k, m + d ≤ ρ → 0 < d → m_adv n care e (d + k) w = m_adv n care e k (ends n d w) := by
  have h5 := H.n5
  have hS := H.S7
  intro d
  induction d with
  | zero => intro k _ h; exact absurd h (Nat.lt_irrefl 0)
  | succ d ih =>
    intro k hd _
    obtain ⟨W, R⟩ := ends_R H d
    have E := R.1
    have step : m_adv n care e (k + 1) (ends n d w) = m_adv n care e k (ends n (d + 1) w) := by
      have hcnt : m_howMany (ends n d w) 3 = m_howMany w 3 := by
        have M' := M.eF E h5 (fun t ht => by have := (H.T ht).2.1.2; omega)
        rw [← x_cnt H.g M.1 3, ← x_cnt W.g M'.1 3]
      have hst : m_isStuck (ends n d w) = m_isStuck w := by
        have M' := M.eF E h5 (fun t ht => by have := (H.T ht).2.1.2; omega)
        rw [← x_stuck H.g M.1 M.2.1 U M.2.2.1 Y, ← x_stuck W.g M'.1 M'.2.1 (U.eF E) M'.2.2.1 (Y.frame (E.sF h5) H.g W.g)]
      have hq : quiet n care (ends n d w) := by
        by_cases d0 : d = 0
        · subst d0; exact q
        have hmd : gN (ends n d w) 201 = nI (m + d) := by rw [R.2.1, hm, nI_add]
        refine quiet_on H W M O U Y T E q (fun t ht c => ?_) (fun t ht c => ?_) (fun t ht c0 c => ?_)
        · have := d1 t ht c
          rw [hmd, Int32.lt_iff_toInt_lt, nI_toInt (by omega)]
          omega
        · rw [hmd, Int32.lt_iff_toInt_lt, nI_toInt (by omega)] at c
          rw [hm, Int32.lt_iff_toInt_lt, nI_toInt (by omega)]
          by_cases c2 : ft w t 10 < nI (m + 1)
          · rw [Int32.lt_iff_toInt_lt, nI_toInt (by omega)] at c2
            omega
          · have := d2 t ht c2
            omega
        · rw [hmd, Int32.lt_iff_toInt_lt, nI_toInt (by omega)] at c
          rw [hm, Int32.lt_iff_toInt_lt, nI_toInt (by omega)]
          by_cases c2 : ft w t 3 < nI (m + 1)
          · rw [Int32.lt_iff_toInt_lt, nI_toInt (by omega)] at c2
            omega
          · have := d3 t ht c0 c2
            omega
      show (if e = true ∧ ¬ (m_howMany (ends n d w) 3 < gA (ends n d w) 203 ∧ m_isStuck (ends n d w) = 0) then ends n d w else m_adv n care e k (m_minute n (ends n d w) care)) = _
      have hn : gA (ends n d w) 203 = gA w 203 := W.gn.trans H.gn.symm
      rw [hcnt, hst, hn, if_neg hs, quiet_min W hq]
      rfl
    by_cases d0 : d = 0
    · subst d0
      rw [show 0 + 1 + k = k + 1 by omega]
      exact step
    · rw [show d + 1 + k = d + (k + 1) by omega, ih (k + 1) (by omega) (by omega), step]
theorem x_adv : ∀ (f r : Nat) (w : List Int32) (v5 : Int32) (sea row : List Int32) (rl bus : Int32) (ph sp ce du ri cm lf pfa : List Int32) (pev : Int32) (prs prr : List Int32) (mi : Int32) (us pms pmm pmt pst pwa : List Int32) (m : Nat), r ≤ f → rV n S w shu lks rk sta he lkd pk sea row bus ph sp ce du ri cm lf pfa pev prs prr mi us pms pmm pmt pst pwa → qY n S w tra len frm tto wei fit way rid lon cel → gN w 201 = nI m → m + r < 2 ^ 30 → v4 = nI (m + r) →
    ∃ (sea' row' : List Int32) (rl' bus' : Int32) (ph' sp' ce' du' ri' cm' lf' pfa' : List Int32) (pev' : Int32) (prs' prr' : List Int32) (mi' : Int32) (us' pms' pmm' pmt' pst' pwa' : List Int32) (m' : Nat), x_advance_l11 shu lks rk sta he lkd pk (nI n) len frm tto wei fit way rid lon v1 care (if e = true then 1 else 0) v4 f v5 sea row rl bus ph sp ce du ri cm lf pfa pev prs prr mi us pms pmm pmt pst pwa = (m_price (m_adv n care e r w), sea', row', rl', bus', ph', sp', ce', du', ri', cm', lf', pfa', pev', prs', prr', mi', us', pms', pmm', pmt', pst', pwa') ∧ rV n S (m_adv n care e r w) shu lks rk sta he lkd pk sea' row' bus' ph' sp' ce' du' ri' cm' lf' pfa' pev' prs' prr' mi' us' pms' pmm' pmt' pst' pwa' ∧ qY n S (m_adv n care e r w) tra len frm tto wei fit way rid lon cel ∧ gN (m_adv n care e r w) 201 = nI m' ∧ m' ≤ m + r
  | 0, r, w, v5, sea, row, rl, bus, ph, sp, ce, du, ri, cm, lf, pfa, pev, prs, prr, mi, us, pms, pmm, pmt, pst, pwa, m, hr, V, Y, hm, h30, h4 => by
    have r0 : r = 0 := by omega
    subst r0
    unfold x_advance_l11
    rw [x_pri V.1 V.2.1.1 V.2.1.2.2.2.2.1 V.2.1.2.2.2.2.2.1 V.2.2.1 Y]
    exact ⟨_, _, _, _, _, _, _, _, _, _, _, _, _, _, _, _, _, _, _, _, _, _, m, rfl, V, Y, hm, by omega⟩
  | f + 1, r, w, v5, sea, row, rl, bus, ph, sp, ce, du, ri, cm, lf, pfa, pev, prs, prr, mi, us, pms, pmm, pmt, pst, pwa, m, hr, V, Y, hm, h30, h4 => by
    have h5 := V.1.n5
    have hS := V.1.S7
    have hmi : mi = nI m := V.2.2.1.1.trans hm
    have fin : m_adv n care e r w = w → ∃ (sea' row' : List Int32) (rl' bus' : Int32) (ph' sp' ce' du' ri' cm' lf' pfa' : List Int32) (pev' : Int32) (prs' prr' : List Int32) (mi' : Int32) (us' pms' pmm' pmt' pst' pwa' : List Int32) (m' : Nat), (x_price sta ph cm (nI n) tto wei lon (-1), sea, row, rl, bus, ph, sp, ce, du, ri, cm, lf, pfa, pev, prs, prr, mi, us, pms, pmm, pmt, pst, pwa) = (m_price (m_adv n care e r w), sea', row', rl', bus', ph', sp', ce', du', ri', cm', lf', pfa', pev', prs', prr', mi', us', pms', pmm', pmt', pst', pwa') ∧ rV n S (m_adv n care e r w) shu lks rk sta he lkd pk sea' row' bus' ph' sp' ce' du' ri' cm' lf' pfa' pev' prs' prr' mi' us' pms' pmm' pmt' pst' pwa' ∧ qY n S (m_adv n care e r w) tra len frm tto wei fit way rid lon cel ∧ gN (m_adv n care e r w) 201 = nI m' ∧ m' ≤ m + r := by
      intro ea
      rw [ea, x_pri V.1 V.2.1.1 V.2.1.2.2.2.2.1 V.2.1.2.2.2.2.2.1 V.2.2.1 Y]
      exact ⟨_, _, _, _, _, _, _, _, _, _, _, _, _, _, _, _, _, _, _, _, _, _, m, rfl, V, Y, hm, by omega⟩
    by_cases r0 : r = 0
    · subst r0
      unfold x_advance_l11
      rw [if_neg (show ¬ mi < v4 by rw [hmi, h4]; exact nI_nlt (by omega) (by omega))]
      exact fin rfl
    obtain ⟨r', rfl⟩ : ∃ r', r = r' + 1 := ⟨r - 1, by omega⟩
    have hlt : mi < v4 := by rw [hmi, h4]; exact nI_lt (by omega) (by omega)
    -- one minute, then on
    have go : ¬ (e = true ∧ ¬ (m_howMany w 3 < gA w 203 ∧ m_isStuck w = 0)) → ∀ z, x_passMinute mi shu bus lks rk sta ph sp ce du he ri us cm lf lkd rl row sea pev pk pms pmm pmt pst pwa prs prr pfa (nI n) len frm tto fit way rid care = z → ∃ (sea' row' : List Int32) (rl' bus' : Int32) (ph' sp' ce' du' ri' cm' lf' pfa' : List Int32) (pev' : Int32) (prs' prr' : List Int32) (mi' : Int32) (us' pms' pmm' pmt' pst' pwa' : List Int32) (m' : Nat), (if (z.1) = 0 then let z3 := (x_endMinutes (z.2.2.2.2.2.2.2.2.2.2.2.2.2.2.2.2.1) (z.2.2.2.2.2.1) (z.2.2.2.2.2.2.1) (z.2.2.2.2.2.2.2.2.2.1) (z.2.2.2.2.2.2.2.2.2.2.2.2.2.2.2.2.2.1) pk (z.2.2.2.2.2.2.2.2.2.2.2.2.2.2.2.2.2.2.1) (z.2.2.2.2.2.2.2.2.2.2.2.2.2.2.2.2.2.2.2.1) (z.2.2.2.2.2.2.2.2.2.2.2.2.2.2.2.2.2.2.2.2.1) (z.2.2.2.2.2.2.2.2.2.2.2.2.2.2.2.2.2.2.2.2.2.1) (z.2.2.2.2.2.2.2.2.2.2.2.2.2.2.2.2.2.2.2.2.2.2) (nI n) ((x_nextDue (z.2.2.2.2.2.2.2.2.2.2.2.2.2.2.2.2.1) sta (z.2.2.2.2.2.1) (z.2.2.2.2.2.2.2.2.1) he (nI n) v4) - (z.2.2.2.2.2.2.2.2.2.2.2.2.2.2.2.2.1))); (x_advance_l11 shu lks rk sta he lkd pk (nI n) len frm tto wei fit way rid lon v1 care (if e = true then 1 else 0) v4 f (v5 + 1) (z.2.1) (z.2.2.1) (z.2.2.2.1) (z.2.2.2.2.1) (z.2.2.2.2.2.1) (z.2.2.2.2.2.2.1) (z.2.2.2.2.2.2.2.1) (z.2.2.2.2.2.2.2.2.1) (z.2.2.2.2.2.2.2.2.2.1) (z.2.2.2.2.2.2.2.2.2.2.1) (z.2.2.2.2.2.2.2.2.2.2.2.1) (z.2.2.2.2.2.2.2.2.2.2.2.2.1) (z.2.2.2.2.2.2.2.2.2.2.2.2.2.1) (z.2.2.2.2.2.2.2.2.2.2.2.2.2.2.1) (z.2.2.2.2.2.2.2.2.2.2.2.2.2.2.2.1) (z3.1) (z3.2.1) (z3.2.2.1) (z3.2.2.2.1) (z3.2.2.2.2.1) (z3.2.2.2.2.2.1) (z3.2.2.2.2.2.2)) else (x_advance_l11 shu lks rk sta he lkd pk (nI n) len frm tto wei fit way rid lon v1 care (if e = true then 1 else 0) v4 f (v5 + 1) (z.2.1) (z.2.2.1) (z.2.2.2.1) (z.2.2.2.2.1) (z.2.2.2.2.2.1) (z.2.2.2.2.2.2.1) (z.2.2.2.2.2.2.2.1) (z.2.2.2.2.2.2.2.2.1) (z.2.2.2.2.2.2.2.2.2.1) (z.2.2.2.2.2.2.2.2.2.2.1) (z.2.2.2.2.2.2.2.2.2.2.2.1) (z.2.2.2.2.2.2.2.2.2.2.2.2.1) (z.2.2.2.2.2.2.2.2.2.2.2.2.2.1) (z.2.2.2.2.2.2.2.2.2.2.2.2.2.2.1) (z.2.2.2.2.2.2.2.2.2.2.2.2.2.2.2.1) (z.2.2.2.2.2.2.2.2.2.2.2.2.2.2.2.2.1) (z.2.2.2.2.2.2.2.2.2.2.2.2.2.2.2.2.2.1) (z.2.2.2.2.2.2.2.2.2.2.2.2.2.2.2.2.2.2.1) (z.2.2.2.2.2.2.2.2.2.2.2.2.2.2.2.2.2.2.2.1) (z.2.2.2.2.2.2.2.2.2.2.2.2.2.2.2.2.2.2.2.2.1) (z.2.2.2.2.2.2.2.2.2.2.2.2.2.2.2.2.2.2.2.2.2.1) (z.2.2.2.2.2.2.2.2.2.2.2.2.2.2.2.2.2.2.2.2.2.2))) = (m_price (m_adv n care e (r' + 1) w), sea', row', rl', bus', ph', sp', ce', du', ri', cm', lf', pfa', pev', prs', prr', mi', us', pms', pmm', pmt', pst', pwa') ∧ rV n S (m_adv n care e (r' + 1) w) shu lks rk sta he lkd pk sea' row' bus' ph' sp' ce' du' ri' cm' lf' pfa' pev' prs' prr' mi' us' pms' pmm' pmt' pst' pwa' ∧ qY n S (m_adv n care e (r' + 1) w) tra len frm tto wei fit way rid lon cel ∧ gN (m_adv n care e (r' + 1) w) 201 = nI m' ∧ m' ≤ m + (r' + 1) := by
      intro hs z hz
      have PM := x_pm V Y hm (by omega) hz
      clear hz
      obtain ⟨f0, sea1, row1, rl1, bus1, ph1, sp1, ce1, du1, ri1, cm1, lf1, pfa1, pev1, prs1, prr1, mi1, us1, pms1, pmm1, pmt1, pst1, pwa1⟩ := z
      dsimp only at PM ⊢
      obtain ⟨V1, Y1, hm1, hq⟩ := PM
      have e1 : m_adv n care e (r' + 1) w = m_adv n care e r' (m_minute n w care) := by
        show (if e = true ∧ ¬ (m_howMany w 3 < gA w 203 ∧ m_isStuck w = 0) then w else m_adv n care e r' (m_minute n w care)) = _
        rw [if_neg hs]
      rcases hq with hq | ⟨hq, q⟩
      · rw [hq, if_neg (show ¬ (1 : Int32) = 0 by decide), e1]
        obtain ⟨sea', row', rl', bus', ph', sp', ce', du', ri', cm', lf', pfa', pev', prs', prr', mi', us', pms', pmm', pmt', pst', pwa', m', g1, g2, g3, g4, g5⟩ := x_adv f r' (m_minute n w care) (v5 + 1) sea1 row1 rl1 bus1 ph1 sp1 ce1 du1 ri1 cm1 lf1 pfa1 pev1 prs1 prr1 mi1 us1 pms1 pmm1 pmt1 pst1 pwa1 (m + 1) (by omega) V1 Y1 hm1 (by omega) (by rw [h4]; congr 1; omega)
        exact ⟨sea', row', rl', bus', ph', sp', ce', du', ri', cm', lf', pfa', pev', prs', prr', mi', us', pms', pmm', pmt', pst', pwa', m', g1, g2, g3, g4, by omega⟩
      · rw [hq, if_pos rfl]
        have emin : m_minute n w care = m_end n w := quiet_min V.1 q
        rw [emin] at V1 Y1 hm1
        have E1 : eF (m_end n w) w := (ends_R V.1 1).2.1
        obtain ⟨H1, M1, O1, U1, K1, Q1, T1, l1, l2⟩ := V1
        have hmi1 : mi1 = nI (m + 1) := O1.1.trans hm1
        -- what is due
        have hdue : ∃ ρ, m + 1 ≤ ρ ∧ ρ ≤ m + (r' + 1) ∧ x_nextDue mi1 sta ph1 du1 he (nI n) v4 = nI ρ ∧ (∀ t, t < n → ft w t 6 = 2 → (ρ : Int) ≤ (ft w t 9).toInt) ∧ (∀ t, t < n → ¬ ft w t 10 < nI (m + 1) → (ρ : Int) ≤ (ft w t 10).toInt) ∧ ∀ t, t < n → ft w t 6 = 0 → ¬ ft w t 3 < nI (m + 1) → (ρ : Int) ≤ (ft w t 3).toInt := by
          have ed := x_due_l (mi := mi1) (v1 := v4) (sta := sta) (ph := ph1) (du := du1) (he := he) h5 n 0 v4 (Nat.zero_add n)
          unfold x_nextDue
          rw [lpN_n0 (by omega)]
          rw [show (0 : Int32) = nI 0 from rfl]
          obtain ⟨b1, b2, b3⟩ := ed
          generalize x_nextDue_l4 mi1 sta ph1 du1 he v4 n (nI 0) v4 = R at *
          have ep : ∀ t, t < n → gN ph1 t = ft w t 6 := fun t ht => (M1.1.pph ht).trans (E1.p t (by omega) 6 (by decide) (by decide))
          have eh : ∀ t, t < n → gN he t = ft w t 10 := fun t ht => (V.2.2.1.2.2.1 t ht).2
          have es : ∀ t, t < n → gN sta t = ft w t 3 := fun t ht => (V.2.2.1.2.2.1 t ht).1
          have edu : ∀ t, t < n → ft w t 6 = 2 → gN du1 t = ft w t 9 := fun t ht c => (M1.2.2.2.1.2 t ht (by rw [E1.p t (by omega) 6 (by decide) (by decide)]; exact c)).trans (E1.p t (by omega) 9 (by decide) (by decide))
          rw [h4, nI_toInt (by omega)] at b1
          have b3' := b3 (by rw [hmi1, h4, nI_toInt (by omega), nI_toInt (by omega)]; omega) (fun t _ ht c => by
            rw [ep t ht] at c
            have := q.1 t ht c
            rw [hm, Int32.lt_iff_toInt_lt, nI_toInt (by omega)] at this
            rw [hmi1, nI_toInt (by omega), edu t ht c]
            omega)
          rw [hmi1, nI_toInt (by omega)] at b3'
          refine ⟨R.toInt.toNat, by omega, by omega, Int32.toInt_inj.mp (by rw [nI_toInt (by omega)]; omega), fun t ht c => ?_, fun t ht c => ?_, fun t ht c0 c => ?_⟩
          · have := (b2 t (Nat.zero_le t) ht).1 (by rw [ep t ht]; exact c)
            rw [edu t ht c] at this
            omega
          · have := (b2 t (Nat.zero_le t) ht).2.1 (by rw [eh t ht, hmi1]; exact c)
            rw [eh t ht] at this
            omega
          · have := (b2 t (Nat.zero_le t) ht).2.2 (by rw [ep t ht]; exact c0) (by rw [es t ht, hmi1]; exact c)
            rw [es t ht] at this
            omega
        obtain ⟨ρ, p1, p2, p3, p4, p5, p6⟩ := hdue
        have M0 : qM n w pk bus1 ph1 sp1 ce1 du1 ri1 cm1 lf1 pfa1 pev1 prs1 prr1 := M1.eF (E1.symm V.1.len) h5 (fun t ht => by have := (H1.T ht).2.1.2; omega)
        have AQ := adv_quiet (e := e) (care := care) V.1 M0 V.2.2.1 V.2.2.2.1 Y V.2.2.2.2.2.2.1 q hs hm (by omega) p4 p5 p6 (ρ - m) (m + (r' + 1) - ρ) (by omega) (by omega)
        rw [show ρ - m + (m + (r' + 1) - ρ) = r' + 1 by omega] at AQ
        rw [p3, hmi1, sub_nI p1, AQ]
        obtain ⟨W1, R1⟩ := ends_R H1 (ρ - (m + 1))
        have ends1 : ∀ d, ends n (d + 1) w = ends n d (m_end n w) := by
          intro d
          induction d with
          | zero => rfl
          | succ d ih => show m_end n (ends n (d + 1) w) = m_end n (ends n d (m_end n w)); rw [ih]
        have ee : ends n (ρ - m) w = ends n (ρ - (m + 1)) (m_end n w) := by rw [← ends1]; congr 1; omega
        rw [ee]
        have hmx : gN (ends n (ρ - (m + 1)) (m_end n w)) 201 = nI ρ := by
          rw [R1.2.1, hm1, nI_add]; congr 1; omega
        have Y2 := Y1.frame (R1.1.sF h5) H1.g W1.g
        have key : ∀ z3 : Int32 × List Int32 × List Int32 × List Int32 × List Int32 × List Int32 × List Int32, x_endMinutes (nI (m + 1)) ph1 sp1 ri1 us1 pk pms1 pmm1 pmt1 pst1 pwa1 (nI n) (nI (ρ - (m + 1))) = z3 → z3.1 = gN (ends n (ρ - (m + 1)) (m_end n w)) 201 ∧ qK (ends n (ρ - (m + 1)) (m_end n w)) z3.2.1 ∧ rQ n (ends n (ρ - (m + 1)) (m_end n w)) pk z3.2.2.1 z3.2.2.2.1 z3.2.2.2.2.1 z3.2.2.2.2.2.1 z3.2.2.2.2.2.2 := by
          intro z3 h3
          by_cases d0 : ρ - (m + 1) = 0
          · rw [d0, x_end0] at h3
            rw [← h3, d0]
            exact ⟨hm1.symm, K1, Q1⟩
          · exact x_end H1 M1.1 M1.2.2.1 K1 Q1 hm1.symm (by omega) (by omega) R1 h3
        generalize h3 : x_endMinutes (nI (m + 1)) ph1 sp1 ri1 us1 pk pms1 pmm1 pmt1 pst1 pwa1 (nI n) (nI (ρ - (m + 1))) = z3
        obtain ⟨k1, k2, k3⟩ := key z3 h3
        have O2 := O1.eF R1.1 h5 H1.lk4
        rw [← k1] at O2
        have T2 : tS n (ends n (ρ - (m + 1)) (m_end n w)) := by
          intro t ht
          have hf := (H1.T ht).1.2
          have E := R1.1
          rw [E.p t (by omega) 6 (by decide) (by decide), E.qaT (by omega), (E.sP (show t < 5 by omega)).qfR, E.p t (by omega) (13 + fR (m_end n w) t) (by omega) (by omega), hmx, nI_toInt (by omega)]
          intro a b
          have := T1 t ht a b
          rw [hm1, nI_toInt (by omega)] at this
          omega
        obtain ⟨sea', row', rl', bus', ph', sp', ce', du', ri', cm', lf', pfa', pev', prs', prr', mi', us', pms', pmm', pmt', pst', pwa', m', g1, g2, g3, g4, g5⟩ := x_adv f (m + (r' + 1) - ρ) (ends n (ρ - (m + 1)) (m_end n w)) (v5 + 1) sea1 row1 rl1 bus1 ph1 sp1 ce1 du1 ri1 cm1 lf1 pfa1 pev1 prs1 prr1 z3.1 z3.2.1 z3.2.2.1 z3.2.2.2.1 z3.2.2.2.2.1 z3.2.2.2.2.2.1 z3.2.2.2.2.2.2 ρ (by omega) ⟨W1, M1.eF R1.1 h5 (fun t ht => by have := (H1.T ht).2.1.2; omega), O2, U1.eF R1.1, k2, k3, T2, l1, l2⟩ Y2 hmx (by omega) (by rw [h4]; congr 1; omega)
        exact ⟨sea', row', rl', bus', ph', sp', ce', du', ri', cm', lf', pfa', pev', prs', prr', mi', us', pms', pmm', pmt', pst', pwa', m', g1, g2, g3, g4, by omega⟩
    unfold x_advance_l11
    rw [if_pos hlt]
    by_cases he : e = true
    · rw [if_pos he, if_neg (show ¬ (1 : Int32) = 0 by decide), x_cnt V.1.g V.2.1.1 3, x_stuck V.1.g V.2.1.1 V.2.1.2.1 V.2.2.2.1 V.2.1.2.2.1 Y]
      have hlt3 := howMany_lt V.1.g 3
      by_cases c : m_howMany w 3 = nI n
      · rw [if_pos c]
        refine fin ?_
        show (if e = true ∧ ¬ (m_howMany w 3 < gA w 203 ∧ m_isStuck w = 0) then w else _) = w
        rw [if_pos ⟨he, fun z => hlt3.mp z.1 c⟩]
      · rw [if_neg c]
        by_cases c2 : m_isStuck w = 0
        · rw [if_pos c2]
          have := go (fun z => z.2 ⟨hlt3.mpr c, c2⟩) _ rfl
          rw [if_pos he] at this
          exact this
        · rw [if_neg c2]
          refine fin ?_
          show (if e = true ∧ ¬ (m_howMany w 3 < gA w 203 ∧ m_isStuck w = 0) then w else _) = w
          rw [if_pos ⟨he, fun z => c2 z.2⟩]
    · rw [if_neg he, if_pos rfl]
      have := go (fun z => he z.1) _ rfl
      rw [if_neg he] at this
      exact this
end ADV

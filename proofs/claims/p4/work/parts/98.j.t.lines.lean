/-! class and reference read the same: lines -/
def NR (sn tn rn : List Int64) (ns nt : Nat) : Prop := (∀ i, i < ns → wR (sn.getD i 0) (rn.getD i 0)) ∧ (∀ i, i < nt → wR (tn.getD i 0) (rn.getD (7 + i) 0))
theorem sIx_eq {sn rn : List Int64} {w w' : Int64} (hw : wR w w') : ∀ f s, (∀ i, s ≤ i → i < s + f → wR (sn.getD i 0) (rn.getD i 0)) → sIx rn w' f s = sIx sn w f s
  | 0, _, _ => rfl
  | f + 1, s, h => by
    unfold sIx
    rw [sIx_eq hw f (s + 1) (fun i h1 h2 => h i (by omega) (by omega))]
    simp only [(h s (Nat.le_refl _) (by omega)).eq hw]
theorem sAm_eq {tn rn : List Int64} {w w' : Int64} (hw : wR w w') : ∀ f t b, (∀ i, t ≤ i → i < t + f → wR (tn.getD i 0) (rn.getD (7 + i) 0)) → sAm rn w' f t b = sAn tn w f t b
  | 0, _, _, _ => rfl
  | f + 1, t, b, h => by
    unfold sAm sAn
    rw [sAm_eq hw f (t + 1) _ (fun i h1 h2 => h i (by omega) (by omega))]
    simp only [(h t (Nat.le_refl _) (by omega)).eq hw]
theorem NR.ix {sn tn rn : List Int64} {ns nt : Nat} {w w' : Int64} (h : NR sn tn rn ns nt) (hw : wR w w') : sIx rn w' ns 0 = sIx sn w ns 0 := sIx_eq hw _ _ fun i _ h2 => h.1 i (by omega)
theorem NR.tk {sn tn rn : List Int64} {ns nt : Nat} {w w' : Int64} (h : NR sn tn rn ns nt) (hw : wR w w') : mTk rn w' ns nt = sTk sn tn w ns nt := by
  unfold mTk sTk
  rw [h.ix hw, sAm_eq hw _ _ _ fun i _ h2 => h.2 i (by omega)]
section STEPS
variable {m : List Int32} {e ns nt i : Nat} {F : Int32 × Int32} {z y : rK} {rd : List Int32} {sn tn rn : List Int64} {lo hi u : Int32}
theorem mEnd_t (h : tR z y) (hk : z.2.1 = 3) : mEnd m e F y rd rn = (true, F, mT m e y, rd, rn) := if_pos (h.k3.mpr hk)
theorem mBad_2 (h : tR z y) : mBad 2 y rd rn = (false, ((if z.2.1 = 4 then 1 else 2), z.2.2.1), y, rd, rn) := by
  unfold mBad
  rw [h.f2, h.2.2.1]
theorem mBad_k {k : Int32} (h : tR z y) (hk : z.2.1 ≠ 4) : mBad k y rd rn = (false, (k, z.2.2.1), y, rd, rn) := by
  unfold mBad bF
  rw [if_neg (fun q => hk (h.k4.mp q)), h.2.2.1]
theorem mEnd_f (h : tR z y) (hk : ¬ z.2.1 = 3) : mEnd m e F y rd rn = (false, ((if z.2.1 = 4 then 1 else 2), z.2.2.1), y, rd, rn) := (if_neg (fun q => hk (h.k3.mp q))).trans (mBad_2 h)
theorem nOk_k (h : nOk z.2.1 z.2.2.2.2 lo hi = true) : z.2.1 = 2 ∧ inB z.2.2.2.2 lo hi = true := by
  unfold nOk at h
  rw [Bool.and_eq_true, decide_eq_true_iff] at h
  exact h
theorem mNum_t (h : tR z y) (hk : nOk z.2.1 z.2.2.2.2 lo hi = true) : mNum m e F i lo hi y rd rn = (true, F, mT m e y, rd.set i z.2.2.2.2, rn) := by
  obtain ⟨k1, k2⟩ := nOk_k hk
  unfold mNum
  rw [if_pos (h.k2.mpr k1), h.2.2.2.2.1 k1, k2, cond_true]
theorem mNum_f (h : tR z y) (hk : nOk z.2.1 z.2.2.2.2 lo hi = false) : mNum m e F i lo hi y rd rn = (false, (nF z.2.1, z.2.2.1), y, rd, rn) := by
  unfold mNum
  by_cases k1 : z.2.1 = 2
  · have k2 : inB z.2.2.2.2 lo hi = false := by
      unfold nOk at hk
      rw [decide_eq_true k1, Bool.true_and] at hk
      exact hk
    rw [if_pos (h.k2.mpr k1), h.2.2.2.2.1 k1, k2, cond_false, mBad_k h (by rw [k1]; decide)]
    unfold nF
    rw [if_pos k1]
  · rw [if_neg (fun q => k1 (h.k2.mp q)), mBad_2 h]
    unfold nF
    rw [if_neg k1]
theorem nm_k (h : nmOk z.2.1 z.2.2.2.1 = true) : z.2.1 = 1 := by
  unfold nmOk at h
  rw [Bool.and_eq_true, decide_eq_true_iff] at h
  exact h.1
theorem mName_t (h : tR z y) (hn : NR sn tn rn ns nt) (hk : nnOk z.2.1 z.2.2.2.1 sn tn ns nt = true) : mName m e F ns nt i y rd rn = (true, F, mT m e y, rd, rn.set i y.2.2.2.1) ∧ wR z.2.2.2.1 y.2.2.2.1 := by
  unfold nnOk at hk
  obtain ⟨k1, k2⟩ := Bool.and_eq_true_iff.mp hk
  have hw := h.2.2.2.1 (nm_k k1)
  refine ⟨?_, hw⟩
  unfold mName
  rw [h.nm, k1, cond_true, hn.tk hw, show sTk sn tn z.2.2.2.1 ns nt = false by simpa using k2, cond_false]
theorem mName_f (h : tR z y) (hn : NR sn tn rn ns nt) (hk : nnOk z.2.1 z.2.2.2.1 sn tn ns nt = false) : mName m e F ns nt i y rd rn = (false, (uF z.2.1 z.2.2.2.1, z.2.2.1), y, rd, rn) := by
  unfold mName uF
  rw [h.nm]
  unfold nnOk at hk
  cases k1 : nmOk z.2.1 z.2.2.2.1 with
  | true =>
    rw [k1, Bool.true_and] at hk
    have hw := h.2.2.2.1 (nm_k k1)
    rw [cond_true, cond_true, hn.tk hw, show sTk sn tn z.2.2.2.1 ns nt = true by simpa using hk, cond_true, mBad_k h (by rw [nm_k k1]; decide)]
  | false => rw [cond_false, cond_false, mBad_2 h]
theorem mKnown_t (h : tR z y) (hn : NR sn tn rn ns nt) (hk : uOk z.2.1 z.2.2.2.1 sn ns u = true) : mKnown m e F ns i u y rd rn = (true, F, mT m e y, rd.set i (sIx sn z.2.2.2.1 ns 0), rn) := by
  unfold uOk at hk
  obtain ⟨k1, k2⟩ := Bool.and_eq_true_iff.mp hk
  have hw := h.2.2.2.1 (nm_k k1)
  unfold mKnown
  rw [h.nm, k1, cond_true, hn.ix hw, show (decide (sIx sn z.2.2.2.1 ns 0 = -1) || decide (sIx sn z.2.2.2.1 ns 0 = u)) = false from (Bool.not_eq_true' _).mp k2, cond_false]
theorem mKnown_f (h : tR z y) (hn : NR sn tn rn ns nt) (hk : uOk z.2.1 z.2.2.2.1 sn ns u = false) : mKnown m e F ns i u y rd rn = (false, (uF z.2.1 z.2.2.2.1, z.2.2.1), y, rd, rn) := by
  unfold mKnown uF
  rw [h.nm]
  unfold uOk at hk
  cases k1 : nmOk z.2.1 z.2.2.2.1 with
  | true =>
    rw [k1, Bool.true_and] at hk
    have hw := h.2.2.2.1 (nm_k k1)
    rw [cond_true, cond_true, hn.ix hw, show (decide (sIx sn z.2.2.2.1 ns 0 = -1) || decide (sIx sn z.2.2.2.1 ns 0 = u)) = true from (Bool.not_eq_false' _).mp hk, cond_true, mBad_k h (by rw [nm_k k1]; decide)]
  | false => rw [cond_false, cond_false, mBad_2 h]
end STEPS
/-- a line of both: as good; the same fault, or what follows is the same -/
def lnR (l : List Int32) (e : Nat) (F : Int32 × Int32) (g : Bool) (Fc : Int32 × Int32) (z : rK) (ns nt : Nat) (sn tn : List Int64) (R : rM) : Prop := (R.2.2.1.1 ≤ e ∧ R.2.2.2.1.length = 602 ∧ R.2.2.2.2.length = 12) ∧ R.1 = g ∧ (g = true → R.2.1 = F ∧ tR (aT l e z) R.2.2.1 ∧ (R.2.2.2.1.getD 202 0 = nI ns ∧ R.2.2.2.1.getD 203 0 = nI nt) ∧ NR sn tn R.2.2.2.2 ns nt) ∧ (g = false → R.2.1 = Fc)
theorem lnR.bad {l : List Int32} {e : Nat} {F Fc : Int32 × Int32} {z y : rK} {ns nt : Nat} {sn tn rn : List Int64} {rd : List Int32} (hy : y.1 ≤ e) (hr : rd.length = 602) (hn : rn.length = 12) : lnR l e F false Fc z ns nt sn tn (false, Fc, y, rd, rn) := ⟨⟨hy, hr, hn⟩, rfl, fun z => (nomatch z), fun _ => rfl⟩
theorem lnR.end {l m : List Int32} {e : Nat} {F : Int32 × Int32} {z y : rK} {ns nt : Nat} {sn tn rn : List Int64} {rd : List Int32} (hb : bR l m e) (h : tR z y) (hz : z.1 ≤ e) (hr : rd.length = 602) (hn : rn.length = 12) (hs : rd.getD 202 0 = nI ns) (ht : rd.getD 203 0 = nI nt) (hN : NR sn tn rn ns nt) : lnR l e F true F z ns nt sn tn (true, F, mT m e y, rd, rn) :=
  ⟨⟨tkN_le (by rw [h.1]; exact hz), hr, hn⟩, rfl, fun _ => ⟨rfl, tR.step hb hz h.1, ⟨hs, ht⟩, hN⟩, fun z => (nomatch z)⟩
theorem mFin_R {l m : List Int32} {e ns nt n : Nat} {fa pa : Int32} {z y : rK} {rd : List Int32} {sn tn rn : List Int64} (hb : bR l m e) (h : tR z y) (hz : z.1 ≤ e) (hr : rd.length = 602) (hn : rn.length = 12) (h6 : ns < 7) (ht : rd.getD 203 0 = nI nt) (hN : NR sn tn rn (ns + 1) nt) : (z.2.1 = 3 → lnR l e (fa, pa) true (fa, pa) z (ns + 1) nt sn tn (mFin m e ns n (fa, pa) y rd rn)) ∧ (¬ z.2.1 = 3 → mFin m e ns n (fa, pa) y rd rn = (false, ((if z.2.1 = 4 then 1 else 2), z.2.2.1), y, ((rd.set (8 * ns + 1) (nI n)).set 202 (nI (ns + 1))), rn)) := by
  refine ⟨fun hk => ?_, fun hk => mEnd_f h hk⟩
  unfold mFin
  rw [mEnd_t h hk]
  exact lnR.end hb h hz (by simp [hr]) hn (jk_gs _ _ _ _ (by simp [hr])) ((mi_ne (by omega)).trans ((mi_ne (by omega)).trans ht)) hN
theorem mTr_R {l m : List Int32} {e ns nt : Nat} {fa pa : Int32} {sn tn rn : List Int64} (hb : bR l m e) (hn : rn.length = 12) (h6 : ns < 7) (hN : NR sn tn rn (ns + 1) nt) : ∀ (f n p : Nat) (kd pl : Int32) (wo : Int64) (nu : Int32) (tr le : List Int32) (y : rK) (rd : List Int32), n + f = 3 → p ≤ e → tR (aT l e (p, kd, pl, wo, nu)) y → rd.length = 602 → rd.getD 202 0 = nI ns → rd.getD 203 0 = nI nt → lnR l e (fa, pa) (rT l e ns fa pa (f + 1) n p kd pl wo nu tr le).1 (rT l e ns fa pa (f + 1) n p kd pl wo nu tr le).2.1 (rT l e ns fa pa (f + 1) n p kd pl wo nu tr le).2.2.1 (ns + 1) nt sn tn (mTr m e ns (fa, pa) f n y rd rn) := by
  intro f
  induction f with
  | zero =>
    intro n p kd pl wo nu tr le y rd hf hp h hr hs ht
    have hz : (aT l e (p, kd, pl, wo, nu)).1 ≤ e := tkN_le hp
    have hy : y.1 ≤ e := by rw [h.1]; exact hz
    unfold rT mTr
    have eK : tkK (cX l) e p = (aT l e (p, kd, pl, wo, nu)).2.1 := rfl
    have eD : tkD l e p nu = (aT l e (p, kd, pl, wo, nu)).2.2.2.2 := rfl
    have eZ : (tkN (cX l) e p, tkK (cX l) e p, nI (tkQ (cX l) e p), tkW l e p wo, tkD l e p nu) = aT l e (p, kd, pl, wo, nu) := rfl
    have eP : nI (tkQ (cX l) e p) = (aT l e (p, kd, pl, wo, nu)).2.2.1 := rfl
    rw [eZ, eP, eK, eD]
    generalize aT l e (p, kd, pl, wo, nu) = z at h hz ⊢
    split
    · rename_i hc
      rw [if_neg (fun q => by have := h.k2.mp q; rw [hc.2] at this; exact absurd this (by decide))]
      exact (mFin_R hb h hz hr hn h6 ht hN).1 hc.2
    · rename_i hc
      have hk3 : ¬ z.2.1 = 3 := fun q => hc ⟨by omega, q⟩
      cases hk : nOk z.2.1 z.2.2.2.2 1 99 with
      | true =>
        obtain ⟨k1, k2⟩ := nOk_k hk
        rw [if_pos (h.k2.mpr k1), h.2.2.2.2.1 k1, k2, cond_true, cond_true, mBad_k h (by rw [k1]; decide)]
        exact lnR.bad hy hr hn
      | false =>
        rw [cond_false]
        by_cases k1 : z.2.1 = 2
        · have k2 : inB z.2.2.2.2 1 99 = false := by
            unfold nOk at hk
            rw [decide_eq_true k1, Bool.true_and] at hk
            exact hk
          rw [if_pos (h.k2.mpr k1), h.2.2.2.2.1 k1, k2, cond_false, mBad_k h (by rw [k1]; decide), show nF z.2.1 = 3 from if_pos k1]
          exact lnR.bad hy hr hn
        · rw [if_neg (fun q => k1 (h.k2.mp q)), (mFin_R hb h hz hr hn h6 ht hN).2 hk3, show nF z.2.1 = if z.2.1 = 4 then 1 else 2 from if_neg k1]
          exact lnR.bad hy (by simp [hr]) hn
  | succ f ih =>
    intro n p kd pl wo nu tr le y rd hf hp h hr hs ht
    have hz : (aT l e (p, kd, pl, wo, nu)).1 ≤ e := tkN_le hp
    have hy : y.1 ≤ e := by rw [h.1]; exact hz
    have e0 : rT l e ns fa pa (f + 1 + 1) n p kd pl wo nu tr le = if 0 < n ∧ (aT l e (p, kd, pl, wo, nu)).2.1 = 3 then (true, (fa, pa), aT l e (p, kd, pl, wo, nu), tr.set ns (nI n), le) else bif nOk (aT l e (p, kd, pl, wo, nu)).2.1 (aT l e (p, kd, pl, wo, nu)).2.2.2.2 1 99 then rT l e ns fa pa (f + 1) (n + 1) (aT l e (p, kd, pl, wo, nu)).1 (aT l e (p, kd, pl, wo, nu)).2.1 (aT l e (p, kd, pl, wo, nu)).2.2.1 (aT l e (p, kd, pl, wo, nu)).2.2.2.1 (aT l e (p, kd, pl, wo, nu)).2.2.2.2 tr (if n < 3 then le.set (3 * ns + n) (aT l e (p, kd, pl, wo, nu)).2.2.2.2 else le) else (false, (nF (aT l e (p, kd, pl, wo, nu)).2.1, (aT l e (p, kd, pl, wo, nu)).2.2.1), aT l e (p, kd, pl, wo, nu), tr, le) := rfl
    rw [e0]
    unfold mTr
    generalize aT l e (p, kd, pl, wo, nu) = z at h hz ⊢
    split
    · rename_i hc
      rw [if_neg (fun q => q.elim (fun q => by omega) (fun q => by have := h.k2.mp q; rw [hc.2] at this; exact absurd this (by decide)))]
      exact (mFin_R hb h hz hr hn h6 ht hN).1 hc.2
    · rename_i hc
      cases hk : nOk z.2.1 z.2.2.2.2 1 99 with
      | true =>
        obtain ⟨k1, -⟩ := nOk_k hk
        rw [if_pos (Or.inr (h.k2.mpr k1)), mNum_t h hk, cond_true]
        exact ih (n + 1) z.1 z.2.1 z.2.2.1 z.2.2.2.1 z.2.2.2.2 tr _ (mT m e y) _ (by omega) hz (tR.step hb hz h.1) (by simp [hr]) ((mi_ne (by omega)).trans hs) ((mi_ne (by omega)).trans ht)
      | false =>
        rw [cond_false]
        by_cases k1 : n = 0 ∨ z.2.1 = 2
        · rw [if_pos (k1.imp id h.k2.mpr), mNum_f h hk]
          exact lnR.bad hy hr hn
        · have k0 : ¬ n = 0 := fun q => k1 (Or.inl q)
          have k2 : ¬ z.2.1 = 2 := fun q => k1 (Or.inr q)
          rw [if_neg (fun q => k1 (q.imp id h.k2.mp)), (mFin_R hb h hz hr hn h6 ht hN).2 (fun q => hc ⟨by omega, q⟩), show nF z.2.1 = if z.2.1 = 4 then 1 else 2 from if_neg k2]
          exact lnR.bad hy (by simp [hr]) hn
theorem jk_gn {α : Type} {l : List α} {i j : Nat} {v d : α} (h : i ≠ j) : (l.set i v).getD j d = l.getD j d := by
  rw [List.getD_eq_getElem?_getD, List.getElem?_set_ne h, ← List.getD_eq_getElem?_getD]
theorem NR.addS {sn tn rn : List Int64} {ns nt : Nat} {w w' : Int64} (h : NR sn tn rn ns nt) (hw : wR w w') (h6 : ns < 7) (h1 : sn.length = 7) (h2 : rn.length = 12) : NR (sn.set ns w) tn (rn.set ns w') (ns + 1) nt := by
  refine ⟨fun i hi => ?_, fun i hi => ?_⟩
  · by_cases z : ns = i
    · subst z
      rw [jk_gs _ _ _ _ (by omega), jk_gs _ _ _ _ (by omega)]
      exact hw
    · rw [jk_gn z, jk_gn z]
      exact h.1 i (by omega)
  · rw [jk_gn (by omega)]
    exact h.2 i hi
theorem NR.addT {sn tn rn : List Int64} {ns nt : Nat} {w w' : Int64} (h : NR sn tn rn ns nt) (hw : wR w w') (h7 : ns ≤ 7) (h4 : nt < 5) (h1 : tn.length = 5) (h2 : rn.length = 12) : NR sn (tn.set nt w) (rn.set (7 + nt) w') ns (nt + 1) := by
  refine ⟨fun i hi => ?_, fun i hi => ?_⟩
  · rw [jk_gn (by omega)]
    exact h.1 i hi
  · by_cases z : nt = i
    · subst z
      rw [jk_gs _ _ _ _ (by omega), jk_gs _ _ _ _ (by omega)]
      exact hw
    · rw [jk_gn z, jk_gn (by omega)]
      exact h.2 i (by omega)
theorem mSt_R {l m : List Int32} {e ns nt : Nat} {fa pa : Int32} {z y : rK} {sn tn rn : List Int64} {ru tr le rd : List Int32} (hb : bR l m e) (h : tR z y) (hk : z.2.1 = 1) (hz : z.1 ≤ e) (h7 : ns ≤ 7) (h1 : sn.length = 7) (hr : rd.length = 602) (hn : rn.length = 12) (hs : rd.getD 202 0 = nI ns) (ht : rd.getD 203 0 = nI nt) (hN : NR sn tn rn ns nt) : lnR l e (fa, pa) (stX l e ns nt fa pa z sn tn ru tr le).1 (stX l e ns nt fa pa z sn tn ru tr le).2.1 (stX l e ns nt fa pa z sn tn ru tr le).2.2.1 (stX l e ns nt fa pa z sn tn ru tr le).2.2.2.1 nt (stX l e ns nt fa pa z sn tn ru tr le).2.2.2.2.1 tn (mSt m e ns nt (fa, pa) y rd rn) := by
  unfold stX mSt
  have hy : y.1 ≤ e := by rw [h.1]; exact hz
  split
  · rw [if_pos (show ns = 7 by omega), mBad_k h (by rw [hk]; decide)]
    exact lnR.bad hy hr hn
  · rename_i h6
    rw [if_neg (show ¬ ns = 7 by omega)]
    have hz1 : (aT l e z).1 ≤ e := tkN_le hz
    have t1 := tR.step (m := m) hb hz h.1
    generalize aT l e z = z1 at t1 hz1 ⊢
    generalize mT m e y = y1 at t1 ⊢
    have hy1 : y1.1 ≤ e := by rw [t1.1]; exact hz1
    cases hk1 : nnOk z1.2.1 z1.2.2.2.1 sn tn ns nt with
    | false =>
      rw [cond_false, mName_f t1 hN hk1]
      exact lnR.bad hy1 hr hn
    | true =>
      obtain ⟨e1, hw⟩ := mName_t (m := m) (e := e) (F := (fa, pa)) (i := ns) (rd := rd) t1 hN hk1
      have hN1 := hN.addS hw (by omega) h1 hn
      rw [cond_true, e1]
      show lnR l e (fa, pa) (stN l e ns fa pa z1 _ _ ru tr le).1 _ _ _ nt _ tn (mSt2 m e ns (fa, pa) (mT m e y1) rd (rn.set ns y1.2.2.2.1))
      unfold stN mSt2
      have hn1 : (rn.set ns y1.2.2.2.1).length = 12 := by simp [hn]
      generalize rn.set ns y1.2.2.2.1 = rn1 at hN1 hn1 ⊢
      generalize sn.set ns z1.2.2.2.1 = sn1 at hN1 ⊢
      have hz2 : (aT l e z1).1 ≤ e := tkN_le hz1
      have t2 := tR.step (m := m) hb hz1 t1.1
      generalize aT l e z1 = z2 at t2 hz2 ⊢
      generalize mT m e y1 = y2 at t2 ⊢
      have hy2 : y2.1 ≤ e := by rw [t2.1]; exact hz2
      cases hk2 : nOk z2.2.1 z2.2.2.2.2 (if ns = 0 then 0 else 1) 30 with
      | false =>
        rw [cond_false, mNum_f t2 hk2]
        exact lnR.bad hy2 hr hn1
      | true =>
        rw [cond_true, mNum_t t2 hk2]
        show lnR l e (fa, pa) (stE ns sn1 _ (rT l e ns fa pa 4 0 z2.1 z2.2.1 z2.2.2.1 z2.2.2.2.1 z2.2.2.2.2 tr le)).1 _ _ _ nt _ tn (mTr m e ns (fa, pa) 3 0 (mT m e y2) (rd.set (8 * ns) z2.2.2.2.2) rn1)
        have hR := mTr_R (m := m) (fa := fa) (pa := pa) hb hn1 (show ns < 7 by omega) hN1 3 0 z2.1 z2.2.1 z2.2.2.1 z2.2.2.2.1 z2.2.2.2.2 tr le (mT m e y2) (rd.set (8 * ns) z2.2.2.2.2) rfl hz2 (tR.step hb hz2 t2.1) (by simp [hr]) ((mi_ne (by omega)).trans hs) ((mi_ne (by omega)).trans ht)
        unfold stE
        generalize rT l e ns fa pa 4 0 z2.1 z2.2.1 z2.2.2.1 z2.2.2.2.1 z2.2.2.2.2 tr le = R at hR ⊢
        obtain ⟨g1, g2, g3, g4⟩ := hR
        refine ⟨g1, g2, fun q => ?_, g4⟩
        dsimp only at q ⊢
        obtain ⟨a1, a2, a3, a4⟩ := g3 q
        rw [q, cond_true]
        exact ⟨a1, a2, a3, a4⟩
theorem mTm_R {l m : List Int32} {e ns nt : Nat} {pa : Int32} {z y : rK} {sn tn rn : List Int64} {sl we rd : List Int32} (hb : bR l m e) (h : tR z y) (hz : z.1 ≤ e) (h4 : nt < 5) (hr : rd.length = 602) (hn : rn.length = 12) (hs : rd.getD 202 0 = nI ns) (ht : rd.getD 203 0 = nI nt) (hN : NR sn tn rn ns (nt + 1)) : lnR l e (0, pa) (mS l e nt 0 pa z sl we).1 (mS l e nt 0 pa z sl we).2.1 (mS l e nt 0 pa z sl we).2.2.1 ns (nt + 1) sn tn (mTs m e nt (0, pa) y rd rn) := by
  have hE : ∀ {z y : rK} {sl we rd : List Int32}, tR z y → z.1 ≤ e → rd.length = 602 → rd.getD 202 0 = nI ns → rd.getD 203 0 = nI nt → lnR l e (0, pa) (mE 0 pa z sl we).1 (mE 0 pa z sl we).2.1 (mE 0 pa z sl we).2.2.1 ns (nt + 1) sn tn (mTe m e nt (0, pa) y rd rn) := by
    intro z y sl we rd h hz hr hs ht
    unfold mE mTe
    have c1 : (mCw nt 7 0 rd).length = 602 := (mCw_len 7 0 rd).trans hr
    have c2 : (mCw nt 7 0 rd).getD 202 0 = nI ns := (mCw_at (fun s hs => by omega) 7 0 rd rfl).trans hs
    generalize mCw nt 7 0 rd = rd1 at c1 c2 ⊢
    split
    · rename_i hk
      rw [mEnd_t h hk]
      exact lnR.end hb h hz (by simp [c1]) hn ((mi_ne (by omega)).trans c2) (jk_gs _ _ _ _ (by omega)) hN
    · rename_i hk
      rw [mEnd_f h hk]
      exact lnR.bad (by rw [h.1]; exact hz) (by simp [c1]) hn
  have hW : ∀ {z y : rK} {sl we rd : List Int32}, tR z y → z.1 ≤ e → rd.length = 602 → rd.getD 202 0 = nI ns → rd.getD 203 0 = nI nt → lnR l e (0, pa) (mW l e nt 0 pa z sl we).1 (mW l e nt 0 pa z sl we).2.1 (mW l e nt 0 pa z sl we).2.2.1 ns (nt + 1) sn tn (mTw m e nt (0, pa) y rd rn) := by
    intro z y sl we rd h hz hr hs ht
    unfold mW mTw
    simp only [h.word wR_3]
    split
    · have hz1 : (aT l e z).1 ≤ e := tkN_le hz
      have t1 := tR.step (m := m) hb hz h.1
      generalize aT l e z = z1 at t1 hz1 ⊢
      generalize mT m e y = y1 at t1 ⊢
      cases hk : nOk z1.2.1 z1.2.2.2.2 1 9 with
      | true =>
        rw [cond_true, mNum_t t1 hk]
        exact hE (tR.step hb hz1 t1.1) (tkN_le hz1) (by simp [hr]) ((mi_ne (by omega)).trans hs) ((mi_ne (by omega)).trans ht)
      | false =>
        rw [cond_false, mNum_f t1 hk]
        exact lnR.bad (by rw [t1.1]; exact hz1) hr hn
    · exact hE h hz hr hs ht
  unfold mS mTs
  simp only [h.word wR_2]
  split
  · have hz1 : (aT l e z).1 ≤ e := tkN_le hz
    have t1 := tR.step (m := m) hb hz h.1
    generalize aT l e z = z1 at t1 hz1 ⊢
    generalize mT m e y = y1 at t1 ⊢
    cases hk : nOk z1.2.1 z1.2.2.2.2 0 3 with
    | true =>
      rw [cond_true, mNum_t t1 hk]
      exact hW (tR.step hb hz1 t1.1) (tkN_le hz1) (by simp [hr]) ((mi_ne (by omega)).trans hs) ((mi_ne (by omega)).trans ht)
    | false =>
      rw [cond_false, mNum_f t1 hk]
      exact lnR.bad (by rw [t1.1]; exact hz1) hr hn
  · exact hW h hz hr hs ht
theorem mTn_R {l m : List Int32} {e ns nt : Nat} {pa : Int32} {z y : rK} {sn tn rn : List Int64} {si fr to st sl we rd : List Int32} (hb : bR l m e) (h : tR z y) (hk : z.2.1 = 1) (hz : z.1 ≤ e) (h7 : ns ≤ 7) (h5 : nt ≤ 5) (h1 : tn.length = 5) (hr : rd.length = 602) (hn : rn.length = 12) (hs : rd.getD 202 0 = nI ns) (ht : rd.getD 203 0 = nI nt) (hN : NR sn tn rn ns nt) : lnR l e (0, pa) (trX l e ns nt sn pa z tn si fr to st sl we).1 (trX l e ns nt sn pa z tn si fr to st sl we).2.1 (trX l e ns nt sn pa z tn si fr to st sl we).2.2.1 ns (trX l e ns nt sn pa z tn si fr to st sl we).2.2.2.1 sn (trX l e ns nt sn pa z tn si fr to st sl we).2.2.2.2.1 (mTn m e ns nt (0, pa) y rd rn) := by
  unfold trX mTn
  have hy : y.1 ≤ e := by rw [h.1]; exact hz
  split
  · rw [if_pos (show nt = 5 by omega), mBad_k h (by rw [hk]; decide)]
    exact lnR.bad hy hr hn
  · rename_i h4
    rw [if_neg (show ¬ nt = 5 by omega)]
    have hz1 : (aT l e z).1 ≤ e := tkN_le hz
    have t1 := tR.step (m := m) hb hz h.1
    clear h hk
    generalize aT l e z = z1 at t1 hz1 ⊢
    generalize mT m e y = y1 at t1 ⊢
    have hy1 : y1.1 ≤ e := by rw [t1.1]; exact hz1
    cases hk1 : nnOk z1.2.1 z1.2.2.2.1 sn tn ns nt with
    | false =>
      rw [cond_false, mName_f t1 hN hk1]
      exact lnR.bad hy1 hr hn
    | true =>
      obtain ⟨e1, hw⟩ := mName_t (m := m) (e := e) (F := (0, pa)) (i := 7 + nt) (rd := rd) t1 hN hk1
      have hN1 := hN.addT hw h7 (by omega) h1 hn
      rw [cond_true, e1]
      show lnR l e (0, pa) (trZ l e ns nt sn pa z1 _ si fr to st sl we).1 _ _ ns _ sn _ (mTn2 m e ns nt (0, pa) (mT m e y1) rd (rn.set (7 + nt) y1.2.2.2.1))
      unfold trZ mTn2
      have hn1 : (rn.set (7 + nt) y1.2.2.2.1).length = 12 := by simp [hn]
      generalize rn.set (7 + nt) y1.2.2.2.1 = rn1 at hN1 hn1 ⊢
      generalize tn.set nt z1.2.2.2.1 = tn1 at hN1 ⊢
      have hN0 : NR sn tn1 rn1 ns nt := ⟨hN1.1, fun i hi => hN1.2 i (by omega)⟩
      have hz2 : (aT l e z1).1 ≤ e := tkN_le hz1
      have t2 := tR.step (m := m) hb hz1 t1.1
      clear hk1 hw e1 hN hn hy1
      generalize aT l e z1 = z2 at t2 hz2 ⊢
      generalize mT m e y1 = y2 at t2 ⊢
      have hy2 : y2.1 ≤ e := by rw [t2.1]; exact hz2
      cases hk2 : nOk z2.2.1 z2.2.2.2.2 1 99 with
      | false =>
        rw [cond_false, mNum_f t2 hk2]
        exact lnR.bad hy2 hr hn1
      | true =>
        rw [cond_true, mNum_t t2 hk2]
        show lnR l e (0, pa) (trF l e ns nt sn pa z2 tn1 _ fr to st sl we).1 _ _ ns _ sn _ (mTn3 m e ns nt (0, pa) (mT m e y2) (rd.set (56 + 28 * nt) z2.2.2.2.2) rn1)
        have hr1 : (rd.set (56 + 28 * nt) z2.2.2.2.2).length = 602 := by simp [hr]
        have hs1 : (rd.set (56 + 28 * nt) z2.2.2.2.2).getD 202 0 = nI ns := (mi_ne (by omega)).trans hs
        have ht1 : (rd.set (56 + 28 * nt) z2.2.2.2.2).getD 203 0 = nI nt := (mi_ne (by omega)).trans ht
        generalize rd.set (56 + 28 * nt) z2.2.2.2.2 = rd1 at hr1 hs1 ht1 ⊢
        generalize si.set nt z2.2.2.2.2 = si1
        unfold trF trG mTn3
        have hz3 : (aT l e z2).1 ≤ e := tkN_le hz2
        have t3 := tR.step (m := m) hb hz2 t2.1
        clear hk2 hy2
        generalize aT l e z2 = z3 at t3 hz3 ⊢
        generalize mT m e y2 = y3 at t3 ⊢
        have hy3 : y3.1 ≤ e := by rw [t3.1]; exact hz3
        cases hk3 : uOk z3.2.1 z3.2.2.2.1 sn ns (-1) with
        | false =>
          rw [cond_false, mKnown_f t3 hN0 hk3]
          exact lnR.bad hy3 hr1 hn1
        | true =>
          rw [cond_true, mKnown_t t3 hN0 hk3]
          generalize sIx sn z3.2.2.2.1 ns 0 = u
          show lnR l e (0, pa) (trO l e ns nt sn pa z3 u tn1 si1 _ to st sl we).1 _ _ ns _ sn _ (mTn4 m e ns nt (0, pa) (mT m e y3) (rd1.set (57 + 28 * nt) u) rn1)
          have hr2 : (rd1.set (57 + 28 * nt) u).length = 602 := by simp [hr1]
          have hs2 : (rd1.set (57 + 28 * nt) u).getD 202 0 = nI ns := (mi_ne (by omega)).trans hs1
          have ht2 : (rd1.set (57 + 28 * nt) u).getD 203 0 = nI nt := (mi_ne (by omega)).trans ht1
          have hu2 : (rd1.set (57 + 28 * nt) u).getD (57 + 28 * nt) 0 = u := jk_gs _ _ _ _ (by omega)
          generalize rd1.set (57 + 28 * nt) u = rd2 at hr2 hs2 ht2 hu2 ⊢
          generalize fr.set nt u = fr1
          unfold trO mTn4
          rw [hu2]
          have hz4 : (aT l e z3).1 ≤ e := tkN_le hz3
          have t4 := tR.step (m := m) hb hz3 t3.1
          clear hk3 hy3
          generalize aT l e z3 = z4 at t4 hz4 ⊢
          generalize mT m e y3 = y4 at t4 ⊢
          have hy4 : y4.1 ≤ e := by rw [t4.1]; exact hz4
          cases hk4 : uOk z4.2.1 z4.2.2.2.1 sn ns u with
          | false =>
            rw [cond_false, mKnown_f t4 hN0 hk4]
            exact lnR.bad hy4 hr2 hn1
          | true =>
            rw [cond_true, mKnown_t t4 hN0 hk4]
            generalize sIx sn z4.2.2.2.1 ns 0 = v
            show lnR l e (0, pa) (trS l e nt pa z4 tn1 si1 fr1 _ st sl we).1 _ _ ns _ sn _ (mTn5 m e nt (0, pa) (mT m e y4) (rd2.set (58 + 28 * nt) v) rn1)
            have hr3 : (rd2.set (58 + 28 * nt) v).length = 602 := by simp [hr2]
            have hs3 : (rd2.set (58 + 28 * nt) v).getD 202 0 = nI ns := (mi_ne (by omega)).trans hs2
            have ht3 : (rd2.set (58 + 28 * nt) v).getD 203 0 = nI nt := (mi_ne (by omega)).trans ht2
            generalize rd2.set (58 + 28 * nt) v = rd3 at hr3 hs3 ht3 ⊢
            generalize to.set nt v = to1
            unfold trS mTn5
            have hz5 : (aT l e z4).1 ≤ e := tkN_le hz4
            have t5 := tR.step (m := m) hb hz4 t4.1
            clear hk4 hy4
            generalize aT l e z4 = z5 at t5 hz5 ⊢
            generalize mT m e y4 = y5 at t5 ⊢
            have hy5 : y5.1 ≤ e := by rw [t5.1]; exact hz5
            cases hk5 : nOk z5.2.1 z5.2.2.2.2 0 199 with
            | false =>
              rw [cond_false, mNum_f t5 hk5]
              exact lnR.bad hy5 hr3 hn1
            | true =>
              rw [cond_true, mNum_t t5 hk5]
              show lnR l e (0, pa) (trM nt tn1 si1 fr1 to1 _ (mS l e nt 0 pa (aT l e z5) (sl.set nt 0) (we.set nt 1))).1 _ _ ns _ sn _ (mTs m e nt (0, pa) (mT m e y5) (((rd3.set (59 + 28 * nt) z5.2.2.2.2).set (60 + 28 * nt) 0).set (61 + 28 * nt) 1) rn1)
              have hR := mTm_R (m := m) (pa := pa) (sl := sl.set nt 0) (we := we.set nt 1) (rd := ((rd3.set (59 + 28 * nt) z5.2.2.2.2).set (60 + 28 * nt) 0).set (61 + 28 * nt) 1) hb (tR.step hb hz5 t5.1) (tkN_le hz5) (show nt < 5 by omega) (by simp [hr3]) hn1 ((mi_ne (by omega)).trans ((mi_ne (by omega)).trans ((mi_ne (by omega)).trans hs3))) ((mi_ne (by omega)).trans ((mi_ne (by omega)).trans ((mi_ne (by omega)).trans ht3))) hN1
              unfold trM
              generalize mS l e nt 0 pa (aT l e z5) (sl.set nt 0) (we.set nt 1) = R at hR ⊢
              obtain ⟨g1, g2, g3, g4⟩ := hR
              refine ⟨g1, g2, fun q => ?_, g4⟩
              dsimp only at q ⊢
              obtain ⟨a1, a2, a3, a4⟩ := g3 q
              rw [q, cond_true]
              exact ⟨a1, a2, a3, a4⟩

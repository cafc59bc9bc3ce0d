/-! a line of the text, whatever it is; a fault has a number -/
theorem nF_ne (k : Int32) : nF k ≠ 0 := by
  unfold nF
  split
  · decide
  · split <;> decide
theorem f12_ne (k : Int32) : (if k = 4 then 1 else 2 : Int32) ≠ 0 := by split <;> decide
theorem rT_bad {l : List Int32} {e s : Nat} {fa pa : Int32} : ∀ (f k p : Nat) (kd pl : Int32) (wo : Int64) (nu : Int32) (tr le : List Int32), (rT l e s fa pa f k p kd pl wo nu tr le).1 = false → (rT l e s fa pa f k p kd pl wo nu tr le).2.1.1 ≠ 0
  | 0, k, p, kd, pl, wo, nu, tr, le, _ => by show (5 : Int32) ≠ 0; decide
  | f + 1, k, p, kd, pl, wo, nu, tr, le, h => by
    unfold rT at h ⊢
    split at h
    · cases h
    · rename_i hc
      rw [if_neg hc]
      cases hk : nOk (tkK (cX l) e p) (tkD l e p nu) 1 99 with
      | true => rw [hk, cond_true] at h; rw [cond_true]; exact rT_bad f _ _ _ _ _ _ _ _ h
      | false => exact nF_ne _
theorem stX_bad {l : List Int32} {e ns nt : Nat} {fa pa : Int32} {z : rK} {sn tn : List Int64} {ru tr le : List Int32} (h : (stX l e ns nt fa pa z sn tn ru tr le).1 = false) : (stX l e ns nt fa pa z sn tn ru tr le).2.1.1 ≠ 0 := by
  unfold stX at h ⊢
  split
  · show (5 : Int32) ≠ 0; decide
  · rename_i hc
    rw [if_neg hc] at h
    cases hk : nnOk (aT l e z).2.1 (aT l e z).2.2.2.1 sn tn ns nt with
    | false => exact uF_ne
    | true =>
      rw [hk, cond_true] at h
      rw [cond_true]
      unfold stN at h ⊢
      cases hk2 : nOk (aT l e (aT l e z)).2.1 (aT l e (aT l e z)).2.2.2.2 (if ns = 0 then 0 else 1) 30 with
      | false => exact nF_ne _
      | true =>
        rw [hk2, cond_true] at h
        rw [cond_true]
        exact rT_bad _ _ _ _ _ _ _ _ _ h
theorem mS_bad {l : List Int32} {e t : Nat} {fa pa : Int32} {z : rK} {sl we : List Int32} (h : (mS l e t fa pa z sl we).1 = false) : (mS l e t fa pa z sl we).2.1.1 ≠ 0 := by
  have hE : ∀ {z : rK} {sl we : List Int32}, (mE fa pa z sl we).1 = false → (mE fa pa z sl we).2.1.1 ≠ 0 := by
    intro z sl we h
    unfold mE at h ⊢
    split at h
    · cases h
    · rename_i hc
      rw [if_neg hc]
      exact f12_ne _
  have hW : ∀ {z : rK} {sl we : List Int32}, (mW l e t fa pa z sl we).1 = false → (mW l e t fa pa z sl we).2.1.1 ≠ 0 := by
    intro z sl we h
    unfold mW at h ⊢
    split at h
    · rename_i hc
      rw [if_pos hc]
      cases hk : nOk (aT l e z).2.1 (aT l e z).2.2.2.2 1 9 with
      | true => rw [hk, cond_true] at h; rw [cond_true]; exact hE h
      | false => exact nF_ne _
    · rename_i hc
      rw [if_neg hc]
      exact hE h
  unfold mS at h ⊢
  split at h
  · rename_i hc
    rw [if_pos hc]
    cases hk : nOk (aT l e z).2.1 (aT l e z).2.2.2.2 0 3 with
    | true => rw [hk, cond_true] at h; rw [cond_true]; exact hW h
    | false => exact nF_ne _
  · rename_i hc
    rw [if_neg hc]
    exact hW h
theorem trX_bad {l : List Int32} {e ns nt : Nat} {pa : Int32} {z : rK} {sn tn : List Int64} {si fr to st sl we : List Int32} (h : (trX l e ns nt sn pa z tn si fr to st sl we).1 = false) : (trX l e ns nt sn pa z tn si fr to st sl we).2.1.1 ≠ 0 := by
  unfold trX at h ⊢
  split
  · show (5 : Int32) ≠ 0; decide
  · rename_i hc
    rw [if_neg hc] at h
    cases hk : nnOk (aT l e z).2.1 (aT l e z).2.2.2.1 sn tn ns nt with
    | false => exact uF_ne
    | true =>
      rw [hk, cond_true] at h
      rw [cond_true]
      unfold trZ at h ⊢
      generalize aT l e z = z1 at h ⊢
      cases hk2 : nOk (aT l e z1).2.1 (aT l e z1).2.2.2.2 1 99 with
      | false => exact nF_ne _
      | true =>
        rw [hk2, cond_true] at h
        rw [cond_true]
        unfold trF trG at h ⊢
        generalize aT l e z1 = z2 at h ⊢
        cases hk3 : uOk (aT l e z2).2.1 (aT l e z2).2.2.2.1 sn ns (-1) with
        | false => exact uF_ne
        | true =>
          rw [hk3, cond_true] at h
          rw [cond_true]
          unfold trO at h ⊢
          generalize aT l e z2 = z3 at h ⊢
          cases hk4 : uOk (aT l e z3).2.1 (aT l e z3).2.2.2.1 sn ns (sIx sn z3.2.2.2.1 ns 0) with
          | false => exact uF_ne
          | true =>
            rw [hk4, cond_true] at h
            rw [cond_true]
            unfold trS at h ⊢
            generalize aT l e z3 = z4 at h ⊢
            cases hk5 : nOk (aT l e z4).2.1 (aT l e z4).2.2.2.2 0 199 with
            | false => exact nF_ne _
            | true =>
              rw [hk5, cond_true] at h
              rw [cond_true]
              exact mS_bad h
/-- what is read on both sides, told -/
def dR (rd : List Int32) (s : rSP) (t : rTP) : Prop := (∀ i, i < s.1 → stD rd s.2.2.1 s.2.2.2.1 s.2.2.2.2 i) ∧ (∀ j, j < t.1 → trD s.1 rd t.2.2.1 t.2.2.2.1 t.2.2.2.2.1 t.2.2.2.2.2.1 t.2.2.2.2.2.2.1 t.2.2.2.2.2.2.2 j) ∧ (∀ j, zJ j → gN rd j = if 246 ≤ j ∧ j < 296 then -1 else 0) ∧ ∀ i, s.1 ≤ i → i < 7 → gN rd (8 * i + 1) = 0
theorem dR.st {rd rd' ru tr le : List Int32} {ns' : Nat} {sn' : List Int64} {s : rSP} {t : rTP} (h : dR rd s t) (ht : t.1 ≤ 5) (Y : sY s.1 rd s.2.2.1 s.2.2.2.1 s.2.2.2.2 ns' ru tr le rd') : dR rd' (ns', sn', ru, tr, le) t := by
  obtain ⟨h1, h2, h3, h4⟩ := h
  obtain ⟨⟨y0, rfl⟩, y1, y2, y3, y4⟩ := Y
  refine ⟨fun i hi => ?_, fun j hj => ?_, fun j hj => ?_, fun i hi h7 => ?_⟩
  · have hi : i < s.1 + 1 := hi
    by_cases e : i = s.1
    · rw [e]; exact y4
    · obtain ⟨⟨a, a1, a2, a3, a4⟩, m, m1, m2, m3, m4, m5⟩ := h1 i (by omega)
      exact ⟨⟨a, a1, a2, (y1 _ (by omega) (by omega)).trans a3, (y2 i e).1.trans a4⟩, m, m1, m2, (y1 _ (by omega) (by omega)).trans m3, (y2 i e).2.trans m4, fun k hk => by rw [y1 _ (by omega) (by omega), y3 _ (by omega)]; exact m5 k hk⟩
  · obtain ⟨a1, ⟨f, o, b1, b2, b3, b4, b5, b6, b7⟩, ⟨v, c1, c2, c3⟩, ⟨w, d1, d2, d3⟩, ⟨x, e1, e2, e3⟩, g⟩ := h2 j hj
    have : j < 5 := by omega
    exact ⟨(y1 _ (by omega) (by omega)).trans a1, ⟨f, o, Nat.lt_succ_of_lt b1, Nat.lt_succ_of_lt b2, b3, (y1 _ (by omega) (by omega)).trans b4, b5, (y1 _ (by omega) (by omega)).trans b6, b7⟩, ⟨v, c1, (y1 _ (by omega) (by omega)).trans c2, c3⟩, ⟨w, d1, (y1 _ (by omega) (by omega)).trans d2, d3⟩, ⟨x, e1, (y1 _ (by omega) (by omega)).trans e2, e3⟩, fun k hk => (y1 _ (by omega) (by omega)).trans (g k hk)⟩
  · refine (y1 j ?_ ?_).trans (h3 j hj)
    · rcases hj.2 with z | z | ⟨a, b, z1, z2, z3⟩ <;> omega
    · rcases hj.2 with z | z | ⟨a, b, z1, z2, z3⟩ <;> omega
  · have hi : s.1 + 1 ≤ i := hi
    exact (y1 _ (by omega) (by omega)).trans (h4 i (by omega) h7)
theorem dR.tr {rd rd' si fr to st sl we : List Int32} {nt' : Nat} {tn' : List Int64} {s : rSP} {t : rTP} (h : dR rd s t) (hs : s.1 ≤ 7) (Y : tY s.1 t.1 rd t.2.2.1 t.2.2.2.1 t.2.2.2.2.1 t.2.2.2.2.2.1 t.2.2.2.2.2.2.1 t.2.2.2.2.2.2.2 nt' si fr to st sl we rd') : dR rd' s (nt', tn', si, fr, to, st, sl, we) := by
  obtain ⟨h1, h2, h3, h4⟩ := h
  obtain ⟨⟨y0, rfl⟩, y1, y2, y4⟩ := Y
  refine ⟨fun i hi => ?_, fun j hj => ?_, fun j hj => ?_, fun i hi h7 => ?_⟩
  · obtain ⟨⟨a, a1, a2, a3, a4⟩, m, m1, m2, m3, m4, m5⟩ := h1 i hi
    exact ⟨⟨a, a1, a2, (y1 _ (by omega)).trans a3, a4⟩, m, m1, m2, (y1 _ (by omega)).trans m3, m4, fun k hk => by rw [y1 _ (by omega)]; exact m5 k hk⟩
  · have hj : j < t.1 + 1 := hj
    by_cases e : j = t.1
    · rw [e]; exact y4
    · obtain ⟨a1, ⟨f, o, b1, b2, b3, b4, b5, b6, b7⟩, ⟨v, c1, c2, c3⟩, ⟨w, d1, d2, d3⟩, ⟨x, e1, e2, e3⟩, g⟩ := h2 j (by omega)
      obtain ⟨q1, q2, q3, q4, q5, q6⟩ := y2 j e
      have : j < 5 := by omega
      exact ⟨by rw [y1 _ (by omega)]; exact a1.trans q1.symm, ⟨f, o, b1, b2, b3, (y1 _ (by omega)).trans b4, q2.trans b5, (y1 _ (by omega)).trans b6, q3.trans b7⟩, ⟨v, c1, (y1 _ (by omega)).trans c2, q4.trans c3⟩, ⟨w, d1, (y1 _ (by omega)).trans d2, q5.trans d3⟩, ⟨x, e1, (y1 _ (by omega)).trans e2, q6.trans e3⟩, fun k hk => (y1 _ (by omega)).trans (g k hk)⟩
  · refine (y1 j ?_).trans (h3 j hj)
    rcases hj.2 with z | z | ⟨a, b, z1, z2, z3⟩ <;> omega
  · exact (y1 _ (by omega)).trans (h4 i hi h7)
theorem lnR.im {X X' : List Int32 → Prop} {l : List Int32} {e : Nat} {F : Int32 × Int32} {g : Bool} {Fc : Int32 × Int32} {z : rK} {ns nt : Nat} {sn tn : List Int64} {R : rM} (h : lnR l e F g Fc z ns nt sn tn X R) (k : ∀ rd, X rd → X' rd) : lnR l e F g Fc z ns nt sn tn X' R := ⟨h.1, h.2.1, fun q => ⟨(h.2.2.1 q).1, (h.2.2.1 q).2.1, (h.2.2.1 q).2.2.1, (h.2.2.1 q).2.2.2.1, k _ (h.2.2.1 q).2.2.2.2⟩, h.2.2.2⟩
theorem ln_R {l m : List Int32} {e : Nat} {pa : Int32} {z y : rK} {s : rSP} {t : rTP} {rd : List Int32} {rn : List Int64} (hb : bR l m e) (h : tR z y) (h0 : ¬ z.2.1 = 0) (hz : z.1 ≤ e) (hS : wS s) (hT : w9T t) (hr : rd.length = 602) (hn : rn.length = 12) (hs : rd.getD 202 0 = nI s.1) (ht : rd.getD 203 0 = nI t.1) (hN : NR s.2.1 t.2.1 rn s.1 t.1) : ∃ (g : Bool) (Fc : Int32 × Int32) (z' : rK) (s' : rSP) (t' : rTP), (∀ k, rdB l e pa k z s t = bif g then k z' s' t' else (Fc, z', s', t')) ∧ lnR l e (0, pa) g Fc z' s'.1 t'.1 s'.2.1 t'.2.1 (fun rd' => dR rd s t → dR rd' s' t') (mLn m e s.1 t.1 (0, pa) y rd rn) ∧ (g = true → z.1 ≤ z'.1 ∧ z'.1 ≤ e ∧ wS s' ∧ w9T t') ∧ (g = false → Fc.1 ≠ 0) := by
  unfold mLn
  simp only [h.word wR_0, h.word wR_1]
  by_cases c1 : z.2.1 = 1 ∧ z.2.2.2.1 = 32497584235442030
  · rw [if_pos c1]
    have hw := stX_wf (l := l) (e := e) (nt := t.1) (tn := t.2.1) (fa := 0) (pa := pa) (z := z) (ns := s.1) (sn := s.2.1) (ru := s.2.2.1) (tr := s.2.2.2.1) (le := s.2.2.2.2) ⟨Nat.le_refl _, hz⟩ hS.1 hS.2.1 hS.2.2.1 hS.2.2.2.1 hS.2.2.2.2
    have hR := mSt_R (m := m) (fa := 0) (pa := pa) (ru := s.2.2.1) (tr := s.2.2.2.1) (le := s.2.2.2.2) hb h c1.1 hz hS.1 hS.2.1 hS.2.2.1 hS.2.2.2.1 hS.2.2.2.2 hr hn hs ht hN
    have hB := stX_bad (l := l) (e := e) (nt := t.1) (tn := t.2.1) (fa := 0) (pa := pa) (z := z) (ns := s.1) (sn := s.2.1) (ru := s.2.2.1) (tr := s.2.2.2.1) (le := s.2.2.2.2)
    have e0 : ∀ k, rdB l e pa k z s t = rdS k t (stX l e s.1 t.1 0 pa z s.2.1 t.2.1 s.2.2.1 s.2.2.2.1 s.2.2.2.2) := fun k => by unfold rdB; rw [if_neg h0, if_pos c1]
    generalize stX l e s.1 t.1 0 pa z s.2.1 t.2.1 s.2.2.1 s.2.2.2.1 s.2.2.2.2 = R at hw hR hB e0
    exact ⟨R.1, R.2.1, R.2.2.1, R.2.2.2, t, e0, hR.im (fun rd' Y d => d.st hT.1 Y), fun _ => ⟨hw.1.1.1, hw.1.1.2, hw.1.2, hT⟩, hB⟩
  · rw [if_neg c1]
    by_cases c2 : z.2.1 = 1 ∧ z.2.2.2.1 = 500135192942
    · rw [if_pos c2]
      have hw := trX_wf (l := l) (e := e) (ns := s.1) (nt := t.1) (pa := pa) (z := z) (sn := s.2.1) (tn := t.2.1) (si := t.2.2.1) (fr := t.2.2.2.1) (to := t.2.2.2.2.1) (st := t.2.2.2.2.2.1) (sl := t.2.2.2.2.2.2.1) (we := t.2.2.2.2.2.2.2) ⟨Nat.le_refl _, hz⟩ hT.1 hT.2.1 hT.2.2.1 hT.2.2.2.1 hT.2.2.2.2.1 hT.2.2.2.2.2.1 hT.2.2.2.2.2.2.1 hT.2.2.2.2.2.2.2
      have hR := mTn_R (m := m) (pa := pa) (si := t.2.2.1) (fr := t.2.2.2.1) (to := t.2.2.2.2.1) (st := t.2.2.2.2.2.1) (sl := t.2.2.2.2.2.2.1) (we := t.2.2.2.2.2.2.2) hb h c2.1 hz hS.1 hT.1 hT.2.1 hT.2.2.1 hT.2.2.2.1 hT.2.2.2.2.1 hT.2.2.2.2.2.1 hT.2.2.2.2.2.2.1 hT.2.2.2.2.2.2.2 hr hn hs ht hN
      have hB := trX_bad (l := l) (e := e) (ns := s.1) (nt := t.1) (pa := pa) (z := z) (sn := s.2.1) (tn := t.2.1) (si := t.2.2.1) (fr := t.2.2.2.1) (to := t.2.2.2.2.1) (st := t.2.2.2.2.2.1) (sl := t.2.2.2.2.2.2.1) (we := t.2.2.2.2.2.2.2)
      have e0 : ∀ k, rdB l e pa k z s t = rdT k s (trX l e s.1 t.1 s.2.1 pa z t.2.1 t.2.2.1 t.2.2.2.1 t.2.2.2.2.1 t.2.2.2.2.2.1 t.2.2.2.2.2.2.1 t.2.2.2.2.2.2.2) := fun k => by unfold rdB; rw [if_neg h0, if_neg c1, if_pos c2]
      generalize trX l e s.1 t.1 s.2.1 pa z t.2.1 t.2.2.1 t.2.2.2.1 t.2.2.2.2.1 t.2.2.2.2.2.1 t.2.2.2.2.2.2.1 t.2.2.2.2.2.2.2 = R at hw hR hB e0
      exact ⟨R.1, R.2.1, R.2.2.1, s, R.2.2.2, e0, hR.im (fun rd' Y d => d.tr hS.1 Y), fun _ => ⟨hw.1.1.1, hw.1.1.2, hS, hw.1.2⟩, hB⟩
    · rw [if_neg c2, mBad_2 h]
      exact ⟨false, _, z, s, t, fun k => by unfold rdB; rw [if_neg h0, if_neg c1, if_neg c2]; rfl, lnR.bad (by rw [h.1]; exact hz) hr hn, fun q => (nomatch q), fun _ => f12_ne _⟩
/-- the block behind load -/
def ldW (n : Nat) (rd : List Int32) : List Int32 := rr_f n n 0 rd

/-! reading a text: what the class's reader comes to; its arrays keep their lengths, its places grow -/
abbrev rSP : Type := Nat × List Int64 × List Int32 × List Int32 × List Int32
abbrev rTP : Type := Nat × List Int64 × List Int32 × List Int32 × List Int32 × List Int32 × List Int32 × List Int32
abbrev rY : Type := (Int32 × Int32) × rK × rSP × rTP
def rdS (k : rK → rSP → rTP → rY) (t : rTP) (R : rA) : rY := bif R.1 then k R.2.2.1 R.2.2.2 t else (R.2.1, R.2.2.1, R.2.2.2, t)
def rdT (k : rK → rSP → rTP → rY) (s : rSP) (R : rB) : rY := bif R.1 then k R.2.2.1 s R.2.2.2 else (R.2.1, R.2.2.1, s, R.2.2.2)
def rdB (l : List Int32) (e : Nat) (pa : Int32) (k : rK → rSP → rTP → rY) (z : rK) (s : rSP) (t : rTP) : rY :=
  if z.2.1 = 0 then ((0, pa), z, s, t)
  else if z.2.1 = 1 ∧ z.2.2.2.1 = 32497584235442030 then rdS k t (stX l e s.1 t.1 0 pa z s.2.1 t.2.1 s.2.2.1 s.2.2.2.1 s.2.2.2.2)
  else if z.2.1 = 1 ∧ z.2.2.2.1 = 500135192942 then rdT k s (trX l e s.1 t.1 s.2.1 pa z t.2.1 t.2.2.1 t.2.2.2.1 t.2.2.2.2.1 t.2.2.2.2.2.1 t.2.2.2.2.2.2.1 t.2.2.2.2.2.2.2)
  else (((if z.2.1 = 4 then 1 else 2), z.2.2.1), z, s, t)
def rdL (l : List Int32) (e : Nat) (pa : Int32) : Nat → rK → rSP → rTP → rY
  | 0, z, s, t => ((0, pa), z, s, t)
  | f + 1, z, s, t => rdB l e pa (rdL l e pa f) (aT l e z) s t
def wS (s : rSP) : Prop := s.1 ≤ 7 ∧ s.2.1.length = 7 ∧ s.2.2.1.length = 7 ∧ s.2.2.2.1.length = 7 ∧ s.2.2.2.2.length = 21
def w9T (t : rTP) : Prop := t.1 ≤ 5 ∧ t.2.1.length = 5 ∧ t.2.2.1.length = 5 ∧ t.2.2.2.1.length = 5 ∧ t.2.2.2.2.1.length = 5 ∧ t.2.2.2.2.2.1.length = 5 ∧ t.2.2.2.2.2.2.1.length = 5 ∧ t.2.2.2.2.2.2.2.length = 5
theorem sR_t1 {P : Int → Bool} {c : Nat → Int} {f p : Nat} (h : P (c p) = true) (hf : 0 < f) : p < sR P c f p := by
  obtain ⟨g, rfl⟩ : ∃ g, f = g + 1 := ⟨f - 1, by omega⟩
  rw [sR_t h]
  have := sR_ge P c g (p + 1)
  omega
/-- a token is of some bytes -/
theorem tk_step {c : Nat → Int} {e p : Nat} (h : p ≤ e) (hk : tkK c e p ≠ 0) : p < tkN c e p := by
  have h1 := tkQ_ge (c := c) h
  unfold tkK at hk
  unfold tkN
  split
  · rename_i z
    rw [if_pos z] at hk
    exact absurd rfl hk
  · rename_i z
    cases hL : sL (c (tkQ c e p)) with
    | true =>
      have := sR_t1 (f := e - tkQ c e p) hL (by omega)
      dsimp only [cond_true]
      omega
    | false =>
      dsimp only [cond_false]
      cases hD : sD (c (tkQ c e p)) with
      | true =>
        have := sR_t1 (f := e - tkQ c e p) hD (by omega)
        dsimp only [cond_true]
        omega
      | false =>
        dsimp only [cond_false]
        omega
theorem tk_ge {c : Nat → Int} {e p : Nat} (h : p ≤ e) : p ≤ tkN c e p := by
  have h1 := tkQ_ge (c := c) h
  have h2 := sR_ge sL c (e - tkQ c e p) (tkQ c e p)
  have h3 := sR_ge sD c (e - tkQ c e p) (tkQ c e p)
  unfold tkN
  split
  · omega
  · cases sL (c (tkQ c e p)) with
    | true => dsimp only [cond_true]; omega
    | false =>
      cases sD (c (tkQ c e p)) with
      | true => dsimp only [cond_true, cond_false]; omega
      | false => dsimp only [cond_false]; omega
/-- between p and e -/
def wP (p e : Nat) (z : rK) : Prop := p ≤ z.1 ∧ z.1 ≤ e
theorem wP.aT {p e : Nat} {l : List Int32} {z : rK} (h : wP p e z) : wP p e (aT l e z) := ⟨Nat.le_trans h.1 (tk_ge h.2), tkN_le h.2⟩
theorem rT_wf {l : List Int32} {e s p0 : Nat} {fa pa : Int32} : ∀ (f k p : Nat) (kd pl : Int32) (wo : Int64) (nu : Int32) (tr le : List Int32), p0 ≤ p → p ≤ e → tr.length = 7 → le.length = 21 → (wP p0 e (rT l e s fa pa f k p kd pl wo nu tr le).2.2.1 ∧ (rT l e s fa pa f k p kd pl wo nu tr le).2.2.2.1.length = 7 ∧ (rT l e s fa pa f k p kd pl wo nu tr le).2.2.2.2.length = 21) ∧ ((rT l e s fa pa f k p kd pl wo nu tr le).1 = true → (rT l e s fa pa f k p kd pl wo nu tr le).2.1 = (fa, pa))
  | 0, k, p, kd, pl, wo, nu, tr, le, h0, h1, h2, h3 => ⟨⟨⟨h0, h1⟩, h2, h3⟩, fun z => nomatch z⟩
  | f + 1, k, p, kd, pl, wo, nu, tr, le, h0, h1, h2, h3 => by
    unfold rT
    split
    · exact ⟨⟨⟨Nat.le_trans h0 (tk_ge h1), tkN_le h1⟩, by simp [h2], h3⟩, fun _ => rfl⟩
    · cases nOk (tkK (cX l) e p) (tkD l e p nu) 1 99 with
      | true => exact rT_wf f (k + 1) (tkN (cX l) e p) _ _ _ _ tr _ (Nat.le_trans h0 (tk_ge h1)) (tkN_le h1) h2 (by split <;> simp [h3])
      | false => exact ⟨⟨⟨Nat.le_trans h0 (tk_ge h1), tkN_le h1⟩, h2, h3⟩, fun z => nomatch z⟩
/-- what a station's line leaves -/
def wA (p e : Nat) (F : Int32 × Int32) (R : rA) : Prop := (wP p e R.2.2.1 ∧ wS R.2.2.2) ∧ (R.1 = true → R.2.1 = F)
theorem stX_wf {l : List Int32} {e ns nt p : Nat} {fa pa : Int32} {z : rK} {sn tn : List Int64} {ru tr le : List Int32} (hz : wP p e z) (h0 : ns ≤ 7) (h1 : sn.length = 7) (h2 : ru.length = 7) (h3 : tr.length = 7) (h4 : le.length = 21) : wA p e (fa, pa) (stX l e ns nt fa pa z sn tn ru tr le) := by
  unfold stX
  split
  · exact ⟨⟨hz, h0, h1, h2, h3, h4⟩, fun z => nomatch z⟩
  · cases nnOk (aT l e z).2.1 (aT l e z).2.2.2.1 sn tn ns nt with
    | false => exact ⟨⟨hz.aT, h0, h1, h2, h3, h4⟩, fun z => nomatch z⟩
    | true =>
      rw [cond_true]
      unfold stN
      cases nOk (aT l e (aT l e z)).2.1 (aT l e (aT l e z)).2.2.2.2 (if ns = 0 then 0 else 1) 30 with
      | false => exact ⟨⟨hz.aT.aT, h0, by simp [h1], h2, h3, h4⟩, fun z => nomatch z⟩
      | true =>
        rw [cond_true]
        unfold stE
        have hw := rT_wf (l := l) (e := e) (s := ns) (fa := fa) (pa := pa) 4 0 (aT l e (aT l e z)).1 (aT l e (aT l e z)).2.1 (aT l e (aT l e z)).2.2.1 (aT l e (aT l e z)).2.2.2.1 (aT l e (aT l e z)).2.2.2.2 tr le hz.aT.aT.1 hz.aT.aT.2 h3 h4
        generalize rT l e ns fa pa 4 0 (aT l e (aT l e z)).1 (aT l e (aT l e z)).2.1 (aT l e (aT l e z)).2.2.1 (aT l e (aT l e z)).2.2.2.1 (aT l e (aT l e z)).2.2.2.2 tr le = R at hw ⊢
        refine ⟨⟨hw.1.1, ?_, by simp [h1], by simp [h2], hw.1.2.1, hw.1.2.2⟩, hw.2⟩
        dsimp only
        cases R.1 with
        | true => rw [cond_true]; omega
        | false => exact h0
def w9X (p e : Nat) (F : Int32 × Int32) (R : rX) : Prop := (wP p e R.2.2.1 ∧ R.2.2.2.1.length = 5 ∧ R.2.2.2.2.length = 5) ∧ (R.1 = true → R.2.1 = F)
theorem mE_wf {e p : Nat} {fa pa : Int32} {z : rK} {sl we : List Int32} (hz : wP p e z) (h1 : sl.length = 5) (h2 : we.length = 5) : w9X p e (fa, pa) (mE fa pa z sl we) := by
  unfold mE
  split
  · exact ⟨⟨hz, h1, h2⟩, fun _ => rfl⟩
  · exact ⟨⟨hz, h1, h2⟩, fun z => nomatch z⟩
theorem mW_wf {l : List Int32} {e t p : Nat} {fa pa : Int32} {z : rK} {sl we : List Int32} (hz : wP p e z) (h1 : sl.length = 5) (h2 : we.length = 5) : w9X p e (fa, pa) (mW l e t fa pa z sl we) := by
  unfold mW
  split
  · cases nOk (aT l e z).2.1 (aT l e z).2.2.2.2 1 9 with
    | true => exact mE_wf hz.aT.aT h1 (by simp [h2])
    | false => exact ⟨⟨hz.aT, h1, h2⟩, fun z => nomatch z⟩
  · exact mE_wf hz h1 h2
theorem mS_wf {l : List Int32} {e t p : Nat} {fa pa : Int32} {z : rK} {sl we : List Int32} (hz : wP p e z) (h1 : sl.length = 5) (h2 : we.length = 5) : w9X p e (fa, pa) (mS l e t fa pa z sl we) := by
  unfold mS
  split
  · cases nOk (aT l e z).2.1 (aT l e z).2.2.2.2 0 3 with
    | true => exact mW_wf hz.aT.aT (by simp [h1]) h2
    | false => exact ⟨⟨hz.aT, h1, h2⟩, fun z => nomatch z⟩
  · exact mW_wf hz h1 h2
def wB (p e : Nat) (F : Int32 × Int32) (R : rB) : Prop := (wP p e R.2.2.1 ∧ w9T R.2.2.2) ∧ (R.1 = true → R.2.1 = F)
theorem trX_wf {l : List Int32} {e ns nt p : Nat} {pa : Int32} {z : rK} {sn tn : List Int64} {si fr to st sl we : List Int32} (hz : wP p e z) (h0 : nt ≤ 5) (g0 : tn.length = 5) (g1 : si.length = 5) (g2 : fr.length = 5) (g3 : to.length = 5) (g4 : st.length = 5) (g5 : sl.length = 5) (g6 : we.length = 5) : wB p e (0, pa) (trX l e ns nt sn pa z tn si fr to st sl we) := by
  unfold trX
  split
  · exact ⟨⟨hz, h0, g0, g1, g2, g3, g4, g5, g6⟩, fun z => nomatch z⟩
  · cases nnOk (aT l e z).2.1 (aT l e z).2.2.2.1 sn tn ns nt with
    | false => exact ⟨⟨hz.aT, h0, g0, g1, g2, g3, g4, g5, g6⟩, fun z => nomatch z⟩
    | true =>
      rw [cond_true]
      unfold trZ
      have hz := hz.aT (l := l)
      generalize aT l e z = z at hz ⊢
      cases nOk (aT l e z).2.1 (aT l e z).2.2.2.2 1 99 with
      | false => exact ⟨⟨hz.aT, h0, by simp [g0], g1, g2, g3, g4, g5, g6⟩, fun z => nomatch z⟩
      | true =>
        rw [cond_true]
        unfold trF trG
        have hz := hz.aT (l := l)
        generalize aT l e z = z at hz ⊢
        cases uOk (aT l e z).2.1 (aT l e z).2.2.2.1 sn ns (-1) with
        | false => exact ⟨⟨hz.aT, h0, by simp [g0], by simp [g1], by simp [g2], g3, g4, g5, g6⟩, fun z => nomatch z⟩
        | true =>
          rw [cond_true]
          unfold trO
          have hz := hz.aT (l := l)
          generalize aT l e z = z at hz ⊢
          generalize sIx sn z.2.2.2.1 ns 0 = u
          cases uOk (aT l e z).2.1 (aT l e z).2.2.2.1 sn ns u with
          | false => exact ⟨⟨hz.aT, h0, by simp [g0], by simp [g1], by simp [g2], by simp [g3], g4, g5, g6⟩, fun z => nomatch z⟩
          | true =>
            rw [cond_true]
            unfold trS
            have hz := hz.aT (l := l)
            generalize aT l e z = z at hz ⊢
            cases nOk (aT l e z).2.1 (aT l e z).2.2.2.2 0 199 with
            | false => exact ⟨⟨hz.aT, h0, by simp [g0], by simp [g1], by simp [g2], by simp [g3], g4, g5, g6⟩, fun z => nomatch z⟩
            | true =>
              rw [cond_true]
              unfold trM
              have hz := hz.aT (l := l)
              generalize aT l e z = z at hz ⊢
              have hw := mS_wf (l := l) (e := e) (t := nt) (p := p) (fa := 0) (pa := pa) (z := aT l e z) (sl := sl.set nt 0) (we := we.set nt 1) hz.aT (by simp [g5]) (by simp [g6])
              generalize mS l e nt 0 pa (aT l e z) (sl.set nt 0) (we.set nt 1) = R at hw ⊢
              refine ⟨⟨hw.1.1, ?_, by simp [g0], by simp [g1], by simp [g2], by simp [g3], by simp [g4], hw.1.2.1, hw.1.2.2⟩, hw.2⟩
              dsimp only
              cases R.1 with
              | true => rw [cond_true]; omega
              | false => exact h0

/-! reading a station's tracks -/
theorem tkN_le {c : Nat → Int} {e p : Nat} (h : p ≤ e) : tkN c e p ≤ e := by
  have h1 := tkQ_ge (c := c) h
  have h2 := sR_ge sL c (e - tkQ c e p) (tkQ c e p)
  have h3 := sR_ge sD c (e - tkQ c e p) (tkQ c e p)
  unfold tkN
  split
  · omega
  · cases sL (c (tkQ c e p)) with
    | true => dsimp only [cond_true]; omega
    | false =>
      cases sD (c (tkQ c e p)) with
      | true => dsimp only [cond_true, cond_false]; omega
      | false => dsimp only [cond_false]; omega
theorem jk_ix3 (s k : Nat) : nI s * 3 + nI k = nI (3 * s + k) := by
  have e1 : nI (3 * s + k) = nI (3 * s) + nI k := Int32.ofNat_add _ _
  have e2 : nI (3 * s) = nI 3 * nI s := Int32.ofNat_mul _ _
  rw [e1, e2, Int32.mul_comm]
  rfl
section JKIAST
variable {P : j_P} {d mi pc : Nat} {lv : J_L} {st : List Value} {h h0 : J_H} {k : jk_K} {Q : Option Value → J_H → Prop}
theorem j_W.iastK {M : j_M} {a n : Nat} {l : List Int32} {x : Int32} {k' : jk_K} (hM : j_meth P mi = some M) (hc : j_code P mi pc = some .iastore) (K : KN h k h0) (ha : jk_lk k a = some (.inr (.inl (0, l)))) (hn : n < l.length) (hl : l.length < 2 ^ 31) (hk : jk_st k a (.inr (.inl (0, l.set n x))) = k') (kk : ∀ h', KN h' k' h0 → j_W P d mi (pc + 1) lv st h' Q) : j_W P d mi pc lv (.int x :: .int (nI n) :: .ref a :: st) h Q := by
  have h1 : (nI n).toNatClampNeg = n := nI_clamp (by omega)
  refine j_W.iast hM hc (K.at ha) (jk_in hn hl) ?_
  rw [h1]
  exact kk _ (K.set ha hk)
end JKIAST
/-- what a reading comes to: whether it is good; fault and place; the token at hand: next, kind, place, word, number; the tracks, the lengths -/
abbrev rX : Type := Bool × (Int32 × Int32) × (Nat × Int32 × Int32 × Int64 × Int32) × List Int32 × List Int32
def rT (l : List Int32) (e s : Nat) (fa pa : Int32) : Nat → Nat → Nat → Int32 → Int32 → Int64 → Int32 → List Int32 → List Int32 → rX
  | 0, _, p, kd, pl, wo, nu, tr, le => (false, (5, pl), (p, kd, pl, wo, nu), tr, le)
  | f + 1, k, p, _, _, wo, nu, tr, le =>
    if 0 < k ∧ tkK (cX l) e p = 3 then (true, (fa, pa), (tkN (cX l) e p, tkK (cX l) e p, nI (tkQ (cX l) e p), tkW l e p wo, tkD l e p nu), tr.set s (nI k), le)
    else bif nOk (tkK (cX l) e p) (tkD l e p nu) 1 99 then rT l e s fa pa f (k + 1) (tkN (cX l) e p) (tkK (cX l) e p) (nI (tkQ (cX l) e p)) (tkW l e p wo) (tkD l e p nu) tr (if k < 3 then le.set (3 * s + k) (tkD l e p nu) else le)
    else (false, (nF (tkK (cX l) e p), nI (tkQ (cX l) e p)), (tkN (cX l) e p, tkK (cX l) e p, nI (tkQ (cX l) e p), tkW l e p wo, tkD l e p nu), tr, le)

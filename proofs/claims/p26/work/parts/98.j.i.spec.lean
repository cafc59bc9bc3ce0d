/-! reading a station's line, a train's -/
section JKLAST
variable {P : j_P} {d mi pc : Nat} {lv : J_L} {st : List Value} {h h0 : J_H} {k : jk_K} {Q : Option Value → J_H → Prop}
theorem j_W.lastK {M : j_M} {a n : Nat} {l : List Int64} {x : Int64} {k' : jk_K} (hM : j_meth P mi = some M) (hc : j_code P mi pc = some .lastore) (K : KN h k h0) (ha : jk_lk k a = some (.inr (.inr (.inl l)))) (hn : n < l.length) (hl : l.length < 2 ^ 31) (hk : jk_st k a (.inr (.inr (.inl (l.set n x)))) = k') (kk : ∀ h', KN h' k' h0 → j_W P d mi (pc + 1) lv st h' Q) : j_W P d mi pc lv (.long x :: .int (nI n) :: .ref a :: st) h Q := by
  have h1 : (nI n).toNatClampNeg = n := nI_clamp (by omega)
  refine j_W.one hM hc ⟨fun z => (by cases z), fun z => (by cases z)⟩ (pcJ := pc + 1) (lv' := lv) (stJ := st) (h' := h.set a (.inr (.inr (.inl (l.set n x))))) ?_ (kk _ (K.set ha hk))
  simp only [j_one, j_kd, j_ast, K.at ha, j_ln]
  rw [if_pos (jk_in hn hl), h1]
  rfl
end JKLAST
theorem jk_gs {α : Type} (l : List α) (n : Nat) (v d : α) (h : n < l.length) : (l.set n v).getD n d = v := by
  rw [List.getD_eq_getElem?_getD, List.getElem?_set_self h]
  rfl
abbrev rA : Type := Bool × (Int32 × Int32) × rK × Nat × List Int64 × List Int32 × List Int32 × List Int32
/-- what is wrong with a name -/
def uF (kd : Int32) (w : Int64) : Int32 := bif nmOk kd w then 4 else if kd = 4 then 1 else 2
def nnOk (kd : Int32) (w : Int64) (sn tn : List Int64) (ns nt : Nat) : Bool := nmOk kd w && !sTk sn tn w ns nt
def uOk (kd : Int32) (w : Int64) (sn : List Int64) (ns : Nat) (u : Int32) : Bool := nmOk kd w && !(decide (sIx sn w ns 0 = -1) || decide (sIx sn w ns 0 = u))
theorem uF_ne {kd : Int32} {w : Int64} : uF kd w ≠ 0 := by
  unfold uF
  cases nmOk kd w with
  | true => rw [cond_true]; decide
  | false =>
    rw [cond_false]
    split <;> decide
def stE (ns : Nat) (sn : List Int64) (ru : List Int32) (R : rX) : rA := (R.1, R.2.1, R.2.2.1, (bif R.1 then ns + 1 else ns), sn, ru, R.2.2.2.1, R.2.2.2.2)
def stN (l : List Int32) (e ns : Nat) (fa pa : Int32) (z : rK) (lo : Int32) (sn : List Int64) (ru tr le : List Int32) : rA :=
  bif nOk (aT l e z).2.1 (aT l e z).2.2.2.2 lo 30 then stE ns sn (ru.set ns (aT l e z).2.2.2.2) (rT l e ns fa pa 4 0 (aT l e z).1 (aT l e z).2.1 (aT l e z).2.2.1 (aT l e z).2.2.2.1 (aT l e z).2.2.2.2 tr le)
  else (false, (nF (aT l e z).2.1, (aT l e z).2.2.1), aT l e z, ns, sn, ru, tr, le)
def stX (l : List Int32) (e ns nt : Nat) (fa pa : Int32) (z : rK) (sn tn : List Int64) (ru tr le : List Int32) : rA :=
  if 7 ≤ ns then (false, (5, z.2.2.1), z, ns, sn, ru, tr, le)
  else bif nnOk (aT l e z).2.1 (aT l e z).2.2.2.1 sn tn ns nt then stN l e ns fa pa (aT l e z) (if ns = 0 then 0 else 1) (sn.set ns (aT l e z).2.2.2.1) ru tr le
  else (false, (uF (aT l e z).2.1 (aT l e z).2.2.2.1, (aT l e z).2.2.1), aT l e z, ns, sn, ru, tr, le)
abbrev rB : Type := Bool × (Int32 × Int32) × rK × Nat × List Int64 × List Int32 × List Int32 × List Int32 × List Int32 × List Int32 × List Int32
def trM (nt : Nat) (tn : List Int64) (si fr to st : List Int32) (R : rX) : rB := (R.1, R.2.1, R.2.2.1, (bif R.1 then nt + 1 else nt), tn, si, fr, to, st, R.2.2.2.1, R.2.2.2.2)
def trS (l : List Int32) (e nt : Nat) (pa : Int32) (z : rK) (tn : List Int64) (si fr to st sl we : List Int32) : rB :=
  bif nOk (aT l e z).2.1 (aT l e z).2.2.2.2 0 199 then trM nt tn si fr to (st.set nt (aT l e z).2.2.2.2) (mS l e nt 0 pa (aT l e (aT l e z)) (sl.set nt 0) (we.set nt 1))
  else (false, (nF (aT l e z).2.1, (aT l e z).2.2.1), aT l e z, nt, tn, si, fr, to, st, sl, we)
def trO (l : List Int32) (e ns nt : Nat) (sn : List Int64) (pa : Int32) (z : rK) (u : Int32) (tn : List Int64) (si fr to st sl we : List Int32) : rB :=
  bif uOk (aT l e z).2.1 (aT l e z).2.2.2.1 sn ns u then trS l e nt pa (aT l e z) tn si fr (to.set nt (sIx sn (aT l e z).2.2.2.1 ns 0)) st sl we
  else (false, (uF (aT l e z).2.1 (aT l e z).2.2.2.1, (aT l e z).2.2.1), aT l e z, nt, tn, si, fr, to.set nt (-1), st, sl, we)
def trG (u : Int32) (l : List Int32) (e ns nt : Nat) (sn : List Int64) (pa : Int32) (z : rK) (tn : List Int64) (si fr to st sl we : List Int32) : rB :=
  bif uOk (aT l e z).2.1 (aT l e z).2.2.2.1 sn ns u then trO l e ns nt sn pa (aT l e z) (sIx sn (aT l e z).2.2.2.1 ns 0) tn si (fr.set nt (sIx sn (aT l e z).2.2.2.1 ns 0)) to st sl we
  else (false, (uF (aT l e z).2.1 (aT l e z).2.2.2.1, (aT l e z).2.2.1), aT l e z, nt, tn, si, fr.set nt (-1), to, st, sl, we)
def trF (l : List Int32) (e ns nt : Nat) (sn : List Int64) (pa : Int32) (z : rK) (tn : List Int64) (si fr to st sl we : List Int32) : rB := trG (-1) l e ns nt sn pa z tn si fr to st sl we
def trZ (l : List Int32) (e ns nt : Nat) (sn : List Int64) (pa : Int32) (z : rK) (tn : List Int64) (si fr to st sl we : List Int32) : rB :=
  bif nOk (aT l e z).2.1 (aT l e z).2.2.2.2 1 99 then trF l e ns nt sn pa (aT l e z) tn (si.set nt (aT l e z).2.2.2.2) fr to st sl we
  else (false, (nF (aT l e z).2.1, (aT l e z).2.2.1), aT l e z, nt, tn, si, fr, to, st, sl, we)
def trX (l : List Int32) (e ns nt : Nat) (sn : List Int64) (pa : Int32) (z : rK) (tn : List Int64) (si fr to st sl we : List Int32) : rB :=
  if 5 ≤ nt then (false, (5, z.2.2.1), z, nt, tn, si, fr, to, st, sl, we)
  else bif nnOk (aT l e z).2.1 (aT l e z).2.2.2.1 sn tn ns nt then trZ l e ns nt sn pa (aT l e z) (tn.set nt (aT l e z).2.2.2.1) si fr to st sl we
  else (false, (uF (aT l e z).2.1 (aT l e z).2.2.2.1, (aT l e z).2.2.1), aT l e z, nt, tn, si, fr, to, st, sl, we)

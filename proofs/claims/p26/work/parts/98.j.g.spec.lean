/-! reading how a train runs -/
abbrev rK : Type := Nat × Int32 × Int32 × Int64 × Int32
/-- the token behind the one at hand -/
def aT (l : List Int32) (e : Nat) (z : rK) : rK := (tkN (cX l) e z.1, tkK (cX l) e z.1, nI (tkQ (cX l) e z.1), tkW l e z.1 z.2.2.2.1, tkD l e z.1 z.2.2.2.2)
def mE (fa pa : Int32) (z : rK) (sl we : List Int32) : rX := if z.2.1 = 3 then (true, (fa, pa), z, sl, we) else (false, ((if z.2.1 = 4 then 1 else 2), z.2.2.1), z, sl, we)
def mW (l : List Int32) (e t : Nat) (fa pa : Int32) (z : rK) (sl we : List Int32) : rX :=
  if z.2.1 = 1 ∧ z.2.2.2.1 = 131277443786868 then (bif nOk (aT l e z).2.1 (aT l e z).2.2.2.2 1 9 then mE fa pa (aT l e (aT l e z)) sl (we.set t (aT l e z).2.2.2.2) else (false, (nF (aT l e z).2.1, (aT l e z).2.2.1), aT l e z, sl, we))
  else mE fa pa z sl we
def mS (l : List Int32) (e t : Nat) (fa pa : Int32) (z : rK) (sl we : List Int32) : rX :=
  if z.2.1 = 1 ∧ z.2.2.2.1 = 1936486263 then (bif nOk (aT l e z).2.1 (aT l e z).2.2.2.2 0 3 then mW l e t fa pa (aT l e (aT l e z)) (sl.set t (aT l e z).2.2.2.2) we else (false, (nF (aT l e z).2.1, (aT l e z).2.2.1), aT l e z, sl, we))
  else mW l e t fa pa z sl we

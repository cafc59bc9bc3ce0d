/-- the index of an array, within -/
def j_ix (i : Int32) (n : Nat) : Bool := !(decide (i < 0) || decide (n ≤ i.toNatClampNeg))
theorem j_ix_in {i : Int32} {n : Nat} (h : j_ix i n = true) : vp_in i n := by
  unfold j_ix at h
  simp only [Bool.not_eq_true', Bool.or_eq_false_iff, decide_eq_false_iff_not] at h
  exact fun q => q.elim h.1 h.2
theorem j_ix_lt {i : Int32} {n : Nat} (h : j_ix i n = true) : i.toNatClampNeg < n := by
  have h1 := j_ix_in h
  unfold vp_in at h1
  omega
/-- a load from an array, its length -/
def j_ald (ins : Instr) (h : J_H) (st : List Value) : Option (List Value) := match ins, st with
  | .iaload, .int i :: .ref k :: r => match h[k]? with
    | some (.inr (.inl (kd, l))) => if kd = 0 ∧ j_ix i l.length = true then some (.int (l.getD i.toNatClampNeg 0) :: r) else none
    | _ => none
  | .baload, .int i :: .ref k :: r => match h[k]? with
    | some (.inr (.inl (kd, l))) => if kd ≠ 0 ∧ j_ix i l.length = true then some (.int (l.getD i.toNatClampNeg 0) :: r) else none
    | _ => none
  | .laload, .int i :: .ref k :: r => match h[k]? with
    | some (.inr (.inr (.inl l))) => if j_ix i l.length = true then some (.long (l.getD i.toNatClampNeg 0) :: r) else none
    | _ => none
  | .aaload, .int i :: .ref k :: r => match h[k]? with
    | some (.inr (.inr (.inr l))) => if j_ix i l.length = true then (match l.getD i.toNatClampNeg none with
      | some q => some (.ref q :: r)
      | none => none) else none
    | _ => none
  | .arraylength, .ref k :: r => match h[k]? with
    | some (.inr (.inl (_, l))) => some (.int (Int32.ofNat l.length) :: r)
    | some (.inr (.inr (.inl l))) => some (.int (Int32.ofNat l.length) :: r)
    | _ => none
  | _, _ => none
/-- a store into an array -/
def j_ast (ins : Instr) (h : J_H) (st : List Value) : Option (List Value × J_H) := match ins, st with
  | .iastore, .int x :: .int i :: .ref k :: r => match h[k]? with
    | some (.inr (.inl (kd, l))) => if kd = 0 ∧ j_ix i l.length = true then some (r, h.set k (.inr (.inl (kd, l.set i.toNatClampNeg x)))) else none
    | _ => none
  | .bastore, .int x :: .int i :: .ref k :: r => match h[k]? with
    | some (.inr (.inl (kd, l))) => if kd ≠ 0 ∧ j_ix i l.length = true then some (r, h.set k (.inr (.inl (kd, l.set i.toNatClampNeg x.toInt8.toInt32)))) else none
    | _ => none
  | .lastore, .long x :: .int i :: .ref k :: r => match h[k]? with
    | some (.inr (.inr (.inl l))) => if j_ix i l.length = true then some (r, h.set k (.inr (.inr (.inl (l.set i.toNatClampNeg x))))) else none
    | _ => none
  | .aastore, .ref v :: .int i :: .ref k :: r => match h[k]?, h[v]? with
    | some (.inr (.inr (.inr l))), some (.inl (ci, _)) => if ci = 7 ∧ j_ix i l.length = true then some (r, h.set k (.inr (.inr (.inr (l.set i.toNatClampNeg (some v)))))) else none
    | _, _ => none
  | _, _ => none
section JARR
variable {p : Program} {l : Launch} {e : Env} {R : Room} {s : State} {m : MethodId} {args : Array Value} {below : List Frame} {meth : Method} {c : Code} {H : Heap} {locs : List Loc} {cells slots : Nat} {Q : State → Prop}
variable {cc : ByteArray} {pc : Nat} {ls : Array Slot} {WG : List Cond} {cl : List vw_C} {D : va_G} {g : j_G} {b : Nat} {RN : String} {A : Nat → Prop} {H0 : Heap}
set_option maxHeartbeats 4000000 in
theorem j_ald_ok (hx : p.tables.exec = Jvm.exec) (hb : c.code = cc) (hK : va_K D cl (j_tys RN g) s) {h : J_H} (hP : va_P D cl (j_ws g b h) H) {ins : Instr} {st stJ : List Value} (hd : decode cc pc = .ok (ins, j_ln ins)) (hj : j_ald ins h st = some stJ)
    (k : W p l e R s m args below meth c H locs cells slots Q (F0 m (pc + j_ln ins) ls (j_st b stJ))) : W p l e R s m args below meth c H locs cells slots Q (F0 m pc ls (j_st b st)) := by
  unfold j_ald at hj
  split at hj
  · split at hj
    · rename_i i q r _ kd lst hc
      split at hj
      · rename_i hi
        obtain ⟨rfl, hi⟩ := hi
        cases hj
        exact va_iald hx hb hK hP q 1 (f := fun j => lst.getD j 0) (j_ws_at hc) rfl (j_ix_in hi) hd k
      · cases hj
    · cases hj
  · split at hj
    · rename_i i q r _ kd lst hc
      split at hj
      · rename_i hi
        obtain ⟨hk, hi⟩ := hi
        cases hj
        exact va_bald hx hb hK hP q 0 (f := fun j => lst.getD j 0) (by rw [j_ws_at hc]; simp only [j_e, if_neg hk]) rfl (j_ix_in hi) hd k
      · cases hj
    · cases hj
  · split at hj
    · rename_i i q r _ lst hc
      split at hj
      · rename_i hi
        cases hj
        exact va_lald hx hb hK hP q 2 (f := fun j => lst.getD j 0) (j_ws_at hc) rfl (j_ix_in hi) hd k
      · cases hj
    · cases hj
  · split at hj
    · rename_i i q r _ lst hc
      split at hj
      · rename_i hi
        split at hj
        · rename_i z hz
          cases hj
          refine va_aldq hx hb hK hP q 3 (C := RN) (f := fun j => (lst.getD j none).map fun q => b + q) (j_ws_at hc) rfl (j_ix_in hi) hd ?_
          simp only [hz]
          exact k
        · cases hj
      · cases hj
    · cases hj
  · split at hj
    · rename_i q r _ kd lst hc
      cases hj
      by_cases hk : kd = 0
      · subst hk
        exact va_alen hx hb hK hP q 1 (j_ws_at hc) rfl rfl hd k
      · exact va_alen hx hb hK hP q 0 (x := (lst.length, .inl fun j => lst.getD j 0)) (by rw [j_ws_at hc]; simp only [j_e, if_neg hk]) rfl rfl hd k
    · rename_i q r _ lst hc
      cases hj
      exact va_alen hx hb hK hP q 2 (j_ws_at hc) rfl rfl hd k
    · cases hj
  · cases hj
set_option maxHeartbeats 4000000 in
theorem j_ast_ok (hx : p.tables.exec = Jvm.exec) (hb : c.code = cc) (hK : va_K D cl (j_tys RN g) s) {h : J_H} (hP : va_P D cl (j_ws g b h) H) (hD : ∀ q, b ≤ q → q < b + h.length → A q) (hS : va_S A H0 H locs) (hR : ∃ r : vw_C, cl[7]? = some r ∧ r.1 = RN) {ins : Instr} {st stJ : List Value} {h' : J_H} (hd : decode cc pc = .ok (ins, j_ln ins)) (hj : j_ast ins h st = some (stJ, h'))
    (k : ∀ (H1 : Heap) (locs1 : List Loc), va_P D cl (j_ws g b h') H1 → va_S A H0 H1 locs1 → h'.length = h.length → W p l e R s m args below meth c H1 locs1 cells slots Q (F0 m (pc + j_ln ins) ls (j_st b stJ))) : W p l e R s m args below meth c H locs cells slots Q (F0 m pc ls (j_st b st)) := by
  unfold j_ast at hj
  split at hj
  · split at hj
    · rename_i x i q r _ kd lst hc
      split at hj
      · rename_i hi
        obtain ⟨rfl, hi⟩ := hi
        cases hj
        refine va_iast hx hb hK hP (j_ws_D (n := 0) hD) hS q 1 (f := fun j => lst.getD j 0) (j_ws_at hc) rfl (j_ix_in hi) hd (fun H1 locs1 a1 a2 a3 => k H1 locs1 ?_ a3 (by simp))
        rw [← j_ws_set]
        simp only [j_e, j_getD_set lst _ x (j_ix_lt hi), List.length_set]
        exact a1
      · cases hj
    · cases hj
  · split at hj
    · rename_i x i q r _ kd lst hc
      split at hj
      · rename_i hi
        obtain ⟨hk, hi⟩ := hi
        cases hj
        refine va_bast hx hb hK hP (j_ws_D (n := 0) hD) hS q 0 (f := fun j => lst.getD j 0) (by rw [j_ws_at hc]; simp only [j_e, if_neg hk]) rfl (j_ix_in hi) hd (fun H1 locs1 a1 a2 a3 => k H1 locs1 ?_ a3 (by simp))
        rw [← j_ws_set]
        simp only [j_e, if_neg hk, j_getD_set lst _ _ (j_ix_lt hi), List.length_set]
        exact a1
      · cases hj
    · cases hj
  · split at hj
    · rename_i x i q r _ lst hc
      split at hj
      · rename_i hi
        cases hj
        refine va_last hx hb hK hP (j_ws_D (n := 0) hD) hS q 2 (f := fun j => lst.getD j 0) (j_ws_at hc) rfl (j_ix_in hi) hd (fun H1 locs1 a1 a2 a3 => k H1 locs1 ?_ a3 (by simp))
        rw [← j_ws_set]
        simp only [j_e, j_getD_setL lst _ x (j_ix_lt hi), List.length_set]
        exact a1
      · cases hj
    · cases hj
  · split at hj
    · rename_i v i q r _ _ lst ci fs hc hv
      split at hj
      · rename_i hi
        obtain ⟨rfl, hi⟩ := hi
        cases hj
        obtain ⟨r0, hr0, rfl⟩ := hR
        refine va_astq hx hb hK hP (j_ws_D (n := 0) hD) hS q 3 v 7 (f := fun j => (lst.getD j none).map fun q => b + q) (j_ws_at hc) rfl (j_ws_at hv) hr0 (j_ix_in hi) hd (fun H1 locs1 a1 a2 a3 => k H1 locs1 ?_ a3 (by simp))
        rw [← j_ws_set]
        simp only [j_e, j_getD_setQ b lst _ v (j_ix_lt hi), List.length_set]
        exact a1
      · cases hj
    · cases hj
  · cases hj
end JARR

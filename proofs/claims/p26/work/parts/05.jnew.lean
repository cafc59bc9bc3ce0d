section JNEW
variable {p : Program} {l : Launch} {e : Env} {R : Room} {s : State} {m : MethodId} {args : Array Value} {below : List Frame} {meth : Method} {c : Code} {H : Heap} {locs : List Loc} {cells slots : Nat} {Q : State → Prop}
variable {cc : ByteArray} {pc : Nat} {ls : Array Slot} {WG : List Cond} {cl : List vw_C} {D : va_G} {g : j_G} {b : Nat} {own RN : String} {A : Nat → Prop} {H0 : Heap}
/-- what the tables say of a 'new' -/
def j_Nok (WG : List Cond) (cl : List vw_C) (own : String) (idx : Nat) (f : Nat × List Value) : Prop :=
  ∃ (C : String) (T : u_T) (N : Nat) (ty : Nat → FieldType), cl[f.1]? = some (C, T, N) ∧ f.2.length = N ∧ (∀ w ∈ u_ws C T N, w ∈ WG) ∧ (∀ k, k < N → parseFieldDescriptor (T k).2.2.1 = some (ty k)) ∧ Cond.classLink own idx C ∈ WG ∧ Cond.instantiable C N ∈ WG ∧ Cond.initialized C ∈ WG ∧
    (∀ j, j < N → defaultValue (ty j) = vp_V f.2 j) ∧ (∀ v ∈ f.2, ∀ b : Nat, j_v b v = v)
set_option maxHeartbeats 4000000 in
theorem j_new_ok (hx : p.tables.exec = Jvm.exec) (hb : c.code = cc) (hts : ∀ w ∈ WG, w.before args s = true) (hown : s.vm.findClass own = some m.cls) (hK : va_K D cl (j_tys RN g) s) {h : J_H} (hP : va_P D cl (j_ws g b h) H) (hS : va_S A H0 H locs) (hsz : H.size = b + h.length)
    {idx : Nat} {f : Nat × List Value} (hf : j_Nok WG cl own idx f) {st : List Value} (hd : decode cc pc = .ok (.new idx, 3)) (hcells : cells + 1 ≤ R.cells) (hslots : slots + f.2.length ≤ R.slots)
    (k : ∀ (H1 : Heap), va_P D cl (j_ws g b (h ++ [.inl f])) H1 → va_S A H0 H1 locs → H1.size = b + (h ++ [Sum.inl f]).length → W p l e R s m args below meth c H1 locs (cells + 1) (slots + f.2.length) Q (F0 m (pc + 3) ls (j_st b (.ref h.length :: st)))) : W p l e R s m args below meth c H locs cells slots Q (F0 m pc ls (j_st b st)) := by
  obtain ⟨C, T, N, ty, f1, f2, f3, f4, f5, f6, f7, f8, f9⟩ := hf
  subst f2
  have hKn := hK.1 f.1 _ f1
  refine W.newcK hx hb hown (hts _ f5) (hts _ f6) (hts _ f7) rfl hd hcells hslots hKn.2.1 rfl fun H1 kC hkC e1 z1 o1 => ?_
  have hk : ∀ (k : Nat) (x : Nat × va_E), (j_ws g b h)[k]? = some x → H1[x.1]? = H[x.1]? := fun k x hx => o1 x.1 ((hP k x hx).lt)
  have hq : b + h.length = H.size := hsz.symm
  have e2 : j_st b (.ref h.length :: st) = .ref H.size :: j_st b st := by rw [← hq]; rfl
  have k1 := k H1 ?_ ⟨Nat.le_trans hS.1 (by omega), fun x h1 h2 => (o1 x (Nat.lt_of_lt_of_le h1 hS.1)).trans (hS.2.1 x h1 h2), hS.2.2⟩ (by rw [z1, List.length_append, hsz]; rfl)
  · rw [e2] at k1
    exact k1
  · rw [j_ws_push, hq]
    refine (hP.kept hk).app (fun k x hx => ?_)
    have hz : k < 1 := (List.getElem?_eq_some_iff.mp hx).1
    rw [show k = 0 by omega] at hx
    cases hx
    refine ⟨_, f1, (u_born ty hts f3 hKn hkC e1 f4).to fun j hj => ?_⟩
    rw [f8 j hj]
    show vp_V f.2 j = vp_V (j_st b f.2) j
    have e3 : j_st b f.2 = f.2 := by
      unfold j_st
      conv => rhs; rw [← List.map_id f.2]
      exact List.map_congr_left fun v hv => f9 v hv b
    rw [e3]
/-- a new array: its kind -/
def j_arr (at_ : ArrayType) (n : Nat) : Option J_C := match at_ with
  | .int => some (.inr (.inl (0, List.replicate n 0)))
  | .byte => some (.inr (.inl (1, List.replicate n 0)))
  | .long => some (.inr (.inr (.inl (List.replicate n 0))))
  | _ => none
theorem j_getD_rep (n j : Nat) : (List.replicate n (0 : Int32)).getD j 0 = 0 := by
  rw [List.getD_eq_getElem?_getD, List.getElem?_replicate]
  by_cases h : j < n <;> simp [h]
theorem j_getD_repL (n j : Nat) : (List.replicate n (0 : Int64)).getD j 0 = 0 := by
  rw [List.getD_eq_getElem?_getD, List.getElem?_replicate]
  by_cases h : j < n <;> simp [h]
theorem j_getD_repQ (n j : Nat) : (List.replicate n (none : Option Nat)).getD j none = none := by
  rw [List.getD_eq_getElem?_getD, List.getElem?_replicate]
  by_cases h : j < n <;> simp [h]
set_option maxHeartbeats 4000000 in
theorem j_newa_ok (hx : p.tables.exec = Jvm.exec) (hb : c.code = cc) (hts : ∀ w ∈ WG, w.before args s = true) (hK : va_K D cl (j_tys RN g) s) {h : J_H} (hP : va_P D cl (j_ws g b h) H) (hS : va_S A H0 H locs) (hsz : H.size = b + h.length)
    {at_ : ArrayType} {n : Int32} {cell : J_C} (hw : Cond.arrayClass (newarray.typeOf at_) ∈ WG) (hc : j_arr at_ n.toNatClampNeg = some cell) (hn : ¬ n < 0) (hn2 : n.toNatClampNeg ≤ 65536) {st : List Value} (hd : decode cc pc = .ok (.newarray at_, 2)) (hcells : cells + 1 ≤ R.cells) (hslots : slots + n.toNatClampNeg ≤ R.slots)
    (k : ∀ (H1 : Heap), va_P D cl (j_ws g b (h ++ [cell])) H1 → va_S A H0 H1 locs → H1.size = b + (h ++ [cell]).length → W p l e R s m args below meth c H1 locs (cells + 1) (slots + n.toNatClampNeg) Q (F0 m (pc + 2) ls (j_st b (.ref h.length :: st)))) : W p l e R s m args below meth c H locs cells slots Q (F0 m pc ls (j_st b (.int n :: st))) := by
  have hq : b + h.length = H.size := hsz.symm
  have e2 : j_st b (.ref h.length :: st) = .ref H.size :: j_st b st := by rw [← hq]; rfl
  have hby : n.toNatClampNeg * componentBytes (newarray.typeOf at_) ≤ 536870912 := by
    have h8 : componentBytes (newarray.typeOf at_) ≤ 8 := by cases at_ <;> decide
    exact Nat.le_trans (Nat.mul_le_mul hn2 h8) (Nat.le_of_ble_eq_true rfl)
  refine va_newaK hx hb (hts _ hw) rfl hd rfl hn rfl hby hcells hslots rfl fun H1 cA e1 z1 o1 hAr hNm => ?_
  have hk : ∀ (k : Nat) (x : Nat × va_E), (j_ws g b h)[k]? = some x → H1[x.1]? = H[x.1]? := fun k x hx => o1 x.1 ((hP k x hx).lt)
  have k1 := k H1 ?_ ⟨Nat.le_trans hS.1 (by omega), fun x h1 h2 => (o1 x (Nat.lt_of_lt_of_le h1 hS.1)).trans (hS.2.1 x h1 h2), hS.2.2⟩ (by rw [z1, List.length_append, hsz]; rfl)
  · rw [e2] at k1
    exact k1
  · rw [j_ws_push, hq]
    refine (hP.kept hk).app (fun k x hx => ?_)
    have hz : k < 1 := (List.getElem?_eq_some_iff.mp hx).1
    rw [show k = 0 by omega] at hx
    cases hx
    have r0 := (hK.2 0 _ rfl).2
    have r1 := (hK.2 1 _ rfl).2
    have r2 := (hK.2 2 _ rfl).2
    cases at_ <;> first | (cases hc; done) | skip
    · cases hc
      have ec : g.1 = cA := Option.some.inj ((show s.vm.findClass _ = some g.1 from r0).symm.trans hNm)
      show H1[H.size]? = some (vp_cell _ _)
      rw [e1]
      simp only [vp_cell, List.length_replicate, j_getD_rep]
      rw [if_neg (by decide), ec]
      rfl
    · cases hc
      have ec : g.2.1 = cA := Option.some.inj ((show s.vm.findClass _ = some g.2.1 from r1).symm.trans hNm)
      show H1[H.size]? = some (vp_cell _ _)
      rw [e1]
      simp only [vp_cell, List.length_replicate, j_getD_rep]
      rw [if_pos trivial, ec]
      rfl
    · cases hc
      have ec : g.2.2.1 = cA := Option.some.inj ((show s.vm.findClass _ = some g.2.2.1 from r2).symm.trans hNm)
      show H1[H.size]? = some (vp_cell _ _)
      rw [e1]
      simp only [vp_cell, List.length_replicate, j_getD_repL]
      rw [ec]
      rfl
set_option maxHeartbeats 4000000 in
theorem j_newq_ok (hx : p.tables.exec = Jvm.exec) (hb : c.code = cc) (hts : ∀ w ∈ WG, w.before args s = true) (hown : s.vm.findClass own = some m.cls) (hK : va_K D cl (j_tys RN g) s) {h : J_H} (hP : va_P D cl (j_ws g b h) H) (hS : va_S A H0 H locs) (hsz : H.size = b + h.length)
    {idx : Nat} {n : Int32} (hw : Cond.classLink own idx RN ∈ WG) (hAO : va_AO RN s) (hn : ¬ n < 0) (hn2 : n.toNatClampNeg ≤ 65536) {st : List Value} (hd : decode cc pc = .ok (.anewarray idx, 3)) (hcells : cells + 1 ≤ R.cells) (hslots : slots + n.toNatClampNeg ≤ R.slots)
    (k : ∀ (H1 : Heap), va_P D cl (j_ws g b (h ++ [.inr (.inr (.inr (List.replicate n.toNatClampNeg none)))])) H1 → va_S A H0 H1 locs → H1.size = b + (h ++ [(.inr (.inr (.inr (List.replicate n.toNatClampNeg none))) : J_C)]).length → W p l e R s m args below meth c H1 locs (cells + 1) (slots + n.toNatClampNeg) Q (F0 m (pc + 3) ls (j_st b (.ref h.length :: st)))) : W p l e R s m args below meth c H locs cells slots Q (F0 m pc ls (j_st b (.int n :: st))) := by
  have hq : b + h.length = H.size := hsz.symm
  have e2 : j_st b (.ref h.length :: st) = .ref H.size :: j_st b st := by rw [← hq]; rfl
  have hby : n.toNatClampNeg * 4 ≤ 536870912 := Nat.le_trans (Nat.mul_le_mul hn2 (Nat.le_refl 4)) (Nat.le_of_ble_eq_true rfl)
  refine W.anew hx hb hown (hts _ hw) (va_AO.use hAO) rfl hd rfl hn hby hcells hslots fun cA kA comp f1 f2 f3 f4 => ?_
  generalize hH1 : H.push ({ cls := cA, slots := Array.replicate n.toNatClampNeg .null, vm := .none } : Cell) = H1
  have z1 : H1.size = H.size + 1 := by rw [← hH1, Array.size_push]
  have e1 : H1[H.size]? = some (arrV cA n.toNatClampNeg (fun _ => .null)) := by rw [← hH1, Array.getElem?_push_size, ← arrV_new]
  have o1 : ∀ q : Nat, q < H.size → H1[q]? = H[q]? := fun q hq => by rw [← hH1, Array.getElem?_push, if_neg (Nat.ne_of_lt hq)]
  have hk : ∀ (k : Nat) (x : Nat × va_E), (j_ws g b h)[k]? = some x → H1[x.1]? = H[x.1]? := fun k x hx => o1 x.1 ((hP k x hx).lt)
  have k1 := k H1 ?_ ⟨Nat.le_trans hS.1 (by omega), fun x h1 h2 => (o1 x (Nat.lt_of_lt_of_le h1 hS.1)).trans (hS.2.1 x h1 h2), hS.2.2⟩ (by rw [z1, List.length_append, hsz]; rfl)
  · rw [e2] at k1
    exact k1
  · rw [j_ws_push, hq]
    refine (hP.kept hk).app (fun k x hx => ?_)
    have hz : k < 1 := (List.getElem?_eq_some_iff.mp hx).1
    rw [show k = 0 by omega] at hx
    cases hx
    obtain ⟨kA', comp', r1, r2, r3, r4⟩ := (hK.2 3 _ rfl).2
    have ec : g.2.2.2 = cA := Option.some.inj (r4.symm.trans f1)
    show H1[H.size]? = some (vp_cell _ _)
    rw [e1]
    simp only [vp_cell, List.length_replicate, j_getD_repQ, Option.map_none]
    rw [ec]
    rfl
end JNEW

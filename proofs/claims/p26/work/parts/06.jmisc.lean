/-- how many slots a cell has -/
def j_cl : J_C → Nat
  | .inl f => f.2.length
  | .inr (.inl f) => f.2.length
  | .inr (.inr (.inl f)) => f.length
  | .inr (.inr (.inr f)) => f.length
def j_sl (h : J_H) : Nat := (h.map j_cl).sum
theorem j_sl_push (h : J_H) (c : J_C) : j_sl (h ++ [c]) = j_sl h + j_cl c := by simp [j_sl]
theorem j_sum_set : ∀ (l : List Nat) (k x : Nat), l[k]? = some x → (l.set k x) = l
  | [], k, x, h => by simp at h
  | a :: r, 0, x, h => by simp at h; simp [h]
  | a :: r, k + 1, x, h => by
    simp only [List.getElem?_cons_succ] at h
    simp [j_sum_set r k x h]
theorem j_sl_set {h : J_H} {k : Nat} {c c' : J_C} (hk : h[k]? = some c) (hc : j_cl c' = j_cl c) : j_sl (h.set k c') = j_sl h := by
  unfold j_sl
  rw [List.map_set, hc, j_sum_set]
  rw [List.getElem?_map, hk]
  rfl
theorem j_put_sl {isI : Bool} {fl : Option j_F} {h h' : J_H} {st stJ : List Value} (hj : j_put isI fl h st = some (stJ, h')) : h'.length = h.length ∧ j_sl h' = j_sl h := by
  unfold j_put at hj
  split at hj
  · split at hj
    · rename_i hc
      split at hj
      · cases hj
        exact ⟨by simp, j_sl_set hc (by simp [j_cl])⟩
      · cases hj
    · cases hj
  · cases hj
theorem j_ast_sl {ins : Instr} {h h' : J_H} {st stJ : List Value} (hj : j_ast ins h st = some (stJ, h')) : h'.length = h.length ∧ j_sl h' = j_sl h := by
  unfold j_ast at hj
  split at hj
  · split at hj
    · rename_i hc
      split at hj
      · cases hj
        exact ⟨by simp, j_sl_set hc (by simp [j_cl])⟩
      · cases hj
    · cases hj
  · split at hj
    · rename_i hc
      split at hj
      · cases hj
        exact ⟨by simp, j_sl_set hc (by simp [j_cl])⟩
      · cases hj
    · cases hj
  · split at hj
    · rename_i hc
      split at hj
      · cases hj
        exact ⟨by simp, j_sl_set hc (by simp [j_cl])⟩
      · cases hj
    · cases hj
  · split at hj
    · rename_i hc hv
      split at hj
      · cases hj
        exact ⟨by simp, j_sl_set hc (by simp [j_cl])⟩
      · cases hj
    · cases hj
  · cases hj
/-- System.arraycopy over ints, over longs -/
def j_cpy {α : Type} (z : α) (l0 l1 : List α) (sp dp n : Nat) : List α := l1.mapIdx fun k x => if dp ≤ k ∧ k < dp + n then l0.getD (sp + (k - dp)) z else x
theorem j_cpy_len {α : Type} (z : α) (l0 l1 : List α) (sp dp n : Nat) : (j_cpy z l0 l1 sp dp n).length = l1.length := by simp [j_cpy]
theorem j_cpy_fun {α : Type} (z : α) (l0 l1 : List α) (sp dp n : Nat) (h : dp + n ≤ l1.length) : (fun j => (j_cpy z l0 l1 sp dp n).getD j z) = va_cpy (fun j => l0.getD j z) (fun j => l1.getD j z) sp dp n := by
  funext k
  simp only [j_cpy, va_cpy, List.getD_eq_getElem?_getD, List.getElem?_mapIdx]
  by_cases hk : dp ≤ k ∧ k < dp + n
  · have hl : k < l1.length := by omega
    have e1 : l1[k]? = some l1[k] := List.getElem?_eq_getElem hl
    rw [if_pos hk, e1]
    simp only [Option.map_some, Option.getD_some, if_pos hk]
  · rw [if_neg hk]
    cases e1 : l1[k]? with
    | none => rfl
    | some y => simp only [Option.map_some, Option.getD_some, if_neg hk]
def j_acp (h : J_H) (st : List Value) : Option (List Value × J_H) := match st with
  | .int n :: .int dp :: .ref a :: .int sp :: .ref a0 :: r => match h[a0]?, h[a]? with
    | some (.inr (.inl (k0, l0))), some (.inr (.inl (k1, l1))) =>
      if k0 = 0 ∧ k1 = 0 ∧ ¬ sp < 0 ∧ ¬ dp < 0 ∧ ¬ n < 0 ∧ sp.toNatClampNeg + n.toNatClampNeg ≤ l0.length ∧ dp.toNatClampNeg + n.toNatClampNeg ≤ l1.length ∧ (r.map fun v => v.category).sum ≤ 8 then
        some (r, h.set a (.inr (.inl (k1, j_cpy 0 l0 l1 sp.toNatClampNeg dp.toNatClampNeg n.toNatClampNeg)))) else none
    | some (.inr (.inr (.inl l0))), some (.inr (.inr (.inl l1))) =>
      if ¬ sp < 0 ∧ ¬ dp < 0 ∧ ¬ n < 0 ∧ sp.toNatClampNeg + n.toNatClampNeg ≤ l0.length ∧ dp.toNatClampNeg + n.toNatClampNeg ≤ l1.length ∧ (r.map fun v => v.category).sum ≤ 8 then
        some (r, h.set a (.inr (.inr (.inl (j_cpy 0 l0 l1 sp.toNatClampNeg dp.toNatClampNeg n.toNatClampNeg))))) else none
    | _, _ => none
  | _ => none
theorem j_acp_sl {h h' : J_H} {st stJ : List Value} (hj : j_acp h st = some (stJ, h')) : h'.length = h.length ∧ j_sl h' = j_sl h := by
  unfold j_acp at hj
  split at hj
  · split at hj
    · rename_i hc
      split at hj
      · cases hj
        exact ⟨by simp, j_sl_set hc (by simp [j_cl, j_cpy_len])⟩
      · cases hj
    · rename_i hc
      split at hj
      · cases hj
        exact ⟨by simp, j_sl_set hc (by simp [j_cl, j_cpy_len])⟩
      · cases hj
    · cases hj
  · cases hj
/-- Math.max, Math.min of ints -/
def j_mm (mx : Bool) (st : List Value) : Option (List Value) := match st with
  | .int y :: .int x :: r => if (r.map fun v => v.category).sum ≤ 8 then some (.int (if mx = true then (if x < y then y else x) else (if y < x then y else x)) :: r) else none
  | _ => none
section JMISC
variable {p : Program} {l : Launch} {e : Env} {R : Room} {s : State} {m : MethodId} {args : Array Value} {below : List Frame} {meth : Method} {c : Code} {H : Heap} {locs : List Loc} {cells slots : Nat} {Q : State → Prop}
variable {cc : ByteArray} {pc : Nat} {ls : Array Slot} {WG : List Cond} {cl : List vw_C} {D : va_G} {g : j_G} {b : Nat} {own RN : String} {A : Nat → Prop} {H0 : Heap}
set_option maxHeartbeats 4000000 in
theorem j_acp_ok (hx : p.tables.exec = Jvm.exec) (hb : c.code = cc) (hml : c.maxLocals = ls.size) (hts : ∀ w ∈ WG, w.before args s = true) (hown : s.vm.findClass own = some m.cls) (hK : va_K D cl (j_tys RN g) s) {h : J_H} (hP : va_P D cl (j_ws g b h) H) (hD : ∀ q, b ≤ q → q < b + h.length → A q) (hS : va_S A H0 H locs)
    {idx : Nat} (hw : Cond.methodLink own idx arraycopyName ∈ WG ∧ Cond.native arraycopyName ∈ WG ∧ Cond.static arraycopyName ∈ WG ∧ Cond.initialized "java/lang/System" ∈ WG) (hframes : 1 ≤ R.frames) (hlocals : 26 ≤ R.locals) {st stJ : List Value} {h' : J_H} (hd : decode cc pc = .ok (.invokestatic idx, 3)) (hj : j_acp h st = some (stJ, h'))
    (k : ∀ (H1 : Heap) (locs1 : List Loc), va_P D cl (j_ws g b h') H1 → va_S A H0 H1 locs1 → W p l e R s m args below meth c H1 locs1 cells slots Q (F0 m (pc + 3) ls (j_st b stJ))) : W p l e R s m args below meth c H locs cells slots Q (F0 m pc ls (j_st b st)) := by
  obtain ⟨w1, w2, w3, w4⟩ := hw
  have hnf : nativeFrameWords "java/lang/System" "arraycopy" 5 = 7 := by decide +kernel
  unfold j_acp at hj
  split at hj
  · rename_i n dp a sp a0 r
    split at hj
    · rename_i k0 l0 k1 l1 hc0 hc1
      split at hj
      · rename_i hi
        obtain ⟨rfl, rfl, i1, i2, i3, i4, i5, i6⟩ := hi
        cases hj
        refine va_copyi hx hb hml hown (hts _ w1) (hts _ w2) (hts _ w3) (hts _ w4) hK hP (j_ws_D (n := 0) hD) hS a0 a 1 1 (f := fun j => l0.getD j 0) (g := fun j => l1.getD j 0) (j_ws_at hc0) (j_ws_at hc1) rfl rfl rfl i1 i2 i3 i4 i5 (fun _ _ => rfl) hframes ?_ hd (fun H1 locs1 a1 a2 a3 => k H1 locs1 ?_ a3)
        · have := j_st_cat b stJ
          simp only [j_st] at this
          rw [this, hnf]
          omega
        · rw [← j_ws_set]
          simp only [j_e, j_cpy_fun 0 l0 l1 _ _ _ i5, j_cpy_len]
          exact a1
      · cases hj
    · rename_i l0 l1 hc0 hc1
      split at hj
      · rename_i hi
        obtain ⟨i1, i2, i3, i4, i5, i6⟩ := hi
        cases hj
        refine va_copyl hx hb hml hown (hts _ w1) (hts _ w2) (hts _ w3) (hts _ w4) hK hP (j_ws_D (n := 0) hD) hS a0 a 2 2 (f := fun j => l0.getD j 0) (g := fun j => l1.getD j 0) (j_ws_at hc0) (j_ws_at hc1) rfl rfl rfl i1 i2 i3 i4 i5 (fun _ _ => rfl) hframes ?_ hd (fun H1 locs1 a1 a2 a3 => k H1 locs1 ?_ a3)
        · have := j_st_cat b stJ
          simp only [j_st] at this
          rw [this, hnf]
          omega
        · rw [← j_ws_set]
          simp only [j_e, j_cpy_fun 0 l0 l1 _ _ _ i5, j_cpy_len]
          exact a1
      · cases hj
    · cases hj
  · cases hj
/-- constants of the pool -/
def j_ldk (ins : Instr) (kk : Nat → Option Value) (st : List Value) : Option (List Value) := match ins with
  | .ldc i => match kk i with
    | some (.int x) => some (.int x :: st)
    | _ => none
  | .ldc_w i => match kk i with
    | some (.int x) => some (.int x :: st)
    | _ => none
  | .ldc2_w i => match kk i with
    | some (.long x) => some (.long x :: st)
    | _ => none
  | _ => none
def j_Kok (WG : List Cond) (own : String) (idx : Nat) : Value → Prop
  | .int x => Cond.constant own idx x ∈ WG
  | .long x => Cond.constantLong own idx x ∈ WG
  | _ => True
theorem j_ldk_ok (hx : p.tables.exec = Jvm.exec) (hb : c.code = cc) (hts : ∀ w ∈ WG, w.before args s = true) (hown : s.vm.findClass own = some m.cls) {ins : Instr} {kk : Nat → Option Value} (hk : ∀ i v, kk i = some v → j_Kok WG own i v) {st stJ : List Value} (hd : decode cc pc = .ok (ins, j_ln ins)) (hj : j_ldk ins kk st = some stJ)
    (k : W p l e R s m args below meth c H locs cells slots Q (F0 m (pc + j_ln ins) ls (j_st b stJ))) : W p l e R s m args below meth c H locs cells slots Q (F0 m pc ls (j_st b st)) := by
  unfold j_ldk at hj
  split at hj
  · split at hj
    · rename_i x hv
      cases hj
      exact lv_ldc hx hb hown (hts _ (hk _ _ hv)) hd k
    · cases hj
  · split at hj
    · rename_i x hv
      cases hj
      exact lv_ldcw hx hb hown (hts _ (hk _ _ hv)) hd k
    · cases hj
  · split at hj
    · rename_i x hv
      cases hj
      exact lv_ldc2 hx hb hown (hts _ (hk _ _ hv)) hd k
    · cases hj
  · cases hj
/-- Object's constructor -/
def j_obi (st : List Value) : Option (List Value) := match st with
  | .ref _ :: r => if (r.map fun v => v.category).sum ≤ 8 then some r else none
  | _ => none
theorem j_obi_ok (hx : p.tables.exec = Jvm.exec) (hb : c.code = cc) (hml : c.maxLocals = ls.size) (hts : ∀ w ∈ WG, w.before args s = true) (hown : s.vm.findClass own = some m.cls) {idx : Nat} (hw : Cond.methodLink own idx objectInit ∈ WG ∧ Cond.instanceMethod objectInit ∈ WG ∧ Cond.code objectInit ⟨#[0xb1]⟩ 1 none ∈ WG) (hframes : 1 ≤ R.frames) (hlocals : 26 ≤ R.locals) {st stJ : List Value} (hd : decode cc pc = .ok (.invokespecial idx, 3)) (hj : j_obi st = some stJ)
    (k : W p l e R s m args below meth c H locs cells slots Q (F0 m (pc + 3) ls (j_st b stJ))) : W p l e R s m args below meth c H locs cells slots Q (F0 m pc ls (j_st b st)) := by
  unfold j_obi at hj
  split at hj
  · rename_i a r
    split at hj
    · rename_i hi
      cases hj
      refine W.objInit hx hb hown (hts _ hw.1) (hts _ hw.2.1) (hts _ hw.2.2) rfl hml.symm rfl hd hframes ?_ k
      have := j_st_cat b stJ
      simp only [j_st] at this
      rw [this]
      show 2 * 0 + _ + 12 ≤ _
      omega
    · cases hj
  · cases hj
theorem j_mm_ok (mx : Bool) (hx : p.tables.exec = Jvm.exec) (hb : c.code = cc) (hml : c.maxLocals = ls.size) (hts : ∀ w ∈ WG, w.before args s = true) (hown : s.vm.findClass own = some m.cls) {idx : Nat}
    (hw : if mx = true then Cond.methodLink own idx Lib.Math.max.name ∈ WG ∧ Cond.static Lib.Math.max.name ∈ WG ∧ Cond.initialized "java/lang/Math" ∈ WG ∧ Cond.code Lib.Math.max.name Lib.Math.max.code 2 (some .int) ∈ WG else Cond.methodLink own idx Lib.Math.min.name ∈ WG ∧ Cond.static Lib.Math.min.name ∈ WG ∧ Cond.initialized "java/lang/Math" ∈ WG ∧ Cond.code Lib.Math.min.name Lib.Math.min.code 2 (some .int) ∈ WG)
    (hframes : 1 ≤ R.frames) (hlocals : 26 ≤ R.locals) (hc : cells ≤ R.cells) (hs : slots ≤ R.slots) {st stJ : List Value} (hd : decode cc pc = .ok (.invokestatic idx, 3)) (hj : j_mm mx st = some stJ)
    (k : W p l e R s m args below meth c H locs cells slots Q (F0 m (pc + 3) ls (j_st b stJ))) : W p l e R s m args below meth c H locs cells slots Q (F0 m pc ls (j_st b st)) := by
  unfold j_mm at hj
  split at hj
  · rename_i y x r
    split at hj
    · rename_i hi
      cases hj
      have hr : ((j_st b r).map fun v => v.category).sum + 13 ≤ R.locals := by rw [j_st_cat]; omega
      cases mx with
      | true =>
        obtain ⟨w1, w2, w3, w4⟩ := hw
        exact va_mmax hx hb hml hown (hts _ w1) (hts _ w2) (hts _ w3) (hts _ w4) hframes hr hc hs hd k
      | false =>
        obtain ⟨w1, w2, w3, w4⟩ := hw
        exact va_mmin hx hb hml hown (hts _ w1) (hts _ w2) (hts _ w3) (hts _ w4) hframes hr hc hs hd k
    · cases hj
  · cases hj
end JMISC

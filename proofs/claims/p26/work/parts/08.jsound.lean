/-! THE MACHINE FOLLOWS J -/
abbrev j_NL : Type := List (String × Nat × MethodName × String)
def j_NW (NW : j_NL) (U : State) : Prop := ∀ q ∈ NW, va_Nw (.methodLinkNest q.1 q.2.1 q.2.2.1 q.2.2.2) U
/-- a method's own words -/
def j_Mok (WG : List Cond) (M : j_M) : Prop :=
  plainName (j_y M).cls = true ∧ (j_in M = true → (j_y M).name = "<init>") ∧ Cond.code (j_y M) (j_by M) (j_nL M) (j_rt M) ∈ WG ∧ ((j_y M).cls ≠ "java/lang/invoke/MethodHandle" ∧ (j_y M).cls ≠ "java/lang/invoke/VarHandle" ∧ (parseMethodDescriptor (j_y M).desc).map (fun d => d.parameters.length) = some (j_np M)) ∧ j_nL M ≤ 11 ∧ Cond.initialized (j_y M).cls ∈ WG
/-- a call's words -/
def j_Cok (WG : List Cond) (cl : List vw_C) (NW : j_NL) (own : String) (i md : Nat) (N : Option j_M) : Prop :=
  (md = 0 → Cond.methodLink own i objectInit ∈ WG ∧ Cond.instanceMethod objectInit ∈ WG ∧ Cond.code objectInit ⟨#[0xb1]⟩ 1 none ∈ WG) ∧
  (md = 1 → Cond.methodLink own i arraycopyName ∈ WG ∧ Cond.native arraycopyName ∈ WG ∧ Cond.static arraycopyName ∈ WG ∧ Cond.initialized "java/lang/System" ∈ WG) ∧
  (md = 2 → ∀ M, N = some M → Cond.methodLink own i (j_y M) ∈ WG ∧ Cond.static (j_y M) ∈ WG) ∧
  (md = 3 → ∀ M, N = some M → Cond.methodLink own i (j_y M) ∈ WG ∧ Cond.instanceMethod (j_y M) ∈ WG ∧ Cond.selects (j_y M).cls (j_y M) (j_y M) ∈ WG ∧ ∃ q, cl[j_ci M]? = some q ∧ q.1 = (j_y M).cls) ∧
  (md = 4 → ∀ M, N = some M → Cond.methodLink own i (j_y M) ∈ WG ∧ Cond.instanceMethod (j_y M) ∈ WG ∧ (j_y M).name = "<init>" ∧ j_rt M = none) ∧
  (md = 5 → ∀ M, N = some M → (∃ host, (own, i, j_y M, host) ∈ NW) ∧ Cond.instanceMethod (j_y M) ∈ WG ∧ (j_y M).name = "<init>" ∧ j_rt M = none) ∧
  (md = 6 → ∀ M, N = some M → (∃ host, (own, i, j_y M, host) ∈ NW) ∧ Cond.static (j_y M) ∈ WG) ∧
  (md = 7 → Cond.methodLink own i Lib.Math.max.name ∈ WG ∧ Cond.static Lib.Math.max.name ∈ WG ∧ Cond.initialized "java/lang/Math" ∈ WG ∧ Cond.code Lib.Math.max.name Lib.Math.max.code 2 (some .int) ∈ WG) ∧
  (md = 8 → Cond.methodLink own i Lib.Math.min.name ∈ WG ∧ Cond.static Lib.Math.min.name ∈ WG ∧ Cond.initialized "java/lang/Math" ∈ WG ∧ Cond.code Lib.Math.min.name Lib.Math.min.code 2 (some .int) ∈ WG)
def j_Pok (WG : List Cond) (cl : List vw_C) (RN : String) (NW : j_NL) (P : j_P) : Prop :=
  (∀ w ∈ WG, (w.onTables && w.keeps) = true ∨ ∃ ty, w = .arrayClass ty) ∧
  (∃ r, cl[7]? = some r ∧ r.1 = RN) ∧
  (∀ mi M pc ins, j_meth P mi = some M → j_code P mi pc = some ins → ∃ len, decode (j_by M) pc = .ok (ins, len) ∧ (j_sw ins = true ∨ len = j_ln ins)) ∧
  (∀ mi M, j_meth P mi = some M → j_Mok WG M) ∧
  (∀ mi M i f, j_meth P mi = some M → j_fld P mi i = some f → j_Fok WG cl (j_y M).cls i f) ∧
  (∀ mi M i f, j_meth P mi = some M → j_nw P mi i = some f → j_Nok WG cl (j_y M).cls i f) ∧
  (∀ mi M i v, j_meth P mi = some M → j_ldc P mi i = some v → j_Kok WG (j_y M).cls i v) ∧
  (∀ mi M i, j_meth P mi = some M → j_anw P mi i = true → Cond.classLink (j_y M).cls i RN ∈ WG) ∧
  (Cond.arrayClass .byte ∈ WG ∧ Cond.arrayClass .int ∈ WG ∧ Cond.arrayClass .long ∈ WG) ∧
  (∀ mi M i md x, j_meth P mi = some M → j_cal P mi i = some (md, x) → j_Cok WG cl NW (j_y M).cls i md (j_meth P x))
/-- a frame of the method M -/
def j_cx (WG : List Cond) (cl : List vw_C) (RN : String) (NW : j_NL) (M : j_M) (D : va_G) (g : j_G) (p : Program) (s : State) (m : MethodId) (args : Array Value) (meth : Method) (c : Code) : Prop :=
  p.tables.exec = Jvm.exec ∧ c.code = j_by M ∧ meth.sig.returnType = j_rt M ∧ c.maxLocals = j_nL M ∧ s.vm.findClass (j_y M).cls = some m.cls ∧ (∀ w ∈ WG, w.before args s = true) ∧ meth.locks = false ∧ (j_in M = true → meth.name = "<init>") ∧ va_K D cl (j_tys RN g) s ∧ j_NW NW s ∧ va_AO RN s
theorem j_args (b : Nat) : ∀ (i : Nat) (As : List Value), lv_args i (As.map (j_v b)) = j_lv b (lv_args i As)
  | _, [] => rfl
  | i, v :: r => by
    simp only [List.map_cons, lv_args, j_v_cat, j_lv]
    rw [j_args b _ r]
    rfl
theorem j_lgsl (b : Nat) : ∀ As : List Value, (lg_sl (As.map (j_v b))).length = (lg_sl As).length
  | [] => rfl
  | v :: r => by
    have h := j_lgsl b r
    simp only [lg_sl, List.map_cons, List.flatMap_cons, List.length_append, j_v_cat] at h ⊢
    rw [h]
    by_cases hc : v.category = 2 <;> simp [hc]
/-- the start and the end of a call of J -/
def j_Pre (cl : List vw_C) (RN : String) (NW : j_NL) (D : va_G) (g : j_G) (b sz : Nat) (h : J_H) (U : State) : Prop :=
  U.heap.size = sz ∧ va_P D cl (j_ws g b h) U.heap ∧ va_K D cl (j_tys RN g) U ∧ j_NW NW U ∧ va_AO RN U
def j_Post (cl : List vw_C) (D : va_G) (g : j_G) (b sz : Nat) (h hf : J_H) (r : Option Value) : Array Value → State → Outcome → State → Prop := fun _ st o t =>
  o = .returned (r.map (j_v b)) ∧ va_P D cl (j_ws g b hf) t.heap ∧ va_F (j_A b h.length sz) st t
theorem j_blind {cl : List vw_C} {RN : String} {NW : j_NL} {D : va_G} {g : j_G} {b sz : Nat} {h : J_H} {As : List Value} : FrameBlind (va_Pc As (j_Pre cl RN NW D g b sz h)) := by
  intro a U gg mk q
  obtain ⟨q0, q1, qP, qK, qN, qA⟩ := q
  exact ⟨q0, q1, qP, va_K.moved (u := U) (U := U.calling gg mk a) (Vm.Alike.refl U.vm) qK, fun w hw => va_Nw.same rfl (rfl : U.vm = (U.calling gg mk a).vm) (qN w hw), va_AO.moved (u := U) (U := U.calling gg mk a) (Vm.Alike.refl U.vm) qA⟩
section JSOUND
variable {WG : List Cond} {cl : List vw_C} {RN : String} {NW : j_NL} {P : j_P} {D : va_G} {g : j_G} {b : Nat} {l : Launch}
/-- what is to be shown of a frame, for the fuel f -/
def j_Goal (WG : List Cond) (cl : List vw_C) (RN : String) (NW : j_NL) (P : j_P) (D : va_G) (g : j_G) (b : Nat) (l : Launch) (f : Nat) : Prop :=
  ∀ (d mi pc : Nat) (lv : J_L) (st : List Value) (h : J_H) (r : Option Value) (hf : J_H), j_run P f d mi pc lv st h = some (r, hf) → ∀ M, j_meth P mi = some M →
  ∀ (p : Program) (e : Env) (R : Room) (s : State) (m : MethodId) (args : Array Value) (below : List Frame) (meth : Method) (c : Code) (H : Heap) (locs : List Loc) (ls : Array Slot) (A : Nat → Prop) (n0 s0 : Nat) (Qc : Array Value → State → Outcome → State → Prop),
    j_cx WG cl RN NW M D g p s m args meth c → R.frames = d + 1 → R.locals = (d + 1) * 30 → R.cells = hf.length - n0 → R.slots = j_sl hf - s0 → n0 ≤ h.length → s0 ≤ j_sl h → lv_has ls (j_nL M) (j_lv b lv) → va_P D cl (j_ws g b h) H → va_S A s.heap H locs →
    (∀ q, b ≤ q → q < b + h.length → A q) → (∀ q, s.heap.size ≤ q → A q) → (s.heap.size = b + n0 ∨ hf.length = h.length) →
    (∀ t : State, va_P D cl (j_ws g b hf) t.heap → va_F A s t → Qc args s (.returned (r.map (j_v b))) t) →
    W p l e R s m args below meth c H locs (h.length - n0) (j_sl h - s0) (MQ below Qc args s (hf.length - n0) (j_sl hf - s0) A) (F0 m pc ls (j_st b st))
set_option maxHeartbeats 4000000 in
theorem j_met_of {f : Nat} (hPk : j_Pok WG cl RN NW P) (IH : j_Goal WG cl RN NW P D g b l f) {d mi : Nat} {M : j_M} {As : List Value} {h hf : J_H} {r : Option Value} {sz : Nat} (hj : j_run P f d mi 0 (lv_args 0 As) [] h = some (r, hf)) (hM : j_meth P mi = some M) (hlen : (lg_sl As).length ≤ j_nL M) (hsz : sz = b + h.length ∨ hf.length = h.length) :
    Met l (j_y M) (Cond.code (j_y M) (j_by M) (j_nL M) (j_rt M) :: WG) ({ frames := d + 1, cells := hf.length - h.length, slots := j_sl hf - j_sl h, locals := (d + 1) * 30 }) (va_Pc (As.map (j_v b)) (j_Pre cl RN NW D g b sz h)) (j_Post cl D g b sz h hf r) (hf.length - h.length) (j_sl hf - j_sl h) (j_A b h.length sz) := by
  obtain ⟨m1, m2, m3, m4, m5, m6⟩ := hPk.2.2.2.1 mi M hM
  refine Met.ofW (cc := j_by M) (maxL := j_nL M) (ret := j_rt M) m1 rfl ?_
  intro p e s m args below meth c s₁ B hml hv
  obtain ⟨rfl, hs, hP, hK, hN, hAO⟩ := hv
  have hts := atoms_spec (ws := Cond.code (j_y M) (j_by M) (j_nL M) (j_rt M) :: WG) B.pre
  have hl := lv_entry (As.map (j_v b)) (n := j_nL M) (by rw [j_lgsl]; exact hlen)
  rw [lg_entry_eq]
  generalize (lg_sl (As.map (j_v b)) ++ List.replicate (j_nL M - (lg_sl (As.map (j_v b))).length) Slot.unset).toArray = ls at hl ⊢
  rw [j_args] at hl
  have e1 : h.length - h.length = 0 := Nat.sub_self _
  have e2 : j_sl h - j_sl h = 0 := Nat.sub_self _
  have w := IH d mi 0 (lv_args 0 As) [] h r hf hj M hM p e (headSpec (Cond.code (j_y M) (j_by M) (j_nL M) (j_rt M) :: WG) { frames := d + 1, cells := hf.length - h.length, slots := j_sl hf - j_sl h, locals := (d + 1) * 30 }).room s m (As.map (j_v b)).toArray below meth c s.heap [] ls (j_A b h.length sz) h.length (j_sl h) (j_Post cl D g b sz h hf r)
    ⟨B.exec, B.bytes, B.returns, hml, findClass_of_methodNamed B.named, fun w hw => hts w (List.mem_cons_of_mem _ hw), B.notSynchronized, fun hi => (name_of_methodNamed B.named B.method).1.trans (m2 hi), hK, hN, hAO⟩ rfl rfl rfl rfl (Nat.le_refl _) (Nat.le_refl _) hl hP va_S.rf (fun q h1 h2 => Or.inl ⟨h1, h2⟩) (fun q hq => Or.inr (by rw [← hs]; exact hq)) (by rw [hs]; exact hsz)
    (fun t a1 a2 => ⟨rfl, a1, a2⟩)
  rw [e1, e2] at w
  exact w
theorem j_goes {p : Program} {e : Env} {R : Room} {s : State} {m : MethodId} {args : Array Value} {below : List Frame} {meth : Method} {c : Code} {H : Heap} {locs : List Loc} {cells slots mc ms pc : Nat} {ls : Array Slot} {st0 rest : List Value} {Qa : State → Outcome → State → Prop} {free : Addr → Prop} {Q : State → Prop}
    (hr : va_Run p l e R s m args below meth c H locs cells slots mc ms (F0 m pc ls st0) rest Qa free)
    (kk : ∀ (v : Option Value) (st₀ t : State) (H1 : Heap) (L : List Loc), st₀.heap = H → t.heap = H1 → Qa st₀ (.returned v) t → (∀ q ∈ L, free q.base) → W p l e R s m args below meth c H1 (locs ++ L) (cells + mc) (slots + ms) Q (F0 m (pc + 3) ls (v.toList ++ rest))) : W p l e R s m args below meth c H locs cells slots Q (F0 m pc ls st0) := by
  intro T hT X
  obtain ⟨v, st₀, t, T', L, h0, X', hL, e1, e2, hq, st⟩ := hr T hT X
  obtain ⟨t2, a1, b1⟩ := kk v st₀ t T'.heap L h0 e1.symm hq hL T' rfl X'
  exact ⟨t2, st t2 a1, b1⟩
theorem j_rst (r : Option Value) (rest : List Value) : (r.map (j_v b)).toList ++ j_st b rest = j_st b (r.toList ++ rest) := by cases r <;> rfl
theorem j_spl_ok {md : Nat} {N : j_M} {h : J_H} {st As rest : List Value} (hj : j_spl md N h st = some (As, rest)) : st = As.reverse ++ rest ∧ As.length = j_nar md (j_np N) ∧ (rest.map fun v => v.category).sum ≤ 8 ∧ (lg_sl As).length ≤ j_nL N ∧ j_rcv md (j_ci N) h As = true := by
  unfold j_spl at hj
  split at hj
  · rename_i hi
    obtain ⟨i1, i2, i3, i4⟩ := hi
    cases hj
    refine ⟨by simp, by simp [List.length_take]; omega, i2, i3, i4⟩
  · cases hj
end JSOUND

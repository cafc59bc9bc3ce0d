/-! the tables hold what J takes of them: by program, then by the kernel -/
def WG : List Cond := lw_tbl.filter goodWord
def j_hw (n : Nat) (w : Cond) : Bool := decide (lw_tbl[n]? = some w) && goodWord w
theorem j_hw_ok {n : Nat} {w : Cond} (h : j_hw n w = true) : w ∈ WG := by
  unfold j_hw at h
  rw [Bool.and_eq_true] at h
  exact List.mem_filter.mpr ⟨List.mem_of_getElem? (of_decide_eq_true h.1), h.2⟩
theorem WG_good : ∀ w ∈ WG, (w.onTables && w.keeps) = true ∨ ∃ ty, w = .arrayClass ty := fun w hw => good_of_word (List.mem_filter.mp hw).2
def j_uws (C : String) (T : u_T) (N : Nat) : Bool := (u_ws C T N).all fun w => decide (w ∈ lw_tbl) && goodWord w
theorem j_uws_ok {C : String} {T : u_T} {N : Nat} (h : j_uws C T N = true) : ∀ w ∈ u_ws C T N, w ∈ WG := fun w hw => by
  have h1 := List.all_eq_true.mp h w hw
  rw [Bool.and_eq_true] at h1
  exact List.mem_filter.mpr ⟨of_decide_eq_true h1.1, h1.2⟩
def j_cls (ci : Nat) : Prop := ∀ C T N, vwCl[ci]? = some (C, T, N) → (∀ w ∈ u_ws C T N, w ∈ WG) ∧ (∃ ty0 : Nat → FieldType, ∀ k, k < N → parseFieldDescriptor (T k).2.2.1 = some (ty0 k)) ∧ (∀ a, a < N → ∀ b, b < N → a ≠ b → (T a).2.1 ≠ (T b).2.1)
set_option maxRecDepth 100000 in
theorem j_cls_0 : j_cls 0 := fun C T N h => by cases h; exact ⟨j_uws_ok (by decide +kernel), ⟨tyX0, tyX0_ok⟩, nmX0⟩
set_option maxRecDepth 100000 in
theorem j_cls_1 : j_cls 1 := fun C T N h => by cases h; exact ⟨j_uws_ok (by decide +kernel), ⟨tyX1, tyX1_ok⟩, nmX1⟩
set_option maxRecDepth 100000 in
theorem j_cls_2 : j_cls 2 := fun C T N h => by cases h; exact ⟨j_uws_ok (by decide +kernel), ⟨tyX2, tyX2_ok⟩, nmX2⟩
set_option maxRecDepth 100000 in
theorem j_cls_3 : j_cls 3 := fun C T N h => by cases h; exact ⟨j_uws_ok (by decide +kernel), ⟨tyX3, tyX3_ok⟩, nmX3⟩
set_option maxRecDepth 100000 in
theorem j_cls_4 : j_cls 4 := fun C T N h => by cases h; exact ⟨j_uws_ok (by decide +kernel), ⟨tyX4, tyX4_ok⟩, nmX4⟩
set_option maxRecDepth 100000 in
theorem j_cls_5 : j_cls 5 := fun C T N h => by cases h; exact ⟨j_uws_ok (by decide +kernel), ⟨tyX5, tyX5_ok⟩, nmX5⟩
set_option maxRecDepth 100000 in
theorem j_cls_6 : j_cls 6 := fun C T N h => by cases h; exact ⟨j_uws_ok (by decide +kernel), ⟨tyX6, tyX6_ok⟩, nmX6⟩
set_option maxRecDepth 100000 in
theorem j_cls_7 : j_cls 7 := fun C T N h => by cases h; exact ⟨j_uws_ok (by decide +kernel), ⟨tyX7, tyX7_ok⟩, nmX7⟩
set_option maxRecDepth 100000 in
theorem j_cls_8 : j_cls 8 := fun C T N h => by cases h; exact ⟨j_uws_ok (by decide +kernel), ⟨tyX8, tyX8_ok⟩, nmX8⟩
set_option maxRecDepth 100000 in
theorem j_cls_9 : j_cls 9 := fun C T N h => by cases h; exact ⟨j_uws_ok (by decide +kernel), ⟨tyX9, tyX9_ok⟩, nmX9⟩
set_option maxRecDepth 100000 in
theorem j_cls_10 : j_cls 10 := fun C T N h => by cases h; exact ⟨j_uws_ok (by decide +kernel), ⟨tyX10, tyX10_ok⟩, nmX10⟩
theorem j_cls_all : ∀ ci, j_cls ci := fun ci => match ci with
  | 0 => j_cls_0
  | 1 => j_cls_1
  | 2 => j_cls_2
  | 3 => j_cls_3
  | 4 => j_cls_4
  | 5 => j_cls_5
  | 6 => j_cls_6
  | 7 => j_cls_7
  | 8 => j_cls_8
  | 9 => j_cls_9
  | 10 => j_cls_10
  | _ + 11 => fun C T N h => by cases h
/-- decoding -/
def j_dchk (by_ : ByteArray) (T : j_CT) : Bool := T.all fun c => c.2.all fun e => match decode by_ e.1 with
  | .ok (i, len) => decide (i = e.2) && (j_sw i || decide (len = j_ln i))
  | _ => false
theorem j_dchk_ok {by_ : ByteArray} {T : j_CT} (h : j_dchk by_ T = true) {pc : Nat} {ins : Instr} (hj : j_fc T pc = some ins) : ∃ len, decode by_ pc = .ok (ins, len) ∧ (j_sw ins = true ∨ len = j_ln ins) := by
  have h1 := j_fc_all h hj
  simp only at h1
  split at h1
  · rename_i i len hd
    rw [Bool.and_eq_true] at h1
    obtain ⟨h2, h3⟩ := h1
    obtain rfl : i = ins := of_decide_eq_true h2
    rcases (Bool.or_eq_true _ _).mp h3 with h4 | h4
    · exact ⟨len, hd, Or.inl h4⟩
    · exact ⟨len, hd, Or.inr (of_decide_eq_true h4)⟩
  · cases h1
/-- a field's entry -/
def j_Fchk (own : String) (q : Nat × (j_F × Nat)) : Bool := match vwCl[q.2.1.1]? with
  | some (_, T, N) => decide (q.2.1.2.1 < N) && (j_hw q.2.2 (.fieldLink own q.1 (T q.2.1.2.1).1 (T q.2.1.2.1).2.1 (T q.2.1.2.1).2.2.1) && (decide (parseFieldDescriptor (T q.2.1.2.1).2.2.1 = some q.2.1.2.2.1) && ((!decide (q.2.1.2.2.2 = 0) || !(T q.2.1.2.1).2.2.2) && (!decide (q.2.1.2.2.2 = 1) || ((T q.2.1.2.1).2.2.2 && decide ((T q.2.1.2.1).1 = own))))))
  | none => false
theorem j_Fchk_ok {own : String} {q : Nat × (j_F × Nat)} (h : j_Fchk own q = true) : j_Fok WG vwCl own q.1 q.2.1 := by
  unfold j_Fchk at h
  split at h
  · rename_i C T N hc
    simp only [Bool.and_eq_true] at h
    obtain ⟨h1, h2, h3, h4, h5⟩ := h
    obtain ⟨c1, c2, c3⟩ := j_cls_all _ C T N hc
    refine ⟨C, T, N, hc, of_decide_eq_true h1, c1, j_hw_ok h2, of_decide_eq_true h3, fun z => ?_, c2, c3, fun z => ?_⟩
    · rw [z] at h4
      simpa using h4
    · rw [z] at h5
      simpa using h5
  · cases h
/-- a 'new' -/
def j_Nchk (own : String) (q : Nat × ((Nat × List Value) × Nat × Nat × Nat)) : Bool := match vwCl[q.2.1.1]? with
  | some (C, T, N) => decide (q.2.1.2.length = N) && (j_hw q.2.2.1 (.classLink own q.1 C) && (j_hw q.2.2.2.1 (.instantiable C N) && (j_hw q.2.2.2.2 (.initialized C) && ((List.range N).all (fun j => match parseFieldDescriptor (T j).2.2.1 with
      | some t => decide (defaultValue t = vp_V q.2.1.2 j)
      | none => false) && q.2.1.2.all (fun v => match v with
      | .ref _ => false
      | _ => true)))))
  | none => false
theorem j_Nchk_ok {own : String} {q : Nat × ((Nat × List Value) × Nat × Nat × Nat)} (h : j_Nchk own q = true) : j_Nok WG vwCl own q.1 q.2.1 := by
  unfold j_Nchk at h
  split at h
  · rename_i C T N hc
    simp only [Bool.and_eq_true] at h
    obtain ⟨h1, h2, h3, h4, h5, h6⟩ := h
    obtain ⟨c1, ⟨ty0, c2⟩, c3⟩ := j_cls_all _ C T N hc
    refine ⟨C, T, N, ty0, hc, of_decide_eq_true h1, c1, c2, j_hw_ok h2, j_hw_ok h3, j_hw_ok h4, fun j hj => ?_, fun v hv b => ?_⟩
    · have h7 := List.all_eq_true.mp h5 j (List.mem_range.mpr hj)
      rw [c2 j hj] at h7
      exact of_decide_eq_true h7
    · have h7 := List.all_eq_true.mp h6 v hv
      cases v <;> first | rfl | (cases h7)
  · cases h
def j_Kchk (own : String) (q : Nat × (Value × Nat)) : Bool := match q.2.1 with
  | .int x => j_hw q.2.2 (.constant own q.1 x)
  | .long x => j_hw q.2.2 (.constantLong own q.1 x)
  | _ => true
theorem j_Kchk_ok {own : String} {q : Nat × (Value × Nat)} (h : j_Kchk own q = true) : j_Kok WG own q.1 q.2.1 := by
  unfold j_Kchk at h
  unfold j_Kok
  split at h <;> simp_all
  all_goals exact j_hw_ok h
/-- a call -/
def j_Cchk (own : String) (q : Nat × (Nat × Nat × List Nat)) : Bool := match q.2.1, q.2.2.2 with
  | 0, [a, b, c] => j_hw a (.methodLink own q.1 objectInit) && (j_hw b (.instanceMethod objectInit) && j_hw c (.code objectInit ⟨#[0xb1]⟩ 1 none))
  | 1, [a, b, c, d] => j_hw a (.methodLink own q.1 arraycopyName) && (j_hw b (.native arraycopyName) && (j_hw c (.static arraycopyName) && j_hw d (.initialized "java/lang/System")))
  | 2, [a, b] => match j_meth jP q.2.2.1 with
    | some M => j_hw a (.methodLink own q.1 (j_y M)) && j_hw b (.static (j_y M))
    | none => false
  | 3, [a, b, c] => match j_meth jP q.2.2.1 with
    | some M => j_hw a (.methodLink own q.1 (j_y M)) && (j_hw b (.instanceMethod (j_y M)) && (j_hw c (.selects (j_y M).cls (j_y M) (j_y M)) && (match vwCl[j_ci M]? with
      | some z => decide (z.1 = (j_y M).cls)
      | none => false)))
    | none => false
  | 4, [a, b] => match j_meth jP q.2.2.1 with
    | some M => j_hw a (.methodLink own q.1 (j_y M)) && (j_hw b (.instanceMethod (j_y M)) && (decide ((j_y M).name = "<init>") && decide (j_rt M = none)))
    | none => false
  | 5, [a] => match j_meth jP q.2.2.1 with
    | some M => j_hw a (.instanceMethod (j_y M)) && (decide ((j_y M).name = "<init>") && (decide (j_rt M = none) && jNW.any (fun z => decide (z.1 = own) && (decide (z.2.1 = q.1) && decide (z.2.2.1 = j_y M)))))
    | none => false
  | 6, [a] => match j_meth jP q.2.2.1 with
    | some M => j_hw a (.static (j_y M)) && jNW.any (fun z => decide (z.1 = own) && (decide (z.2.1 = q.1) && decide (z.2.2.1 = j_y M)))
    | none => false
  | 7, [a, b, c, d] => j_hw a (.methodLink own q.1 Lib.Math.max.name) && (j_hw b (.static Lib.Math.max.name) && (j_hw c (.initialized "java/lang/Math") && j_hw d (.code Lib.Math.max.name Lib.Math.max.code 2 (some .int))))
  | 8, [a, b, c, d] => j_hw a (.methodLink own q.1 Lib.Math.min.name) && (j_hw b (.static Lib.Math.min.name) && (j_hw c (.initialized "java/lang/Math") && j_hw d (.code Lib.Math.min.name Lib.Math.min.code 2 (some .int))))
  | _, _ => false
theorem j_any_ok {own : String} {i : Nat} {y : MethodName} (h : jNW.any (fun z => decide (z.1 = own) && (decide (z.2.1 = i) && decide (z.2.2.1 = y))) = true) : ∃ host, (own, i, y, host) ∈ jNW := by
  obtain ⟨z, hz, h⟩ := List.any_eq_true.mp h
  simp only [Bool.and_eq_true, decide_eq_true_eq] at h
  obtain ⟨rfl, rfl, rfl⟩ := h
  exact ⟨z.2.2.2, hz⟩
set_option maxHeartbeats 4000000 in
theorem j_Cchk_ok {own : String} {q : Nat × (Nat × Nat × List Nat)} (h : j_Cchk own q = true) : j_Cok WG vwCl jNW own q.1 q.2.1 (j_meth jP q.2.2.1) := by
  unfold j_Cchk at h
  unfold j_Cok
  split at h
  · rename_i a b c h1 h2
    simp only [Bool.and_eq_true] at h
    rw [h1]
    exact ⟨fun _ => ⟨j_hw_ok h.1, j_hw_ok h.2.1, j_hw_ok h.2.2⟩, fun z => (by cases z), fun z => (by cases z), fun z => (by cases z), fun z => (by cases z), fun z => (by cases z), fun z => (by cases z), fun z => (by cases z), fun z => (by cases z)⟩
  · rename_i a b c d h1 h2
    simp only [Bool.and_eq_true] at h
    rw [h1]
    exact ⟨fun z => (by cases z), fun _ => ⟨j_hw_ok h.1, j_hw_ok h.2.1, j_hw_ok h.2.2.1, j_hw_ok h.2.2.2⟩, fun z => (by cases z), fun z => (by cases z), fun z => (by cases z), fun z => (by cases z), fun z => (by cases z), fun z => (by cases z), fun z => (by cases z)⟩
  · rename_i a b h1 h2
    split at h
    · rename_i M hM
      simp only [Bool.and_eq_true] at h
      rw [h1, hM]
      exact ⟨fun z => (by cases z), fun z => (by cases z), fun _ M' e => (by cases e; exact ⟨j_hw_ok h.1, j_hw_ok h.2⟩), fun z => (by cases z), fun z => (by cases z), fun z => (by cases z), fun z => (by cases z), fun z => (by cases z), fun z => (by cases z)⟩
    · cases h
  · rename_i a b c h1 h2
    split at h
    · rename_i M hM
      simp only [Bool.and_eq_true] at h
      rw [h1, hM]
      refine ⟨fun z => (by cases z), fun z => (by cases z), fun z => (by cases z), fun _ M' e => ?_, fun z => (by cases z), fun z => (by cases z), fun z => (by cases z), fun z => (by cases z), fun z => (by cases z)⟩
      cases e
      refine ⟨j_hw_ok h.1, j_hw_ok h.2.1, j_hw_ok h.2.2.1, ?_⟩
      have h3 := h.2.2.2
      split at h3
      · rename_i z hz
        exact ⟨z, hz, of_decide_eq_true h3⟩
      · cases h3
    · cases h
  · rename_i a b h1 h2
    split at h
    · rename_i M hM
      simp only [Bool.and_eq_true, decide_eq_true_eq] at h
      rw [h1, hM]
      exact ⟨fun z => (by cases z), fun z => (by cases z), fun z => (by cases z), fun z => (by cases z), fun _ M' e => (by cases e; exact ⟨j_hw_ok h.1, j_hw_ok h.2.1, h.2.2.1, h.2.2.2⟩), fun z => (by cases z), fun z => (by cases z), fun z => (by cases z), fun z => (by cases z)⟩
    · cases h
  · rename_i a h1 h2
    split at h
    · rename_i M hM
      simp only [Bool.and_eq_true] at h
      rw [h1, hM]
      exact ⟨fun z => (by cases z), fun z => (by cases z), fun z => (by cases z), fun z => (by cases z), fun z => (by cases z), fun _ M' e => (by cases e; exact ⟨j_any_ok h.2.2.2, j_hw_ok h.1, of_decide_eq_true h.2.1, of_decide_eq_true h.2.2.1⟩), fun z => (by cases z), fun z => (by cases z), fun z => (by cases z)⟩
    · cases h
  · rename_i a h1 h2
    split at h
    · rename_i M hM
      simp only [Bool.and_eq_true] at h
      rw [h1, hM]
      exact ⟨fun z => (by cases z), fun z => (by cases z), fun z => (by cases z), fun z => (by cases z), fun z => (by cases z), fun z => (by cases z), fun _ M' e => (by cases e; exact ⟨j_any_ok h.2, j_hw_ok h.1⟩), fun z => (by cases z), fun z => (by cases z)⟩
    · cases h
  · rename_i a b c d h1 h2
    simp only [Bool.and_eq_true] at h
    rw [h1]
    exact ⟨fun z => (by cases z), fun z => (by cases z), fun z => (by cases z), fun z => (by cases z), fun z => (by cases z), fun z => (by cases z), fun z => (by cases z), fun _ => ⟨j_hw_ok h.1, j_hw_ok h.2.1, j_hw_ok h.2.2.1, j_hw_ok h.2.2.2⟩, fun z => (by cases z)⟩
  · rename_i a b c d h1 h2
    simp only [Bool.and_eq_true] at h
    rw [h1]
    exact ⟨fun z => (by cases z), fun z => (by cases z), fun z => (by cases z), fun z => (by cases z), fun z => (by cases z), fun z => (by cases z), fun z => (by cases z), fun z => (by cases z), fun _ => ⟨j_hw_ok h.1, j_hw_ok h.2.1, j_hw_ok h.2.2.1, j_hw_ok h.2.2.2⟩⟩
  · cases h

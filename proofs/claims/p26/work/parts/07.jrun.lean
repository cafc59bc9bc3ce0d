/-! J's program: the instruction at a place of a method; a method's name, bytes, locals, answer, parameters (this left out), whether it is a constructor, its class's number; fields, 'new', constants by the pool's entry; calls: (0: Object's constructor, 1: arraycopy, 2: static, 3: virtual, 4: a constructor, 5: a nest mate's private constructor, 6: a nest mate's private static method, 7: Math.max, 8: Math.min; the callee); 'anewarray' -/
abbrev j_M : Type := MethodName × ByteArray × Nat × Option FieldType × Nat × Bool × Nat
abbrev j_P : Type := (Nat → Nat → Option Instr) × (Nat → Option j_M) × (Nat → Nat → Option j_F) × (Nat → Nat → Option (Nat × List Value)) × (Nat → Nat → Option Value) × (Nat → Nat → Option (Nat × Nat)) × (Nat → Nat → Bool)
def j_code (P : j_P) : Nat → Nat → Option Instr := P.1
def j_meth (P : j_P) : Nat → Option j_M := P.2.1
def j_fld (P : j_P) : Nat → Nat → Option j_F := P.2.2.1
def j_nw (P : j_P) : Nat → Nat → Option (Nat × List Value) := P.2.2.2.1
def j_ldc (P : j_P) : Nat → Nat → Option Value := P.2.2.2.2.1
def j_cal (P : j_P) : Nat → Nat → Option (Nat × Nat) := P.2.2.2.2.2.1
def j_anw (P : j_P) : Nat → Nat → Bool := P.2.2.2.2.2.2
abbrev j_y (M : j_M) : MethodName := M.1
abbrev j_by (M : j_M) : ByteArray := M.2.1
abbrev j_nL (M : j_M) : Nat := M.2.2.1
abbrev j_rt (M : j_M) : Option FieldType := M.2.2.2.1
abbrev j_np (M : j_M) : Nat := M.2.2.2.2.1
abbrev j_in (M : j_M) : Bool := M.2.2.2.2.2.1
abbrev j_ci (M : j_M) : Nat := M.2.2.2.2.2.2
/-- the kind of an instruction: 0 on the stack, 1 load, 2 store, 3 iinc, 4 branch, 5 array load, 6 array store, 7 field or new, 8 constant, 9 answer, 10 call -/
def j_kd : Instr → Nat
  | .iload_n _ => 1
  | .iload _ => 1
  | .lload_n _ => 1
  | .lload _ => 1
  | .aload_n _ => 1
  | .aload _ => 1
  | .istore_n _ => 2
  | .istore _ => 2
  | .lstore_n _ => 2
  | .lstore _ => 2
  | .astore_n _ => 2
  | .astore _ => 2
  | .iinc _ _ => 3
  | .goto _ => 4
  | .ifCond _ _ => 4
  | .if_icmp _ _ => 4
  | .tableswitch _ _ _ _ => 4
  | .lookupswitch _ _ => 4
  | .iaload => 5
  | .baload => 5
  | .laload => 5
  | .aaload => 5
  | .arraylength => 5
  | .iastore => 6
  | .bastore => 6
  | .lastore => 6
  | .aastore => 6
  | .getfield _ => 7
  | .putfield _ => 7
  | .new _ => 7
  | .newarray _ => 7
  | .anewarray _ => 7
  | .ldc _ => 8
  | .ldc_w _ => 8
  | .ldc2_w _ => 8
  | .ireturn => 9
  | .lreturn => 9
  | .areturn => 9
  | .return_ => 9
  | .invokestatic _ => 10
  | .invokespecial _ => 10
  | .invokevirtual _ => 10
  | _ => 0
/-- fields, and what is new -/
def j_obj (P : j_P) (mi : Nat) (isI : Bool) (ins : Instr) (st : List Value) (h : J_H) : Option (List Value × J_H) := match ins with
  | .getfield i => (j_get (j_fld P mi i) h st).map fun stJ => (stJ, h)
  | .putfield i => j_put isI (j_fld P mi i) h st
  | .new i => (j_nw P mi i).map fun f => (.ref h.length :: st, h ++ [.inl f])
  | .newarray a => match st with
    | .int n :: r => if ¬ n < 0 ∧ n.toNatClampNeg ≤ 65536 then (j_arr a n.toNatClampNeg).map fun c => (.ref h.length :: r, h ++ [c]) else none
    | _ => none
  | .anewarray i => match st with
    | .int n :: r => if j_anw P mi i = true ∧ ¬ n < 0 ∧ n.toNatClampNeg ≤ 65536 then some (.ref h.length :: r, h ++ [.inr (.inr (.inr (List.replicate n.toNatClampNeg none)))]) else none
    | _ => none
  | _ => none
/-- one instruction that is neither a call nor an answer -/
def j_one (P : j_P) (mi nL : Nat) (isI : Bool) (pc : Nat) (ins : Instr) (lv : J_L) (st : List Value) (h : J_H) : Option (Nat × J_L × List Value × J_H) := match j_kd ins with
  | 0 => (j_stk ins st).map fun stJ => (pc + j_ln ins, lv, stJ, h)
  | 1 => (j_lod ins lv st).map fun stJ => (pc + j_ln ins, lv, stJ, h)
  | 2 => (j_sto ins nL lv st).map fun q => (pc + j_ln ins, q.1, q.2, h)
  | 3 => (j_inc ins nL lv).map fun lv' => (pc + j_ln ins, lv', st, h)
  | 4 => (j_br ins pc st).map fun q => (q.1, lv, q.2, h)
  | 5 => (j_ald ins h st).map fun stJ => (pc + j_ln ins, lv, stJ, h)
  | 6 => (j_ast ins h st).map fun q => (pc + j_ln ins, lv, q.1, q.2)
  | 7 => (j_obj P mi isI ins st h).map fun q => (pc + j_ln ins, lv, q.1, q.2)
  | 8 => (j_ldk ins (j_ldc P mi) st).map fun stJ => (pc + j_ln ins, lv, stJ, h)
  | _ => none
/-- an answer -/
def j_ret (ret : Option FieldType) (ins : Instr) (st : List Value) : Option (Option Value) := match ins, st, ret with
  | .ireturn, [.int v], some ty => if j_fit ty (.int v) = true then some (some (.int v)) else none
  | .lreturn, [.long v], some .long => some (some (.long v))
  | .areturn, [.ref k], some (.object _) => some (some (.ref k))
  | .areturn, [.ref k], some (.array _) => some (some (.ref k))
  | .return_, [], none => some none
  | _, _, _ => none
/-- which call -/
def j_inv (P : j_P) (mi : Nat) (ins : Instr) : Option (Nat × Nat) := match ins with
  | .invokespecial i => match j_cal P mi i with
    | some (0, x) => some (0, x)
    | some (4, x) => some (4, x)
    | some (5, x) => some (5, x)
    | _ => none
  | .invokestatic i => match j_cal P mi i with
    | some (1, x) => some (1, x)
    | some (2, x) => some (2, x)
    | some (6, x) => some (6, x)
    | some (7, x) => some (7, x)
    | some (8, x) => some (8, x)
    | _ => none
  | .invokevirtual i => match j_cal P mi i with
    | some (3, x) => some (3, x)
    | _ => none
  | _ => none
/-- how many values a call takes -/
def j_nar (md np : Nat) : Nat := if md = 2 ∨ md = 6 then np else np + 1
/-- the receiver is of the class -/
def j_rcv (md ci : Nat) (h : J_H) (As : List Value) : Bool := match md, As with
  | 2, _ => true
  | 6, _ => true
  | 3, .ref k :: _ => match h[k]? with
    | some (.inl (c, _)) => decide (c = ci)
    | _ => false
  | _, .ref _ :: _ => true
  | _, _ => false
/-- a call's arguments and what stays below -/
def j_spl (md : Nat) (M : j_M) (h : J_H) (st : List Value) : Option (List Value × List Value) :=
  if j_nar md (j_np M) ≤ st.length ∧ ((st.drop (j_nar md (j_np M))).map fun v => v.category).sum ≤ 8 ∧ (lg_sl (st.take (j_nar md (j_np M))).reverse).length ≤ j_nL M ∧ j_rcv md (j_ci M) h (st.take (j_nar md (j_np M))).reverse = true then
    some ((st.take (j_nar md (j_np M))).reverse, st.drop (j_nar md (j_np M))) else none
def j_run (P : j_P) : Nat → Nat → Nat → Nat → J_L → List Value → J_H → Option (Option Value × J_H)
  | 0, _, _, _, _, _, _ => none
  | f + 1, d, mi, pc, lv, st, h => match j_meth P mi, j_code P mi pc with
    | some M, some ins => match j_kd ins with
      | 9 => (j_ret (j_rt M) ins st).map fun r => (r, h)
      | 10 => match j_inv P mi ins with
        | some (0, _) => match j_obi st with
          | some stJ => j_run P f d mi (pc + 3) lv stJ h
          | none => none
        | some (1, _) => match j_acp h st with
          | some (stJ, h') => j_run P f d mi (pc + 3) lv stJ h'
          | none => none
        | some (7, _) => match j_mm true st with
          | some stJ => j_run P f d mi (pc + 3) lv stJ h
          | none => none
        | some (8, _) => match j_mm false st with
          | some stJ => j_run P f d mi (pc + 3) lv stJ h
          | none => none
        | some (md, mj) => match d, j_meth P mj with
          | d' + 1, some N => match j_spl md N h st with
            | some (As, rest) => match j_run P f d' mj 0 (lv_args 0 As) [] h with
              | some (r, h') => j_run P f (d' + 1) mi (pc + 3) lv (r.toList ++ rest) h'
              | none => none
            | none => none
          | _, _ => none
        | none => none
      | _ => match j_one P mi (j_nL M) (j_in M) pc ins lv st h with
        | some (pcJ, lv', stJ, h') => j_run P f d mi pcJ lv' stJ h'
        | none => none
    | _, _ => none
theorem j_obj_mono {P : j_P} {mi : Nat} {isI : Bool} {ins : Instr} {st stJ : List Value} {h h' : J_H} (hj : j_obj P mi isI ins st h = some (stJ, h')) : h.length ≤ h'.length ∧ j_sl h ≤ j_sl h' := by
  unfold j_obj at hj
  split at hj
  · obtain ⟨x, -, he⟩ := Option.map_eq_some_iff.mp hj
    cases he
    exact ⟨Nat.le_refl _, Nat.le_refl _⟩
  · obtain ⟨e1, e2⟩ := j_put_sl hj
    exact ⟨by omega, by omega⟩
  · obtain ⟨x, -, he⟩ := Option.map_eq_some_iff.mp hj
    cases he
    exact ⟨by simp, by rw [j_sl_push]; omega⟩
  · split at hj
    · split at hj
      · obtain ⟨x, -, he⟩ := Option.map_eq_some_iff.mp hj
        cases he
        exact ⟨by simp, by rw [j_sl_push]; omega⟩
      · cases hj
    · cases hj
  · split at hj
    · split at hj
      · cases hj
        exact ⟨by simp, by rw [j_sl_push]; omega⟩
      · cases hj
    · cases hj
  · cases hj
theorem j_one_mono {P : j_P} {mi nL : Nat} {isI : Bool} {pc pcJ : Nat} {ins : Instr} {lv lv' : J_L} {st stJ : List Value} {h h' : J_H} (hj : j_one P mi nL isI pc ins lv st h = some (pcJ, lv', stJ, h')) : h.length ≤ h'.length ∧ j_sl h ≤ j_sl h' := by
  unfold j_one at hj
  split at hj
  all_goals first
    | (cases hj; done)
    | (obtain ⟨x, hx, he⟩ := Option.map_eq_some_iff.mp hj
       cases he
       first
         | exact ⟨Nat.le_refl _, Nat.le_refl _⟩
         | exact j_obj_mono hx
         | exact ⟨by have := (j_ast_sl hx).1; omega, by have := (j_ast_sl hx).2; omega⟩)
theorem j_mono (P : j_P) : ∀ (f d mi pc : Nat) (lv : J_L) (st : List Value) (h : J_H) (r : Option Value) (hf : J_H), j_run P f d mi pc lv st h = some (r, hf) → h.length ≤ hf.length ∧ j_sl h ≤ j_sl hf := by
  intro f
  induction f with
  | zero => intro d mi pc lv st h r hf hj; cases hj
  | succ f ih =>
    intro d mi pc lv st h r hf hj
    unfold j_run at hj
    split at hj
    · split at hj
      · obtain ⟨x, -, he⟩ := Option.map_eq_some_iff.mp hj
        cases he
        exact ⟨Nat.le_refl _, Nat.le_refl _⟩
      · split at hj
        · split at hj
          · exact ih _ _ _ _ _ _ _ _ hj
          · cases hj
        · split at hj
          · rename_i stJ h' ha
            have := j_acp_sl ha
            have := ih _ _ _ _ _ _ _ _ hj
            omega
          · cases hj
        · split at hj
          · exact ih _ _ _ _ _ _ _ _ hj
          · cases hj
        · split at hj
          · exact ih _ _ _ _ _ _ _ _ hj
          · cases hj
        · split at hj
          · split at hj
            · split at hj
              · rename_i r' h' hc
                have := ih _ _ _ _ _ _ _ _ hc
                have := ih _ _ _ _ _ _ _ _ hj
                omega
              · cases hj
            · cases hj
          · cases hj
        · cases hj
      · split at hj
        · rename_i pcJ lv' stJ h' ho
          have := j_one_mono ho
          have := ih _ _ _ _ _ _ _ _ hj
          omega
        · cases hj
    · cases hj

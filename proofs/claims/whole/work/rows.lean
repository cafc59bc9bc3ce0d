section
/-! J: a small machine of our own, over lists, that the kit's machine follows. Cells: an object (its class's number, its fields), an array of ints (kind 0) or bytes (kind 1), of longs, of references. A reference k of J is the address b + k. -/
abbrev J_C : Type := (Nat × List Value) ⊕ ((Nat × List Int32) ⊕ ((List Int64) ⊕ (List (Option Nat))))
abbrev J_H : Type := List J_C
abbrev J_L : Type := List (Nat × Value)
def j_v (b : Nat) : Value → Value
  | .ref k => .ref (b + k)
  | v => v
def j_lv (b : Nat) (lv : J_L) : J_L := lv.map fun q => (q.1, j_v b q.2)
def j_st (b : Nat) (st : List Value) : List Value := st.map (j_v b)
theorem j_v_cat (b : Nat) (v : Value) : (j_v b v).category = v.category := by cases v <;> rfl
theorem j_st_cat (b : Nat) (st : List Value) : (j_st b st).map (fun v => v.category) = st.map (fun v => v.category) := by
  simp only [j_st, List.map_map]
  exact List.map_congr_left fun v _ => j_v_cat b v
/-- locals -/
def j_ld : J_L → Nat → Option Value
  | [], _ => none
  | (i, v) :: r, k => if i = k then some v else j_ld r k
def j_s1 (i : Nat) (v : Value) (lv : J_L) : J_L := (i, v) :: lv.filter (fun q => !(q.1 == i) && !(q.1 + 1 == i && q.2.category == 2))
def j_s2 (i : Nat) (v : Value) (lv : J_L) : J_L := (i, v) :: lv.filter (fun q => !(q.1 == i) && (!(q.1 == i + 1) && !(q.1 + 1 == i && q.2.category == 2)))
theorem j_ld_at {b : Nat} {k : Nat} {v : Value} : ∀ {lv : J_L}, j_ld lv k = some v → ∃ n : Nat, (j_lv b lv)[n]? = some (k, j_v b v)
  | [], h => by cases h
  | (i, w) :: r, h => by
    unfold j_ld at h
    by_cases hi : i = k
    · rw [if_pos hi] at h
      cases h
      exact ⟨0, by subst hi; rfl⟩
    · rw [if_neg hi] at h
      obtain ⟨n, hn⟩ := j_ld_at (b := b) h
      exact ⟨n + 1, hn⟩
theorem j_lv_s1 (b i : Nat) (v : Value) (lv : J_L) : (i, j_v b v) :: (j_lv b lv).filter (fun q => !(q.1 == i) && !(q.1 + 1 == i && q.2.category == 2)) = j_lv b (j_s1 i v lv) := by
  simp only [j_lv, j_s1, List.map_cons, List.filter_map, Function.comp_def, j_v_cat]
theorem j_lv_s2 (b i : Nat) (v : Value) (lv : J_L) : (i, j_v b v) :: (j_lv b lv).filter (fun q => !(q.1 == i) && (!(q.1 == i + 1) && !(q.1 + 1 == i && q.2.category == 2))) = j_lv b (j_s2 i v lv) := by
  simp only [j_lv, j_s2, List.map_cons, List.filter_map, Function.comp_def, j_v_cat]
/-- where a branch goes -/
def j_tgt (pc : Nat) (off : Int) : Option Nat := if 0 ≤ (pc : Int) + off then some ((pc : Int) + off).toNat else none
theorem j_tgt_ok {pc : Nat} {off : Int} {t : Nat} (h : j_tgt pc off = some t) : (pc : Int) + off = (t : Int) := by
  unfold j_tgt at h
  by_cases h0 : 0 ≤ (pc : Int) + off
  · rw [if_pos h0] at h
    have h1 := Option.some.inj h
    omega
  · rw [if_neg h0] at h
    cases h
def j_cond : ClassFile.Cond → Int32 → Int32 → Bool
  | .eq, x, y => decide (x = y)
  | .ne, x, y => !decide (x = y)
  | .lt, x, y => decide (x < y)
  | .ge, x, y => decide (y ≤ x)
  | .gt, x, y => decide (y < x)
  | .le, x, y => decide (x ≤ y)
/-- arithmetic of two ints -/
def j_bin : Instr → Int32 → Int32 → Option Int32
  | .iadd, x, y => some (x + y)
  | .isub, x, y => some (x - y)
  | .imul, x, y => some (x * y)
  | .iand, x, y => some (x &&& y)
  | .ior, x, y => some (x ||| y)
  | .ixor, x, y => some (x ^^^ y)
  | .ishl, x, y => some (x <<< (y &&& 31))
  | .ishr, x, y => some (x >>> (y &&& 31))
  | .iushr, x, y => some ((x.toUInt32 >>> (y.toUInt32 &&& Int32.toUInt32 31)).toInt32)
  | .idiv, x, y => if y = 0 then none else some (x / y)
  | .irem, x, y => if y = 0 then none else some (x - x / y * y)
  | _, _, _ => none
/-- arithmetic of two longs -/
def j_lbin : Instr → Int64 → Int64 → Option Int64
  | .ladd, x, y => some (x + y)
  | .lsub, x, y => some (x - y)
  | .land, x, y => some (x &&& y)
  | .lor, x, y => some (x ||| y)
  | .lxor, x, y => some (x ^^^ y)
  | _, _, _ => none
/-- shifts of a long -/
def j_lsh : Instr → Int64 → Int32 → Option Int64
  | .lshl, x, y => some (x <<< (y.toInt64 &&& 63))
  | .lshr, x, y => some (x >>> (y.toInt64 &&& 63))
  | _, _, _ => none
/-- what stands on the stack alone -/
def j_stk : Instr → List Value → Option (List Value)
  | .iconst n, r => some (.int (Int32.ofInt n) :: r)
  | .bipush n, r => some (.int (Int8.ofInt n).toInt32 :: r)
  | .sipush n, r => some (.int (Int16.ofInt n).toInt32 :: r)
  | .lconst n, r => some (.long (Int64.ofNat (n : Nat)) :: r)
  | .dup, v :: r => if v.category = 1 then some (v :: v :: r) else none
  | .pop, v :: r => if v.category = 1 then some r else none
  | .dup2, v :: w :: r => if v.category = 1 ∧ w.category = 1 then some (v :: w :: v :: w :: r) else none
  | .i2l, .int x :: r => some (.long x.toInt64 :: r)
  | .l2i, .long x :: r => some (.int x.toInt32 :: r)
  | .i2b, .int x :: r => some (.int x.toInt8.toInt32 :: r)
  | .ineg, .int x :: r => some (.int (-x) :: r)
  | .lcmp, .long y :: .long x :: r => some (.int (lg_cmp x y) :: r)
  | i, .int y :: .int x :: r => (j_bin i x y).map fun z => .int z :: r
  | i, .long y :: .long x :: r => (j_lbin i x y).map fun z => .long z :: r
  | i, .int y :: .long x :: r => (j_lsh i x y).map fun z => .long z :: r
  | _, _ => none
/-- loads: which local -/
def j_lix : Instr → Option (Nat × Nat)
  | .iload_n k => some ((k : Nat), 0)
  | .iload k => some (k, 0)
  | .lload_n k => some ((k : Nat), 1)
  | .lload k => some (k, 1)
  | .aload_n k => some ((k : Nat), 2)
  | .aload k => some (k, 2)
  | _ => none
def j_six : Instr → Option (Nat × Nat)
  | .istore_n k => some ((k : Nat), 0)
  | .istore k => some (k, 0)
  | .lstore_n k => some ((k : Nat), 1)
  | .lstore k => some (k, 1)
  | .astore_n k => some ((k : Nat), 2)
  | .astore k => some (k, 2)
  | _ => none
/-- the kind of a value: int 0, long 1, reference 2 -/
def j_vk : Value → Nat
  | .int _ => 0
  | .long _ => 1
  | .ref _ => 2
  | _ => 3
def j_br : Instr → Nat → List Value → Option (Nat × List Value)
  | .goto off, pc, r => (j_tgt pc off).map fun t => (t, r)
  | .ifCond c off, pc, .int x :: r => (j_tgt pc off).map fun t => (if j_cond c x 0 then t else pc + 3, r)
  | .if_icmp c off, pc, .int y :: .int x :: r => (j_tgt pc off).map fun t => (if j_cond c x y then t else pc + 3, r)
  | .tableswitch dflt lo hi offs, pc, .int x :: r =>
    if x.toInt < lo ∨ hi < x.toInt then (j_tgt pc dflt).map fun t => (t, r) else
      match offs[(x.toInt - lo).toNat]? with
      | some off => (j_tgt pc off).map fun t => (t, r)
      | none => none
  | .lookupswitch dflt ps, pc, .int x :: r =>
    if (ps.toList.zip (ps.toList.drop 1)).all (fun (a, next) => a.1 < next.1) = true then (j_tgt pc (Op.lookupswitch.offset ps.toList dflt x.toInt)).map fun t => (t, r) else none
  | _, _, _ => none
end
section
/-- the length of an instruction, but for switches -/
def j_ln : Instr → Nat
  | .bipush _ => 2
  | .sipush _ => 3
  | .iload _ => 2
  | .lload _ => 2
  | .aload _ => 2
  | .istore _ => 2
  | .lstore _ => 2
  | .astore _ => 2
  | .iinc _ _ => 3
  | .goto _ => 3
  | .ifCond _ _ => 3
  | .if_icmp _ _ => 3
  | .getfield _ => 3
  | .putfield _ => 3
  | .invokevirtual _ => 3
  | .invokestatic _ => 3
  | .invokespecial _ => 3
  | .new _ => 3
  | .anewarray _ => 3
  | .newarray _ => 2
  | .ldc _ => 2
  | .ldc_w _ => 3
  | .ldc2_w _ => 3
  | _ => 1
def j_sw : Instr → Bool
  | .tableswitch _ _ _ _ => true
  | .lookupswitch _ _ => true
  | _ => false
section JSTK
variable {p : Program} {l : Launch} {e : Env} {R : Room} {s : State} {m : MethodId} {args : Array Value} {below : List Frame} {meth : Method} {c : Code} {H : Heap} {locs : List Loc} {cells slots : Nat} {Q : State → Prop}
variable {cc : ByteArray} {pc : Nat} {ls : Array Slot}
set_option maxHeartbeats 4000000 in
theorem j_bin_ok (hx : p.tables.exec = Jvm.exec) (hb : c.code = cc) {ins : Instr} {x y z : Int32} {rest : List Value} (hd : decode cc pc = .ok (ins, j_ln ins)) (h : j_bin ins x y = some z)
    (k : W p l e R s m args below meth c H locs cells slots Q (F0 m (pc + j_ln ins) ls (.int z :: rest))) : W p l e R s m args below meth c H locs cells slots Q (F0 m pc ls (.int y :: .int x :: rest)) := by
  unfold j_bin at h
  split at h
  · cases h; exact lv_iadd hx hb hd k
  · cases h; exact lv_isub hx hb hd k
  · cases h; exact lv_imul hx hb hd k
  · cases h; exact lv_iand hx hb hd k
  · cases h; exact lv_ior hx hb hd k
  · cases h; exact lv_ixor hx hb hd k
  · cases h; exact lv_ishl hx hb hd k
  · cases h; exact lv_ishr hx hb hd k
  · cases h; exact lv_iushr hx hb hd rfl k
  · split at h
    · cases h
    · rename_i hy; cases h; exact lv_idiv hx hb hd hy k
  · split at h
    · cases h
    · rename_i hy; cases h; exact lv_irem hx hb hd hy k
  · cases h
set_option maxHeartbeats 4000000 in
theorem j_lbin_ok (hx : p.tables.exec = Jvm.exec) (hb : c.code = cc) {ins : Instr} {x y z : Int64} {rest : List Value} (hd : decode cc pc = .ok (ins, j_ln ins)) (h : j_lbin ins x y = some z)
    (k : W p l e R s m args below meth c H locs cells slots Q (F0 m (pc + j_ln ins) ls (.long z :: rest))) : W p l e R s m args below meth c H locs cells slots Q (F0 m pc ls (.long y :: .long x :: rest)) := by
  unfold j_lbin at h
  split at h
  · cases h; exact lv_ladd hx hb hd k
  · cases h; exact lv_lsub hx hb hd k
  · cases h; exact lv_land hx hb hd k
  · cases h; exact lv_lor hx hb hd k
  · cases h; exact lv_lxor hx hb hd k
  · cases h
set_option maxHeartbeats 4000000 in
theorem j_lsh_ok (hx : p.tables.exec = Jvm.exec) (hb : c.code = cc) {ins : Instr} {x z : Int64} {y : Int32} {rest : List Value} (hd : decode cc pc = .ok (ins, j_ln ins)) (h : j_lsh ins x y = some z)
    (k : W p l e R s m args below meth c H locs cells slots Q (F0 m (pc + j_ln ins) ls (.long z :: rest))) : W p l e R s m args below meth c H locs cells slots Q (F0 m pc ls (.int y :: .long x :: rest)) := by
  unfold j_lsh at h
  split at h
  · cases h; exact lv_lshl hx hb hd rfl k
  · cases h; exact lv_lshr hx hb hd rfl k
  · cases h
set_option maxHeartbeats 4000000 in
theorem j_stk_ok (hx : p.tables.exec = Jvm.exec) (hb : c.code = cc) (b : Nat) {ins : Instr} {st st' : List Value} (hd : decode cc pc = .ok (ins, j_ln ins)) (h : j_stk ins st = some st')
    (k : W p l e R s m args below meth c H locs cells slots Q (F0 m (pc + j_ln ins) ls (j_st b st'))) : W p l e R s m args below meth c H locs cells slots Q (F0 m pc ls (j_st b st)) := by
  unfold j_stk at h
  split at h
  · cases h; exact lv_iconst hx hb hd rfl k
  · cases h; exact lv_bipush hx hb hd rfl k
  · cases h; exact lv_sipush hx hb hd rfl k
  · cases h; exact lv_lconst hx hb hd rfl k
  · split at h
    · rename_i hc; cases h; exact lv_dup hx hb hd (by rw [j_v_cat]; exact hc) k
    · cases h
  · split at h
    · rename_i hc; cases h; exact lv_pop hx hb hd (by rw [j_v_cat]; exact hc) k
    · cases h
  · split at h
    · rename_i hc; cases h; exact lv_dup2_11 hx hb hd (by rw [j_v_cat]; exact hc.1) (by rw [j_v_cat]; exact hc.2) k
    · cases h
  · cases h; exact lv_i2l hx hb hd rfl k
  · cases h; exact lv_l2i hx hb hd rfl k
  · cases h; exact lv_i2b hx hb hd rfl k
  · cases h; exact lv_ineg hx hb hd k
  · cases h; exact W.lcmp hx hb hd k
  · obtain ⟨z, hz, rfl⟩ := Option.map_eq_some_iff.mp h
    exact j_bin_ok hx hb hd hz k
  · obtain ⟨z, hz, rfl⟩ := Option.map_eq_some_iff.mp h
    exact j_lbin_ok hx hb hd hz k
  · obtain ⟨z, hz, rfl⟩ := Option.map_eq_some_iff.mp h
    exact j_lsh_ok hx hb hd hz k
  · cases h
/-- a load -/
def j_lod (ins : Instr) (lv : J_L) (st : List Value) : Option (List Value) := match j_lix ins with
  | none => none
  | some (i, kd) => match j_ld lv i with
    | some v => if j_vk v = kd then some (v :: st) else none
    | none => none
set_option maxHeartbeats 4000000 in
theorem j_lod_ok (hx : p.tables.exec = Jvm.exec) (hb : c.code = cc) (b : Nat) {ins : Instr} {nL : Nat} {lv : J_L} {st st' : List Value} (hl : lv_has ls nL (j_lv b lv)) (hd : decode cc pc = .ok (ins, j_ln ins)) (h : j_lod ins lv st = some st')
    (k : W p l e R s m args below meth c H locs cells slots Q (F0 m (pc + j_ln ins) ls (j_st b st'))) : W p l e R s m args below meth c H locs cells slots Q (F0 m pc ls (j_st b st)) := by
  unfold j_lod at h
  split at h
  · cases h
  · rename_i i kd hix
    split at h
    · rename_i v hv
      split at h
      · rename_i hk
        cases h
        obtain ⟨n, hn⟩ := j_ld_at (b := b) hv
        have h2 := lv_at hl n hn
        unfold j_lix at hix
        split at hix
        all_goals first
          | (cases hix; done)
          | (cases hix
             cases v <;> first
               | (cases hk; done)
               | exact lv_iload_n hx hb hd rfl h2 k
               | exact lv_iload hx hb hd h2 k
               | exact lv_lload_n hx hb hd rfl h2 k
               | exact lv_lload hx hb hd h2 k
               | exact lv_aload_n hx hb hd rfl h2 k
               | exact lv_aload hx hb hd h2 k)
      · cases h
    · cases h
/-- a store -/
def j_sto (ins : Instr) (nL : Nat) (lv : J_L) (st : List Value) : Option (J_L × List Value) := match j_six ins, st with
  | some (i, kd), v :: r => if j_vk v = kd then (if kd = 1 then (if i + 1 < nL then some (j_s2 i v lv, r) else none) else (if i < nL then some (j_s1 i v lv, r) else none)) else none
  | _, _ => none
set_option maxHeartbeats 4000000 in
theorem j_sto_ok (hx : p.tables.exec = Jvm.exec) (hb : c.code = cc) (b : Nat) {ins : Instr} {nL : Nat} {lv lv' : J_L} {st st' : List Value} (hl : lv_has ls nL (j_lv b lv)) (hd : decode cc pc = .ok (ins, j_ln ins)) (h : j_sto ins nL lv st = some (lv', st'))
    (k : ∀ ls' : Array Slot, lv_has ls' nL (j_lv b lv') → W p l e R s m args below meth c H locs cells slots Q (F0 m (pc + j_ln ins) ls' (j_st b st'))) : W p l e R s m args below meth c H locs cells slots Q (F0 m pc ls (j_st b st)) := by
  unfold j_sto at h
  split at h
  · rename_i i kd v r hix
    split at h
    · rename_i hk
      unfold j_six at hix
      split at hix
      all_goals first
        | (cases hix; done)
        | (cases hix
           cases v <;> first
             | (cases hk; done)
             | (rw [if_pos rfl] at h
                split at h
                · rename_i hn
                  cases h
                  first
                    | exact lv_lstore_n hx hb hd rfl hl hn (j_lv_s2 b _ (.long _) lv) k
                    | exact lv_lstore hx hb hd hl hn (j_lv_s2 b _ (.long _) lv) k
                · cases h)
             | (rw [if_neg (by decide)] at h
                split at h
                · rename_i hn
                  cases h
                  first
                    | exact lv_istore_n hx hb hd rfl hl hn (j_lv_s1 b _ (.int _) lv) k
                    | exact lv_istore hx hb hd hl hn (j_lv_s1 b _ (.int _) lv) k
                    | exact lv_astore_n hx hb hd rfl hl hn (j_lv_s1 b _ (.ref _) lv) k
                    | exact lv_astore hx hb hd hl hn (j_lv_s1 b _ (.ref _) lv) k
                · cases h))
    · cases h
  · cases h
/-- iinc -/
def j_inc (ins : Instr) (nL : Nat) (lv : J_L) : Option J_L := match ins with
  | .iinc i n => match j_ld lv i with
    | some (.int x) => if i < nL then some (j_s1 i (.int (x + Int32.ofInt n)) lv) else none
    | _ => none
  | _ => none
set_option maxHeartbeats 4000000 in
theorem j_inc_ok (hx : p.tables.exec = Jvm.exec) (hb : c.code = cc) (b : Nat) {ins : Instr} {nL : Nat} {lv lv' : J_L} {st : List Value} (hl : lv_has ls nL (j_lv b lv)) (hd : decode cc pc = .ok (ins, j_ln ins)) (h : j_inc ins nL lv = some lv')
    (k : ∀ ls' : Array Slot, lv_has ls' nL (j_lv b lv') → W p l e R s m args below meth c H locs cells slots Q (F0 m (pc + j_ln ins) ls' (j_st b st))) : W p l e R s m args below meth c H locs cells slots Q (F0 m pc ls (j_st b st)) := by
  unfold j_inc at h
  split at h
  · split at h
    · rename_i i n v x hv
      split at h
      · rename_i hn
        cases h
        obtain ⟨q, hq⟩ := j_ld_at (b := b) hv
        exact lv_iinc hx hb hd hl hq rfl hn (j_lv_s1 b _ (.int _) lv) k
      · cases h
    · cases h
  · cases h
set_option maxHeartbeats 4000000 in
theorem j_if_ok (hx : p.tables.exec = Jvm.exec) (hb : c.code = cc) {cd : ClassFile.Cond} {off : Int} {t : Nat} {x : Int32} {rest : List Value} (hd : decode cc pc = .ok (.ifCond cd off, 3)) (ht : (pc : Int) + off = (t : Int))
    (k : W p l e R s m args below meth c H locs cells slots Q (F0 m (if j_cond cd x 0 then t else pc + 3) ls rest)) : W p l e R s m args below meth c H locs cells slots Q (F0 m pc ls (.int x :: rest)) := by
  cases hc : j_cond cd x 0 with
  | true =>
    rw [hc] at k
    cases cd
    · exact lv_if_eq hx hb hd ht (fun _ => k) (fun q => absurd (of_decide_eq_true hc) q)
    · exact lv_if_ne hx hb hd ht (fun _ => k) (fun q => by subst q; exact absurd hc (by simp [j_cond]))
    · exact lv_if_lt hx hb hd ht (fun _ => k) (fun q => absurd (of_decide_eq_true hc) q)
    · exact lv_if_ge hx hb hd ht (fun _ => k) (fun q => absurd (of_decide_eq_true hc) q)
    · exact lv_if_gt hx hb hd ht (fun _ => k) (fun q => absurd (of_decide_eq_true hc) q)
    · exact lv_if_le hx hb hd ht (fun _ => k) (fun q => absurd (of_decide_eq_true hc) q)
  | false =>
    rw [hc] at k
    cases cd
    · exact lv_if_eq hx hb hd ht (fun q => absurd q (of_decide_eq_false hc)) (fun _ => k)
    · exact lv_if_ne hx hb hd ht (fun q => absurd (of_decide_eq_true (by simpa [j_cond] using hc)) q) (fun _ => k)
    · exact lv_if_lt hx hb hd ht (fun q => absurd q (of_decide_eq_false hc)) (fun _ => k)
    · exact lv_if_ge hx hb hd ht (fun q => absurd q (of_decide_eq_false hc)) (fun _ => k)
    · exact lv_if_gt hx hb hd ht (fun q => absurd q (of_decide_eq_false hc)) (fun _ => k)
    · exact lv_if_le hx hb hd ht (fun q => absurd q (of_decide_eq_false hc)) (fun _ => k)
set_option maxHeartbeats 4000000 in
theorem j_icmp_ok (hx : p.tables.exec = Jvm.exec) (hb : c.code = cc) {cd : ClassFile.Cond} {off : Int} {t : Nat} {x y : Int32} {rest : List Value} (hd : decode cc pc = .ok (.if_icmp cd off, 3)) (ht : (pc : Int) + off = (t : Int))
    (k : W p l e R s m args below meth c H locs cells slots Q (F0 m (if j_cond cd x y then t else pc + 3) ls rest)) : W p l e R s m args below meth c H locs cells slots Q (F0 m pc ls (.int y :: .int x :: rest)) := by
  cases hc : j_cond cd x y with
  | true =>
    rw [hc] at k
    cases cd
    · exact lv_icmp_eq hx hb hd ht (fun _ => k) (fun q => absurd (of_decide_eq_true hc) q)
    · exact lv_icmp_ne hx hb hd ht (fun _ => k) (fun q => by subst q; exact absurd hc (by simp [j_cond]))
    · exact lv_icmp_lt hx hb hd ht (fun _ => k) (fun q => absurd (of_decide_eq_true hc) q)
    · exact lv_icmp_ge hx hb hd ht (fun _ => k) (fun q => absurd (of_decide_eq_true hc) q)
    · exact lv_icmp_gt hx hb hd ht (fun _ => k) (fun q => absurd (of_decide_eq_true hc) q)
    · exact lv_icmp_le hx hb hd ht (fun _ => k) (fun q => absurd (of_decide_eq_true hc) q)
  | false =>
    rw [hc] at k
    cases cd
    · exact lv_icmp_eq hx hb hd ht (fun q => absurd q (of_decide_eq_false hc)) (fun _ => k)
    · exact lv_icmp_ne hx hb hd ht (fun q => absurd (of_decide_eq_true (by simpa [j_cond] using hc)) q) (fun _ => k)
    · exact lv_icmp_lt hx hb hd ht (fun q => absurd q (of_decide_eq_false hc)) (fun _ => k)
    · exact lv_icmp_ge hx hb hd ht (fun q => absurd q (of_decide_eq_false hc)) (fun _ => k)
    · exact lv_icmp_gt hx hb hd ht (fun q => absurd q (of_decide_eq_false hc)) (fun _ => k)
    · exact lv_icmp_le hx hb hd ht (fun q => absurd q (of_decide_eq_false hc)) (fun _ => k)
set_option maxHeartbeats 4000000 in
theorem j_br_ok (hx : p.tables.exec = Jvm.exec) (hb : c.code = cc) (b : Nat) {ins : Instr} {len t : Nat} {st st' : List Value} (hd : decode cc pc = .ok (ins, len)) (hlen : j_sw ins = true ∨ len = j_ln ins) (h : j_br ins pc st = some (t, st'))
    (k : W p l e R s m args below meth c H locs cells slots Q (F0 m t ls (j_st b st'))) : W p l e R s m args below meth c H locs cells slots Q (F0 m pc ls (j_st b st)) := by
  unfold j_br at h
  split at h
  · obtain ⟨t', ht, he⟩ := Option.map_eq_some_iff.mp h
    cases he
    obtain rfl : len = 3 := hlen.elim (fun q => by cases q) id
    exact lv_goto hx hb hd (j_tgt_ok ht) k
  · obtain ⟨t', ht, he⟩ := Option.map_eq_some_iff.mp h
    cases he
    obtain rfl : len = 3 := hlen.elim (fun q => by cases q) id
    exact j_if_ok hx hb hd (j_tgt_ok ht) k
  · obtain ⟨t', ht, he⟩ := Option.map_eq_some_iff.mp h
    cases he
    obtain rfl : len = 3 := hlen.elim (fun q => by cases q) id
    exact j_icmp_ok hx hb hd (j_tgt_ok ht) k
  · split at h
    · rename_i hc
      obtain ⟨t', ht, he⟩ := Option.map_eq_some_iff.mp h
      cases he
      exact lv_tableOut hx hb hd hc (j_tgt_ok ht) k
    · rename_i hc
      split at h
      · rename_i off ho
        obtain ⟨t', ht, he⟩ := Option.map_eq_some_iff.mp h
        cases he
        exact lv_tableIn hx hb hd (fun q => hc (Or.inl q)) (fun q => hc (Or.inr q)) ho (j_tgt_ok ht) k
      · cases h
  · split at h
    · rename_i hp
      obtain ⟨t', ht, he⟩ := Option.map_eq_some_iff.mp h
      cases he
      exact lv_lookup hx hb hd hp rfl (j_tgt_ok ht) k
    · cases h
  · cases h
end JSTK
end
section
abbrev j_G : Type := ClassId × ClassId × ClassId × ClassId
/-- a cell of J as the kit's world has it; g: the classes of byte, int, long and reference arrays -/
def j_e (g : j_G) (b : Nat) : J_C → va_E
  | .inl (ci, fs) => .inr (ci, j_st b fs)
  | .inr (.inl (k, l)) => .inl (if k = 0 then g.2.1 else g.1, l.length, .inl fun j => l.getD j 0)
  | .inr (.inr (.inl l)) => .inl (g.2.2.1, l.length, .inr (.inl fun j => l.getD j 0))
  | .inr (.inr (.inr l)) => .inl (g.2.2.2, l.length, .inr (.inr (.inr (.inr fun j => (l.getD j none).map fun q => b + q))))
def j_ws (g : j_G) (b : Nat) (h : J_H) : va_W := h.mapIdx fun k c => (b + k, j_e g b c)
theorem j_ws_at {g : j_G} {b : Nat} {h : J_H} {k : Nat} {c : J_C} (hk : h[k]? = some c) : (j_ws g b h)[k]? = some (b + k, j_e g b c) := by
  simp [j_ws, List.getElem?_mapIdx, hk]
theorem j_ws_len (g : j_G) (b : Nat) (h : J_H) : (j_ws g b h).length = h.length := by simp [j_ws]
theorem j_ws_set (g : j_G) (b : Nat) (h : J_H) (k : Nat) (c : J_C) : (j_ws g b h).set k (b + k, j_e g b c) = j_ws g b (h.set k c) := by
  apply List.ext_getElem?
  intro i
  simp only [j_ws, List.getElem?_set, List.getElem?_mapIdx, List.length_mapIdx]
  by_cases hi : k = i
  · subst hi
    by_cases hl : k < h.length
    · simp [hl]
    · simp [hl]
  · simp [hi]
theorem j_ws_push (g : j_G) (b : Nat) (h : J_H) (c : J_C) : j_ws g b (h ++ [c]) = j_ws g b h ++ [(b + h.length, j_e g b c)] := by
  simp [j_ws, List.mapIdx_append]
theorem j_ws_mem {g : j_G} {b : Nat} {h : J_H} {k : Nat} {q : Nat × va_E} (hk : (j_ws g b h)[k]? = some q) : k < h.length ∧ q.1 = b + k := by
  have h1 : k < (j_ws g b h).length := (List.getElem?_eq_some_iff.mp hk).1
  rw [j_ws_len] at h1
  rw [j_ws, List.getElem?_mapIdx, List.getElem?_eq_getElem h1] at hk
  exact ⟨h1, by cases hk; rfl⟩
/-- the cells of J, and all behind sz -/
def j_A (b n sz : Nat) : Nat → Prop := fun q => (b ≤ q ∧ q < b + n) ∨ sz ≤ q
theorem j_ws_D {A : Nat → Prop} {g : j_G} {b n : Nat} {h : J_H} (hA : ∀ q, b ≤ q → q < b + h.length → A q) : va_D A (j_ws g b h) := by
  refine ⟨fun i j p q hp hq e => ?_, fun k q hk => ?_⟩
  · have h1 := (j_ws_mem hp).2
    have h2 := (j_ws_mem hq).2
    omega
  · have h1 := j_ws_mem hk
    rw [h1.2]
    exact hA _ (by omega) (by omega)
/-- the arrays' classes -/
def j_tys (RN : String) (g : j_G) : List (ClassId × FieldType) := [(g.1, .byte), (g.2.1, .int), (g.2.2.1, .long), (g.2.2.2, .object RN)]
theorem j_getD_set (l : List Int32) (i : Nat) (x : Int32) (hi : i < l.length) : (fun j => (l.set i x).getD j 0) = upd (fun j => l.getD j 0) i x := by
  funext j
  by_cases h : j = i
  · subst h
    simp [upd, hi]
  · have h' : ¬ i = j := fun q => h q.symm
    simp [upd, h, h', List.getElem?_set]
theorem j_getD_setL (l : List Int64) (i : Nat) (x : Int64) (hi : i < l.length) : (fun j => (l.set i x).getD j 0) = vp_updL (fun j => l.getD j 0) i x := by
  funext j
  by_cases h : j = i
  · subst h
    simp [vp_updL, hi]
  · have h' : ¬ i = j := fun q => h q.symm
    simp [vp_updL, h, h', List.getElem?_set]
theorem j_getD_setQ (b : Nat) (l : List (Option Nat)) (i k : Nat) (hi : i < l.length) : (fun j => ((l.set i (some k)).getD j none).map fun q => b + q) = va_up (fun j => (l.getD j none).map fun q => b + q) i (some (b + k)) := by
  funext j
  by_cases h : j = i
  · subst h
    simp [va_up, hi]
  · have h' : ¬ i = j := fun q => h q.symm
    simp [va_up, h, h', List.getElem?_set]
/-- what a field may hold -/
def j_fit : FieldType → Value → Bool
  | .int, .int _ => true
  | .boolean, .int x => decide (x = 0) || decide (x = 1)
  | .long, .long _ => true
  | .object _, .null => true
  | .object _, .ref _ => true
  | .array _, .null => true
  | .array _, .ref _ => true
  | _, _ => false
theorem j_fit_ok {ty : FieldType} {v : Value} (b : Nat) (h : j_fit ty v = true) : narrow ty (j_v b v) = j_v b v ∧ fits ty (j_v b v) = true := by
  unfold j_fit at h
  split at h
  · exact ⟨rfl, rfl⟩
  · rename_i x
    rcases (Bool.or_eq_true _ _).mp h with h | h
    · have := of_decide_eq_true h
      subst this
      exact ⟨(by decide : narrow .boolean (.int 0) = .int 0), (by decide : fits .boolean (.int 0) = true)⟩
    · have := of_decide_eq_true h
      subst this
      exact ⟨(by decide : narrow .boolean (.int 1) = .int 1), (by decide : fits .boolean (.int 1) = true)⟩
  all_goals first | (exact ⟨rfl, rfl⟩) | (cases h)
abbrev j_F : Type := Nat × Nat × FieldType × Bool
def j_get (fl : Option j_F) (h : J_H) (st : List Value) : Option (List Value) := match fl, st with
  | some (ci, j, _, _), .ref k :: r => match h[k]? with
    | some (.inl (ci', fs)) => if ci' = ci then (match fs[j]? with
      | some v => some (v :: r)
      | none => none) else none
    | _ => none
  | _, _ => none
def j_put (isI : Bool) (fl : Option j_F) (h : J_H) (st : List Value) : Option (List Value × J_H) := match fl, st with
  | some (ci, j, ty, fin), v :: .ref k :: r => match h[k]? with
    | some (.inl (ci', fs)) => if ci' = ci ∧ j < fs.length ∧ j_fit ty v = true ∧ (fin = true → isI = true) then some (r, h.set k (.inl (ci, fs.set j v))) else none
    | _ => none
  | _, _ => none
/-- what the tables say of a field's entry -/
def j_Fok (WG : List Cond) (cl : List vw_C) (own : String) (idx : Nat) (f : j_F) : Prop :=
  ∃ (C : String) (T : u_T) (N : Nat), cl[f.1]? = some (C, T, N) ∧ f.2.1 < N ∧ (∀ w ∈ u_ws C T N, w ∈ WG) ∧ Cond.fieldLink own idx (T f.2.1).1 (T f.2.1).2.1 (T f.2.1).2.2.1 ∈ WG ∧ parseFieldDescriptor (T f.2.1).2.2.1 = some f.2.2.1 ∧ (T f.2.1).2.2.2 = f.2.2.2 ∧
    (∃ ty0 : Nat → FieldType, ∀ k, k < N → parseFieldDescriptor (T k).2.2.1 = some (ty0 k)) ∧ (∀ a, a < N → ∀ b, b < N → a ≠ b → (T a).2.1 ≠ (T b).2.1) ∧ (f.2.2.2 = true → (T f.2.1).1 = own)
section JHEAP
variable {p : Program} {l : Launch} {e : Env} {R : Room} {s : State} {m : MethodId} {args : Array Value} {below : List Frame} {meth : Method} {c : Code} {H : Heap} {locs : List Loc} {cells slots : Nat} {Q : State → Prop}
variable {cc : ByteArray} {pc : Nat} {ls : Array Slot} {WG : List Cond} {cl : List vw_C} {D : va_G} {g : j_G} {b : Nat} {own RN : String} {A : Nat → Prop} {H0 : Heap} {tys : List (ClassId × FieldType)}
set_option maxHeartbeats 4000000 in
theorem j_get_ok (hx : p.tables.exec = Jvm.exec) (hb : c.code = cc) (hts : ∀ w ∈ WG, w.before args s = true) (hown : s.vm.findClass own = some m.cls) (hK : va_K D cl tys s) {h : J_H} (hP : va_P D cl (j_ws g b h) H)
    {idx : Nat} {fl : Option j_F} (hf : ∀ f, fl = some f → j_Fok WG cl own idx f) {st st' : List Value} (hd : decode cc pc = .ok (.getfield idx, 3)) (hj : j_get fl h st = some st')
    (k : W p l e R s m args below meth c H locs cells slots Q (F0 m (pc + 3) ls (j_st b st'))) : W p l e R s m args below meth c H locs cells slots Q (F0 m pc ls (j_st b st)) := by
  unfold j_get at hj
  split at hj
  · rename_i ci j ty fin q r
    split at hj
    · rename_i ci' fs hc
      split at hj
      · rename_i hci
        subst hci
        split at hj
        · rename_i v hv
          cases hj
          obtain ⟨C, T, N, f1, f2, f3, f4, f5, f6, f7, f8, f9⟩ := hf _ rfl
          refine va_get (D := D) (T := T) (N := N) (C := C) hx hb hts f3 hown hK hP q (j_ws_at hc) f1 j f2 (hts _ f4) (fun _ z => z) (v := j_v b v) ?_ hd k
          simp [j_st, hv]
        · cases hj
      · cases hj
    · cases hj
  · cases hj
set_option maxHeartbeats 4000000 in
theorem j_put_ok (hx : p.tables.exec = Jvm.exec) (hb : c.code = cc) (hts : ∀ w ∈ WG, w.before args s = true) (hown : s.vm.findClass own = some m.cls) (hK : va_K D cl tys s) {h : J_H} (hP : va_P D cl (j_ws g b h) H) (hD : ∀ q, b ≤ q → q < b + h.length → A q) (hS : va_S A H0 H locs)
    {idx : Nat} {fl : Option j_F} (hf : ∀ f, fl = some f → j_Fok WG cl own idx f) {isI : Bool} (hI : isI = true → meth.name = "<init>") {st st' : List Value} {h' : J_H} (hd : decode cc pc = .ok (.putfield idx, 3)) (hj : j_put isI fl h st = some (st', h'))
    (k : ∀ (H1 : Heap) (locs1 : List Loc), va_P D cl (j_ws g b h') H1 → va_S A H0 H1 locs1 → h'.length = h.length → W p l e R s m args below meth c H1 locs1 cells slots Q (F0 m (pc + 3) ls (j_st b st'))) : W p l e R s m args below meth c H locs cells slots Q (F0 m pc ls (j_st b st)) := by
  unfold j_put at hj
  split at hj
  · rename_i ci j ty fin v q r
    split at hj
    · rename_i ci' fs hc
      split at hj
      · rename_i hci
        obtain ⟨rfl, hlt, hfit, hfin⟩ := hci
        cases hj
        obtain ⟨C, T, N, f1, f2, f3, f4, f5, f6, ⟨ty0, f7⟩, f8, f9⟩ := hf _ rfl
        obtain ⟨n1, n2⟩ := j_fit_ok b hfit
        have e1 : (j_ws g b h).set q (b + q, (.inr (ci', (j_st b fs).set j (j_v b v)) : va_E)) = j_ws g b (h.set q (.inl (ci', fs.set j v))) := by
          rw [← j_ws_set]
          simp only [j_e, j_st, List.map_set]
        cases fin with
        | false =>
          refine va_put (D := D) (T := T) (N := N) (C := C) hx hb hts f3 ty0 f7 f8 hown hK hP (j_ws_D (n := 0) hD) hS q (j_ws_at hc) f1 j f2 (hts _ f4) (fun _ z => z) f6 f5 n1 n2 (by simpa [j_st] using hlt) hd (fun H1 locs1 a1 a2 a3 => k H1 locs1 ?_ a3 (by simp))
          rw [← e1]; exact a1
        | true =>
          refine va_putF (D := D) (T := T) (N := N) (C := C) hx hb hts f3 ty0 f7 f8 hown hK hP (j_ws_D (n := 0) hD) hS q (j_ws_at hc) f1 j f2 (hts _ f4) (fun _ z => z) f6 (hI (hfin rfl)) (f9 rfl) f5 n1 n2 (by simpa [j_st] using hlt) hd (fun H1 locs1 a1 a2 a3 => k H1 locs1 ?_ a3 (by simp))
          rw [← e1]; exact a1
      · cases hj
    · cases hj
  · cases hj
end JHEAP
end
section
/-- the index of an array, within -/
def j_ix (i : Int32) (n : Nat) : Bool := !(decide (i < 0) || decide (n ≤ i.toNatClampNeg))
theorem j_ix_in {i : Int32} {n : Nat} (h : j_ix i n = true) : vp_in i n := by
  unfold j_ix at h
  simp only [Bool.not_eq_true', Bool.or_eq_false_iff, decide_eq_false_iff_not] at h
  exact fun q => q.elim h.1 h.2
theorem j_ix_lt {i : Int32} {n : Nat} (h : j_ix i n = true) : i.toNatClampNeg < n := by
  have h1 := j_ix_in h
  unfold vp_in at h1
  omega
/-- a load from an array, its length -/
def j_ald (ins : Instr) (h : J_H) (st : List Value) : Option (List Value) := match ins, st with
  | .iaload, .int i :: .ref k :: r => match h[k]? with
    | some (.inr (.inl (kd, l))) => if kd = 0 ∧ j_ix i l.length = true then some (.int (l.getD i.toNatClampNeg 0) :: r) else none
    | _ => none
  | .baload, .int i :: .ref k :: r => match h[k]? with
    | some (.inr (.inl (kd, l))) => if kd ≠ 0 ∧ j_ix i l.length = true then some (.int (l.getD i.toNatClampNeg 0) :: r) else none
    | _ => none
  | .laload, .int i :: .ref k :: r => match h[k]? with
    | some (.inr (.inr (.inl l))) => if j_ix i l.length = true then some (.long (l.getD i.toNatClampNeg 0) :: r) else none
    | _ => none
  | .aaload, .int i :: .ref k :: r => match h[k]? with
    | some (.inr (.inr (.inr l))) => if j_ix i l.length = true then (match l.getD i.toNatClampNeg none with
      | some q => some (.ref q :: r)
      | none => none) else none
    | _ => none
  | .arraylength, .ref k :: r => match h[k]? with
    | some (.inr (.inl (_, l))) => some (.int (Int32.ofNat l.length) :: r)
    | some (.inr (.inr (.inl l))) => some (.int (Int32.ofNat l.length) :: r)
    | _ => none
  | _, _ => none
/-- a store into an array -/
def j_ast (ins : Instr) (h : J_H) (st : List Value) : Option (List Value × J_H) := match ins, st with
  | .iastore, .int x :: .int i :: .ref k :: r => match h[k]? with
    | some (.inr (.inl (kd, l))) => if kd = 0 ∧ j_ix i l.length = true then some (r, h.set k (.inr (.inl (kd, l.set i.toNatClampNeg x)))) else none
    | _ => none
  | .bastore, .int x :: .int i :: .ref k :: r => match h[k]? with
    | some (.inr (.inl (kd, l))) => if kd ≠ 0 ∧ j_ix i l.length = true then some (r, h.set k (.inr (.inl (kd, l.set i.toNatClampNeg x.toInt8.toInt32)))) else none
    | _ => none
  | .lastore, .long x :: .int i :: .ref k :: r => match h[k]? with
    | some (.inr (.inr (.inl l))) => if j_ix i l.length = true then some (r, h.set k (.inr (.inr (.inl (l.set i.toNatClampNeg x))))) else none
    | _ => none
  | .aastore, .ref v :: .int i :: .ref k :: r => match h[k]?, h[v]? with
    | some (.inr (.inr (.inr l))), some (.inl (ci, _)) => if ci = 7 ∧ j_ix i l.length = true then some (r, h.set k (.inr (.inr (.inr (l.set i.toNatClampNeg (some v)))))) else none
    | _, _ => none
  | _, _ => none
section JARR
variable {p : Program} {l : Launch} {e : Env} {R : Room} {s : State} {m : MethodId} {args : Array Value} {below : List Frame} {meth : Method} {c : Code} {H : Heap} {locs : List Loc} {cells slots : Nat} {Q : State → Prop}
variable {cc : ByteArray} {pc : Nat} {ls : Array Slot} {WG : List Cond} {cl : List vw_C} {D : va_G} {g : j_G} {b : Nat} {RN : String} {A : Nat → Prop} {H0 : Heap}
set_option maxHeartbeats 4000000 in
theorem j_ald_ok (hx : p.tables.exec = Jvm.exec) (hb : c.code = cc) (hK : va_K D cl (j_tys RN g) s) {h : J_H} (hP : va_P D cl (j_ws g b h) H) {ins : Instr} {st st' : List Value} (hd : decode cc pc = .ok (ins, j_ln ins)) (hj : j_ald ins h st = some st')
    (k : W p l e R s m args below meth c H locs cells slots Q (F0 m (pc + j_ln ins) ls (j_st b st'))) : W p l e R s m args below meth c H locs cells slots Q (F0 m pc ls (j_st b st)) := by
  unfold j_ald at hj
  split at hj
  · split at hj
    · rename_i i q r _ kd lst hc
      split at hj
      · rename_i hi
        obtain ⟨rfl, hi⟩ := hi
        cases hj
        exact va_iald hx hb hK hP q 1 (f := fun j => lst.getD j 0) (j_ws_at hc) rfl (j_ix_in hi) hd k
      · cases hj
    · cases hj
  · split at hj
    · rename_i i q r _ kd lst hc
      split at hj
      · rename_i hi
        obtain ⟨hk, hi⟩ := hi
        cases hj
        exact va_bald hx hb hK hP q 0 (f := fun j => lst.getD j 0) (by rw [j_ws_at hc]; simp only [j_e, if_neg hk]) rfl (j_ix_in hi) hd k
      · cases hj
    · cases hj
  · split at hj
    · rename_i i q r _ lst hc
      split at hj
      · rename_i hi
        cases hj
        exact va_lald hx hb hK hP q 2 (f := fun j => lst.getD j 0) (j_ws_at hc) rfl (j_ix_in hi) hd k
      · cases hj
    · cases hj
  · split at hj
    · rename_i i q r _ lst hc
      split at hj
      · rename_i hi
        split at hj
        · rename_i z hz
          cases hj
          refine va_aldq hx hb hK hP q 3 (C := RN) (f := fun j => (lst.getD j none).map fun q => b + q) (j_ws_at hc) rfl (j_ix_in hi) hd ?_
          simp only [hz]
          exact k
        · cases hj
      · cases hj
    · cases hj
  · split at hj
    · rename_i q r _ kd lst hc
      cases hj
      by_cases hk : kd = 0
      · subst hk
        exact va_alen hx hb hK hP q 1 (j_ws_at hc) rfl rfl hd k
      · exact va_alen hx hb hK hP q 0 (x := (lst.length, .inl fun j => lst.getD j 0)) (by rw [j_ws_at hc]; simp only [j_e, if_neg hk]) rfl rfl hd k
    · rename_i q r _ lst hc
      cases hj
      exact va_alen hx hb hK hP q 2 (j_ws_at hc) rfl rfl hd k
    · cases hj
  · cases hj
set_option maxHeartbeats 4000000 in
theorem j_ast_ok (hx : p.tables.exec = Jvm.exec) (hb : c.code = cc) (hK : va_K D cl (j_tys RN g) s) {h : J_H} (hP : va_P D cl (j_ws g b h) H) (hD : ∀ q, b ≤ q → q < b + h.length → A q) (hS : va_S A H0 H locs) (hR : ∃ r : vw_C, cl[7]? = some r ∧ r.1 = RN) {ins : Instr} {st st' : List Value} {h' : J_H} (hd : decode cc pc = .ok (ins, j_ln ins)) (hj : j_ast ins h st = some (st', h'))
    (k : ∀ (H1 : Heap) (locs1 : List Loc), va_P D cl (j_ws g b h') H1 → va_S A H0 H1 locs1 → h'.length = h.length → W p l e R s m args below meth c H1 locs1 cells slots Q (F0 m (pc + j_ln ins) ls (j_st b st'))) : W p l e R s m args below meth c H locs cells slots Q (F0 m pc ls (j_st b st)) := by
  unfold j_ast at hj
  split at hj
  · split at hj
    · rename_i x i q r _ kd lst hc
      split at hj
      · rename_i hi
        obtain ⟨rfl, hi⟩ := hi
        cases hj
        refine va_iast hx hb hK hP (j_ws_D (n := 0) hD) hS q 1 (f := fun j => lst.getD j 0) (j_ws_at hc) rfl (j_ix_in hi) hd (fun H1 locs1 a1 a2 a3 => k H1 locs1 ?_ a3 (by simp))
        rw [← j_ws_set]
        simp only [j_e, j_getD_set lst _ x (j_ix_lt hi), List.length_set]
        exact a1
      · cases hj
    · cases hj
  · split at hj
    · rename_i x i q r _ kd lst hc
      split at hj
      · rename_i hi
        obtain ⟨hk, hi⟩ := hi
        cases hj
        refine va_bast hx hb hK hP (j_ws_D (n := 0) hD) hS q 0 (f := fun j => lst.getD j 0) (by rw [j_ws_at hc]; simp only [j_e, if_neg hk]) rfl (j_ix_in hi) hd (fun H1 locs1 a1 a2 a3 => k H1 locs1 ?_ a3 (by simp))
        rw [← j_ws_set]
        simp only [j_e, if_neg hk, j_getD_set lst _ _ (j_ix_lt hi), List.length_set]
        exact a1
      · cases hj
    · cases hj
  · split at hj
    · rename_i x i q r _ lst hc
      split at hj
      · rename_i hi
        cases hj
        refine va_last hx hb hK hP (j_ws_D (n := 0) hD) hS q 2 (f := fun j => lst.getD j 0) (j_ws_at hc) rfl (j_ix_in hi) hd (fun H1 locs1 a1 a2 a3 => k H1 locs1 ?_ a3 (by simp))
        rw [← j_ws_set]
        simp only [j_e, j_getD_setL lst _ x (j_ix_lt hi), List.length_set]
        exact a1
      · cases hj
    · cases hj
  · split at hj
    · rename_i v i q r _ _ lst ci fs hc hv
      split at hj
      · rename_i hi
        obtain ⟨rfl, hi⟩ := hi
        cases hj
        obtain ⟨r0, hr0, rfl⟩ := hR
        refine va_astq hx hb hK hP (j_ws_D (n := 0) hD) hS q 3 v 7 (f := fun j => (lst.getD j none).map fun q => b + q) (j_ws_at hc) rfl (j_ws_at hv) hr0 (j_ix_in hi) hd (fun H1 locs1 a1 a2 a3 => k H1 locs1 ?_ a3 (by simp))
        rw [← j_ws_set]
        simp only [j_e, j_getD_setQ b lst _ v (j_ix_lt hi), List.length_set]
        exact a1
      · cases hj
    · cases hj
  · cases hj
end JARR
end
section
section JNEW
variable {p : Program} {l : Launch} {e : Env} {R : Room} {s : State} {m : MethodId} {args : Array Value} {below : List Frame} {meth : Method} {c : Code} {H : Heap} {locs : List Loc} {cells slots : Nat} {Q : State → Prop}
variable {cc : ByteArray} {pc : Nat} {ls : Array Slot} {WG : List Cond} {cl : List vw_C} {D : va_G} {g : j_G} {b : Nat} {own RN : String} {A : Nat → Prop} {H0 : Heap}
/-- what the tables say of a 'new' -/
def j_Nok (WG : List Cond) (cl : List vw_C) (own : String) (idx : Nat) (f : Nat × List Value) : Prop :=
  ∃ (C : String) (T : u_T) (N : Nat) (ty : Nat → FieldType), cl[f.1]? = some (C, T, N) ∧ f.2.length = N ∧ (∀ w ∈ u_ws C T N, w ∈ WG) ∧ (∀ k, k < N → parseFieldDescriptor (T k).2.2.1 = some (ty k)) ∧ Cond.classLink own idx C ∈ WG ∧ Cond.instantiable C N ∈ WG ∧ Cond.initialized C ∈ WG ∧
    (∀ j, j < N → defaultValue (ty j) = vp_V f.2 j) ∧ (∀ v ∈ f.2, ∀ b : Nat, j_v b v = v)
set_option maxHeartbeats 4000000 in
theorem j_new_ok (hx : p.tables.exec = Jvm.exec) (hb : c.code = cc) (hts : ∀ w ∈ WG, w.before args s = true) (hown : s.vm.findClass own = some m.cls) (hK : va_K D cl (j_tys RN g) s) {h : J_H} (hP : va_P D cl (j_ws g b h) H) (hS : va_S A H0 H locs) (hsz : H.size = b + h.length)
    {idx : Nat} {f : Nat × List Value} (hf : j_Nok WG cl own idx f) {st : List Value} (hd : decode cc pc = .ok (.new idx, 3)) (hcells : cells + 1 ≤ R.cells) (hslots : slots + f.2.length ≤ R.slots)
    (k : ∀ (H1 : Heap), va_P D cl (j_ws g b (h ++ [.inl f])) H1 → va_S A H0 H1 locs → H1.size = b + (h ++ [Sum.inl f]).length → W p l e R s m args below meth c H1 locs (cells + 1) (slots + f.2.length) Q (F0 m (pc + 3) ls (j_st b (.ref h.length :: st)))) : W p l e R s m args below meth c H locs cells slots Q (F0 m pc ls (j_st b st)) := by
  obtain ⟨C, T, N, ty, f1, f2, f3, f4, f5, f6, f7, f8, f9⟩ := hf
  subst f2
  have hKn := hK.1 f.1 _ f1
  refine W.newcK hx hb hown (hts _ f5) (hts _ f6) (hts _ f7) rfl hd hcells hslots hKn.2.1 rfl fun H1 kC hkC e1 z1 o1 => ?_
  have hk : ∀ (k : Nat) (x : Nat × va_E), (j_ws g b h)[k]? = some x → H1[x.1]? = H[x.1]? := fun k x hx => o1 x.1 ((hP k x hx).lt)
  have hq : b + h.length = H.size := hsz.symm
  have e2 : j_st b (.ref h.length :: st) = .ref H.size :: j_st b st := by rw [← hq]; rfl
  have k1 := k H1 ?_ ⟨Nat.le_trans hS.1 (by omega), fun x h1 h2 => (o1 x (Nat.lt_of_lt_of_le h1 hS.1)).trans (hS.2.1 x h1 h2), hS.2.2⟩ (by rw [z1, List.length_append, hsz]; rfl)
  · rw [e2] at k1
    exact k1
  · rw [j_ws_push, hq]
    refine (hP.kept hk).app (fun k x hx => ?_)
    have hz : k < 1 := (List.getElem?_eq_some_iff.mp hx).1
    rw [show k = 0 by omega] at hx
    cases hx
    refine ⟨_, f1, (u_born ty hts f3 hKn hkC e1 f4).to fun j hj => ?_⟩
    rw [f8 j hj]
    show vp_V f.2 j = vp_V (j_st b f.2) j
    have e3 : j_st b f.2 = f.2 := by
      unfold j_st
      conv => rhs; rw [← List.map_id f.2]
      exact List.map_congr_left fun v hv => f9 v hv b
    rw [e3]
/-- a new array: its kind -/
def j_arr (at_ : ArrayType) (n : Nat) : Option J_C := match at_ with
  | .int => some (.inr (.inl (0, List.replicate n 0)))
  | .byte => some (.inr (.inl (1, List.replicate n 0)))
  | .long => some (.inr (.inr (.inl (List.replicate n 0))))
  | _ => none
theorem j_getD_rep (n j : Nat) : (List.replicate n (0 : Int32)).getD j 0 = 0 := by
  rw [List.getD_eq_getElem?_getD, List.getElem?_replicate]
  by_cases h : j < n <;> simp [h]
theorem j_getD_repL (n j : Nat) : (List.replicate n (0 : Int64)).getD j 0 = 0 := by
  rw [List.getD_eq_getElem?_getD, List.getElem?_replicate]
  by_cases h : j < n <;> simp [h]
theorem j_getD_repQ (n j : Nat) : (List.replicate n (none : Option Nat)).getD j none = none := by
  rw [List.getD_eq_getElem?_getD, List.getElem?_replicate]
  by_cases h : j < n <;> simp [h]
set_option maxHeartbeats 4000000 in
theorem j_newa_ok (hx : p.tables.exec = Jvm.exec) (hb : c.code = cc) (hts : ∀ w ∈ WG, w.before args s = true) (hK : va_K D cl (j_tys RN g) s) {h : J_H} (hP : va_P D cl (j_ws g b h) H) (hS : va_S A H0 H locs) (hsz : H.size = b + h.length)
    {at_ : ArrayType} {n : Int32} {cell : J_C} (hw : Cond.arrayClass (newarray.typeOf at_) ∈ WG) (hc : j_arr at_ n.toNatClampNeg = some cell) (hn : ¬ n < 0) (hn2 : n.toNatClampNeg ≤ 65536) {st : List Value} (hd : decode cc pc = .ok (.newarray at_, 2)) (hcells : cells + 1 ≤ R.cells) (hslots : slots + n.toNatClampNeg ≤ R.slots)
    (k : ∀ (H1 : Heap), va_P D cl (j_ws g b (h ++ [cell])) H1 → va_S A H0 H1 locs → H1.size = b + (h ++ [cell]).length → W p l e R s m args below meth c H1 locs (cells + 1) (slots + n.toNatClampNeg) Q (F0 m (pc + 2) ls (j_st b (.ref h.length :: st)))) : W p l e R s m args below meth c H locs cells slots Q (F0 m pc ls (j_st b (.int n :: st))) := by
  have hq : b + h.length = H.size := hsz.symm
  have e2 : j_st b (.ref h.length :: st) = .ref H.size :: j_st b st := by rw [← hq]; rfl
  have hby : n.toNatClampNeg * componentBytes (newarray.typeOf at_) ≤ 536870912 := by
    have h8 : componentBytes (newarray.typeOf at_) ≤ 8 := by cases at_ <;> decide
    exact Nat.le_trans (Nat.mul_le_mul hn2 h8) (Nat.le_of_ble_eq_true rfl)
  refine va_newaK hx hb (hts _ hw) rfl hd rfl hn rfl hby hcells hslots rfl fun H1 cA e1 z1 o1 hAr hNm => ?_
  have hk : ∀ (k : Nat) (x : Nat × va_E), (j_ws g b h)[k]? = some x → H1[x.1]? = H[x.1]? := fun k x hx => o1 x.1 ((hP k x hx).lt)
  have k1 := k H1 ?_ ⟨Nat.le_trans hS.1 (by omega), fun x h1 h2 => (o1 x (Nat.lt_of_lt_of_le h1 hS.1)).trans (hS.2.1 x h1 h2), hS.2.2⟩ (by rw [z1, List.length_append, hsz]; rfl)
  · rw [e2] at k1
    exact k1
  · rw [j_ws_push, hq]
    refine (hP.kept hk).app (fun k x hx => ?_)
    have hz : k < 1 := (List.getElem?_eq_some_iff.mp hx).1
    rw [show k = 0 by omega] at hx
    cases hx
    have r0 := (hK.2 0 _ rfl).2
    have r1 := (hK.2 1 _ rfl).2
    have r2 := (hK.2 2 _ rfl).2
    cases at_ <;> first | (cases hc; done) | skip
    · cases hc
      have ec : g.1 = cA := Option.some.inj ((show s.vm.findClass _ = some g.1 from r0).symm.trans hNm)
      show H1[H.size]? = some (vp_cell _ _)
      rw [e1]
      simp only [vp_cell, List.length_replicate, j_getD_rep]
      rw [if_neg (by decide), ec]
      rfl
    · cases hc
      have ec : g.2.1 = cA := Option.some.inj ((show s.vm.findClass _ = some g.2.1 from r1).symm.trans hNm)
      show H1[H.size]? = some (vp_cell _ _)
      rw [e1]
      simp only [vp_cell, List.length_replicate, j_getD_rep]
      rw [if_pos trivial, ec]
      rfl
    · cases hc
      have ec : g.2.2.1 = cA := Option.some.inj ((show s.vm.findClass _ = some g.2.2.1 from r2).symm.trans hNm)
      show H1[H.size]? = some (vp_cell _ _)
      rw [e1]
      simp only [vp_cell, List.length_replicate, j_getD_repL]
      rw [ec]
      rfl
set_option maxHeartbeats 4000000 in
theorem j_newq_ok (hx : p.tables.exec = Jvm.exec) (hb : c.code = cc) (hts : ∀ w ∈ WG, w.before args s = true) (hown : s.vm.findClass own = some m.cls) (hK : va_K D cl (j_tys RN g) s) {h : J_H} (hP : va_P D cl (j_ws g b h) H) (hS : va_S A H0 H locs) (hsz : H.size = b + h.length)
    {idx : Nat} {n : Int32} (hw : Cond.classLink own idx RN ∈ WG) (hAO : va_AO RN s) (hn : ¬ n < 0) (hn2 : n.toNatClampNeg ≤ 65536) {st : List Value} (hd : decode cc pc = .ok (.anewarray idx, 3)) (hcells : cells + 1 ≤ R.cells) (hslots : slots + n.toNatClampNeg ≤ R.slots)
    (k : ∀ (H1 : Heap), va_P D cl (j_ws g b (h ++ [.inr (.inr (.inr (List.replicate n.toNatClampNeg none)))])) H1 → va_S A H0 H1 locs → H1.size = b + (h ++ [(.inr (.inr (.inr (List.replicate n.toNatClampNeg none))) : J_C)]).length → W p l e R s m args below meth c H1 locs (cells + 1) (slots + n.toNatClampNeg) Q (F0 m (pc + 3) ls (j_st b (.ref h.length :: st)))) : W p l e R s m args below meth c H locs cells slots Q (F0 m pc ls (j_st b (.int n :: st))) := by
  have hq : b + h.length = H.size := hsz.symm
  have e2 : j_st b (.ref h.length :: st) = .ref H.size :: j_st b st := by rw [← hq]; rfl
  have hby : n.toNatClampNeg * 4 ≤ 536870912 := Nat.le_trans (Nat.mul_le_mul hn2 (Nat.le_refl 4)) (Nat.le_of_ble_eq_true rfl)
  refine W.anew hx hb hown (hts _ hw) (va_AO.use hAO) rfl hd rfl hn hby hcells hslots fun cA kA comp f1 f2 f3 f4 => ?_
  generalize hH1 : H.push ({ cls := cA, slots := Array.replicate n.toNatClampNeg .null, vm := .none } : Cell) = H1
  have z1 : H1.size = H.size + 1 := by rw [← hH1, Array.size_push]
  have e1 : H1[H.size]? = some (arrV cA n.toNatClampNeg (fun _ => .null)) := by rw [← hH1, Array.getElem?_push_size, ← arrV_new]
  have o1 : ∀ q : Nat, q < H.size → H1[q]? = H[q]? := fun q hq => by rw [← hH1, Array.getElem?_push, if_neg (Nat.ne_of_lt hq)]
  have hk : ∀ (k : Nat) (x : Nat × va_E), (j_ws g b h)[k]? = some x → H1[x.1]? = H[x.1]? := fun k x hx => o1 x.1 ((hP k x hx).lt)
  have k1 := k H1 ?_ ⟨Nat.le_trans hS.1 (by omega), fun x h1 h2 => (o1 x (Nat.lt_of_lt_of_le h1 hS.1)).trans (hS.2.1 x h1 h2), hS.2.2⟩ (by rw [z1, List.length_append, hsz]; rfl)
  · rw [e2] at k1
    exact k1
  · rw [j_ws_push, hq]
    refine (hP.kept hk).app (fun k x hx => ?_)
    have hz : k < 1 := (List.getElem?_eq_some_iff.mp hx).1
    rw [show k = 0 by omega] at hx
    cases hx
    obtain ⟨kA', comp', r1, r2, r3, r4⟩ := (hK.2 3 _ rfl).2
    have ec : g.2.2.2 = cA := Option.some.inj (r4.symm.trans f1)
    show H1[H.size]? = some (vp_cell _ _)
    rw [e1]
    simp only [vp_cell, List.length_replicate, j_getD_repQ, Option.map_none]
    rw [ec]
    rfl
end JNEW
end
section
/-- how many slots a cell has -/
def j_cl : J_C → Nat
  | .inl f => f.2.length
  | .inr (.inl f) => f.2.length
  | .inr (.inr (.inl f)) => f.length
  | .inr (.inr (.inr f)) => f.length
def j_sl (h : J_H) : Nat := (h.map j_cl).sum
theorem j_sl_push (h : J_H) (c : J_C) : j_sl (h ++ [c]) = j_sl h + j_cl c := by simp [j_sl]
theorem j_sum_set : ∀ (l : List Nat) (k x : Nat), l[k]? = some x → (l.set k x) = l
  | [], k, x, h => by simp at h
  | a :: r, 0, x, h => by simp at h; simp [h]
  | a :: r, k + 1, x, h => by
    simp only [List.getElem?_cons_succ] at h
    simp [j_sum_set r k x h]
theorem j_sl_set {h : J_H} {k : Nat} {c c' : J_C} (hk : h[k]? = some c) (hc : j_cl c' = j_cl c) : j_sl (h.set k c') = j_sl h := by
  unfold j_sl
  rw [List.map_set, hc, j_sum_set]
  rw [List.getElem?_map, hk]
  rfl
theorem j_put_sl {isI : Bool} {fl : Option j_F} {h h' : J_H} {st st' : List Value} (hj : j_put isI fl h st = some (st', h')) : h'.length = h.length ∧ j_sl h' = j_sl h := by
  unfold j_put at hj
  split at hj
  · split at hj
    · rename_i hc
      split at hj
      · cases hj
        exact ⟨by simp, j_sl_set hc (by simp [j_cl])⟩
      · cases hj
    · cases hj
  · cases hj
theorem j_ast_sl {ins : Instr} {h h' : J_H} {st st' : List Value} (hj : j_ast ins h st = some (st', h')) : h'.length = h.length ∧ j_sl h' = j_sl h := by
  unfold j_ast at hj
  split at hj
  · split at hj
    · rename_i hc
      split at hj
      · cases hj
        exact ⟨by simp, j_sl_set hc (by simp [j_cl])⟩
      · cases hj
    · cases hj
  · split at hj
    · rename_i hc
      split at hj
      · cases hj
        exact ⟨by simp, j_sl_set hc (by simp [j_cl])⟩
      · cases hj
    · cases hj
  · split at hj
    · rename_i hc
      split at hj
      · cases hj
        exact ⟨by simp, j_sl_set hc (by simp [j_cl])⟩
      · cases hj
    · cases hj
  · split at hj
    · rename_i hc hv
      split at hj
      · cases hj
        exact ⟨by simp, j_sl_set hc (by simp [j_cl])⟩
      · cases hj
    · cases hj
  · cases hj
/-- System.arraycopy over ints, over longs -/
def j_cpy {α : Type} (z : α) (l0 l1 : List α) (sp dp n : Nat) : List α := l1.mapIdx fun k x => if dp ≤ k ∧ k < dp + n then l0.getD (sp + (k - dp)) z else x
theorem j_cpy_len {α : Type} (z : α) (l0 l1 : List α) (sp dp n : Nat) : (j_cpy z l0 l1 sp dp n).length = l1.length := by simp [j_cpy]
theorem j_cpy_fun {α : Type} (z : α) (l0 l1 : List α) (sp dp n : Nat) (h : dp + n ≤ l1.length) : (fun j => (j_cpy z l0 l1 sp dp n).getD j z) = va_cpy (fun j => l0.getD j z) (fun j => l1.getD j z) sp dp n := by
  funext k
  simp only [j_cpy, va_cpy, List.getD_eq_getElem?_getD, List.getElem?_mapIdx]
  by_cases hk : dp ≤ k ∧ k < dp + n
  · have hl : k < l1.length := by omega
    have e1 : l1[k]? = some l1[k] := List.getElem?_eq_getElem hl
    rw [if_pos hk, e1]
    simp only [Option.map_some, Option.getD_some, if_pos hk]
  · rw [if_neg hk]
    cases e1 : l1[k]? with
    | none => rfl
    | some y => simp only [Option.map_some, Option.getD_some, if_neg hk]
def j_acp (h : J_H) (st : List Value) : Option (List Value × J_H) := match st with
  | .int n :: .int dp :: .ref a :: .int sp :: .ref a0 :: r => match h[a0]?, h[a]? with
    | some (.inr (.inl (k0, l0))), some (.inr (.inl (k1, l1))) =>
      if k0 = 0 ∧ k1 = 0 ∧ ¬ sp < 0 ∧ ¬ dp < 0 ∧ ¬ n < 0 ∧ sp.toNatClampNeg + n.toNatClampNeg ≤ l0.length ∧ dp.toNatClampNeg + n.toNatClampNeg ≤ l1.length ∧ (r.map fun v => v.category).sum ≤ 8 then
        some (r, h.set a (.inr (.inl (k1, j_cpy 0 l0 l1 sp.toNatClampNeg dp.toNatClampNeg n.toNatClampNeg)))) else none
    | some (.inr (.inr (.inl l0))), some (.inr (.inr (.inl l1))) =>
      if ¬ sp < 0 ∧ ¬ dp < 0 ∧ ¬ n < 0 ∧ sp.toNatClampNeg + n.toNatClampNeg ≤ l0.length ∧ dp.toNatClampNeg + n.toNatClampNeg ≤ l1.length ∧ (r.map fun v => v.category).sum ≤ 8 then
        some (r, h.set a (.inr (.inr (.inl (j_cpy 0 l0 l1 sp.toNatClampNeg dp.toNatClampNeg n.toNatClampNeg))))) else none
    | _, _ => none
  | _ => none
theorem j_acp_sl {h h' : J_H} {st st' : List Value} (hj : j_acp h st = some (st', h')) : h'.length = h.length ∧ j_sl h' = j_sl h := by
  unfold j_acp at hj
  split at hj
  · split at hj
    · rename_i hc
      split at hj
      · cases hj
        exact ⟨by simp, j_sl_set hc (by simp [j_cl, j_cpy_len])⟩
      · cases hj
    · rename_i hc
      split at hj
      · cases hj
        exact ⟨by simp, j_sl_set hc (by simp [j_cl, j_cpy_len])⟩
      · cases hj
    · cases hj
  · cases hj
section JMISC
variable {p : Program} {l : Launch} {e : Env} {R : Room} {s : State} {m : MethodId} {args : Array Value} {below : List Frame} {meth : Method} {c : Code} {H : Heap} {locs : List Loc} {cells slots : Nat} {Q : State → Prop}
variable {cc : ByteArray} {pc : Nat} {ls : Array Slot} {WG : List Cond} {cl : List vw_C} {D : va_G} {g : j_G} {b : Nat} {own RN : String} {A : Nat → Prop} {H0 : Heap}
set_option maxHeartbeats 4000000 in
theorem j_acp_ok (hx : p.tables.exec = Jvm.exec) (hb : c.code = cc) (hml : c.maxLocals = ls.size) (hts : ∀ w ∈ WG, w.before args s = true) (hown : s.vm.findClass own = some m.cls) (hK : va_K D cl (j_tys RN g) s) {h : J_H} (hP : va_P D cl (j_ws g b h) H) (hD : ∀ q, b ≤ q → q < b + h.length → A q) (hS : va_S A H0 H locs)
    {idx : Nat} (hw : Cond.methodLink own idx arraycopyName ∈ WG ∧ Cond.native arraycopyName ∈ WG ∧ Cond.static arraycopyName ∈ WG ∧ Cond.initialized "java/lang/System" ∈ WG) (hframes : 1 ≤ R.frames) (hlocals : 26 ≤ R.locals) {st st' : List Value} {h' : J_H} (hd : decode cc pc = .ok (.invokestatic idx, 3)) (hj : j_acp h st = some (st', h'))
    (k : ∀ (H1 : Heap) (locs1 : List Loc), va_P D cl (j_ws g b h') H1 → va_S A H0 H1 locs1 → W p l e R s m args below meth c H1 locs1 cells slots Q (F0 m (pc + 3) ls (j_st b st'))) : W p l e R s m args below meth c H locs cells slots Q (F0 m pc ls (j_st b st)) := by
  obtain ⟨w1, w2, w3, w4⟩ := hw
  have hnf : nativeFrameWords "java/lang/System" "arraycopy" 5 = 7 := by decide +kernel
  unfold j_acp at hj
  split at hj
  · rename_i n dp a sp a0 r
    split at hj
    · rename_i k0 l0 k1 l1 hc0 hc1
      split at hj
      · rename_i hi
        obtain ⟨rfl, rfl, i1, i2, i3, i4, i5, i6⟩ := hi
        cases hj
        refine va_copyi hx hb hml hown (hts _ w1) (hts _ w2) (hts _ w3) (hts _ w4) hK hP (j_ws_D (n := 0) hD) hS a0 a 1 1 (f := fun j => l0.getD j 0) (g := fun j => l1.getD j 0) (j_ws_at hc0) (j_ws_at hc1) rfl rfl rfl i1 i2 i3 i4 i5 (fun _ _ => rfl) hframes ?_ hd (fun H1 locs1 a1 a2 a3 => k H1 locs1 ?_ a3)
        · have := j_st_cat b st'
          simp only [j_st] at this
          rw [this, hnf]
          omega
        · rw [← j_ws_set]
          simp only [j_e, j_cpy_fun 0 l0 l1 _ _ _ i5, j_cpy_len]
          exact a1
      · cases hj
    · rename_i l0 l1 hc0 hc1
      split at hj
      · rename_i hi
        obtain ⟨i1, i2, i3, i4, i5, i6⟩ := hi
        cases hj
        refine va_copyl hx hb hml hown (hts _ w1) (hts _ w2) (hts _ w3) (hts _ w4) hK hP (j_ws_D (n := 0) hD) hS a0 a 2 2 (f := fun j => l0.getD j 0) (g := fun j => l1.getD j 0) (j_ws_at hc0) (j_ws_at hc1) rfl rfl rfl i1 i2 i3 i4 i5 (fun _ _ => rfl) hframes ?_ hd (fun H1 locs1 a1 a2 a3 => k H1 locs1 ?_ a3)
        · have := j_st_cat b st'
          simp only [j_st] at this
          rw [this, hnf]
          omega
        · rw [← j_ws_set]
          simp only [j_e, j_cpy_fun 0 l0 l1 _ _ _ i5, j_cpy_len]
          exact a1
      · cases hj
    · cases hj
  · cases hj
/-- constants of the pool -/
def j_ldk (ins : Instr) (kk : Nat → Option Value) (st : List Value) : Option (List Value) := match ins with
  | .ldc i => match kk i with
    | some (.int x) => some (.int x :: st)
    | _ => none
  | .ldc_w i => match kk i with
    | some (.int x) => some (.int x :: st)
    | _ => none
  | .ldc2_w i => match kk i with
    | some (.long x) => some (.long x :: st)
    | _ => none
  | _ => none
def j_Kok (WG : List Cond) (own : String) (idx : Nat) : Value → Prop
  | .int x => Cond.constant own idx x ∈ WG
  | .long x => Cond.constantLong own idx x ∈ WG
  | _ => True
theorem j_ldk_ok (hx : p.tables.exec = Jvm.exec) (hb : c.code = cc) (hts : ∀ w ∈ WG, w.before args s = true) (hown : s.vm.findClass own = some m.cls) {ins : Instr} {kk : Nat → Option Value} (hk : ∀ i v, kk i = some v → j_Kok WG own i v) {st st' : List Value} (hd : decode cc pc = .ok (ins, j_ln ins)) (hj : j_ldk ins kk st = some st')
    (k : W p l e R s m args below meth c H locs cells slots Q (F0 m (pc + j_ln ins) ls (j_st b st'))) : W p l e R s m args below meth c H locs cells slots Q (F0 m pc ls (j_st b st)) := by
  unfold j_ldk at hj
  split at hj
  · split at hj
    · rename_i x hv
      cases hj
      exact lv_ldc hx hb hown (hts _ (hk _ _ hv)) hd k
    · cases hj
  · split at hj
    · rename_i x hv
      cases hj
      exact lv_ldcw hx hb hown (hts _ (hk _ _ hv)) hd k
    · cases hj
  · split at hj
    · rename_i x hv
      cases hj
      exact lv_ldc2 hx hb hown (hts _ (hk _ _ hv)) hd k
    · cases hj
  · cases hj
/-- Object's constructor -/
def j_obi (st : List Value) : Option (List Value) := match st with
  | .ref _ :: r => if (r.map fun v => v.category).sum ≤ 8 then some r else none
  | _ => none
theorem j_obi_ok (hx : p.tables.exec = Jvm.exec) (hb : c.code = cc) (hml : c.maxLocals = ls.size) (hts : ∀ w ∈ WG, w.before args s = true) (hown : s.vm.findClass own = some m.cls) {idx : Nat} (hw : Cond.methodLink own idx objectInit ∈ WG ∧ Cond.instanceMethod objectInit ∈ WG ∧ Cond.code objectInit ⟨#[0xb1]⟩ 1 none ∈ WG) (hframes : 1 ≤ R.frames) (hlocals : 26 ≤ R.locals) {st st' : List Value} (hd : decode cc pc = .ok (.invokespecial idx, 3)) (hj : j_obi st = some st')
    (k : W p l e R s m args below meth c H locs cells slots Q (F0 m (pc + 3) ls (j_st b st'))) : W p l e R s m args below meth c H locs cells slots Q (F0 m pc ls (j_st b st)) := by
  unfold j_obi at hj
  split at hj
  · rename_i a r
    split at hj
    · rename_i hi
      cases hj
      refine W.objInit hx hb hown (hts _ hw.1) (hts _ hw.2.1) (hts _ hw.2.2) rfl hml.symm rfl hd hframes ?_ k
      have := j_st_cat b st'
      simp only [j_st] at this
      rw [this]
      show 2 * 0 + _ + 12 ≤ _
      omega
    · cases hj
  · cases hj
end JMISC
end
section
/-! J's program: the instruction at a place of a method; a method's name, bytes, locals, answer, parameters (this left out), whether it is a constructor, its class's number; fields, 'new', constants by the pool's entry; calls: (0: Object's constructor, 1: arraycopy, 2: static, 3: virtual, 4: a constructor, 5: a nest mate's private constructor, 6: a nest mate's private static method; the callee); 'anewarray' -/
abbrev j_M : Type := MethodName × ByteArray × Nat × Option FieldType × Nat × Bool × Nat
abbrev j_P : Type := (Nat → Nat → Option Instr) × (Nat → Option j_M) × (Nat → Nat → Option j_F) × (Nat → Nat → Option (Nat × List Value)) × (Nat → Nat → Option Value) × (Nat → Nat → Option (Nat × Nat)) × (Nat → Nat → Bool)
def j_code (P : j_P) : Nat → Nat → Option Instr := P.1
def j_meth (P : j_P) : Nat → Option j_M := P.2.1
def j_fld (P : j_P) : Nat → Nat → Option j_F := P.2.2.1
def j_nw (P : j_P) : Nat → Nat → Option (Nat × List Value) := P.2.2.2.1
def j_ldc (P : j_P) : Nat → Nat → Option Value := P.2.2.2.2.1
def j_cal (P : j_P) : Nat → Nat → Option (Nat × Nat) := P.2.2.2.2.2.1
def j_anw (P : j_P) : Nat → Nat → Bool := P.2.2.2.2.2.2
abbrev j_y (M : j_M) : MethodName := M.1
abbrev j_by (M : j_M) : ByteArray := M.2.1
abbrev j_nL (M : j_M) : Nat := M.2.2.1
abbrev j_rt (M : j_M) : Option FieldType := M.2.2.2.1
abbrev j_np (M : j_M) : Nat := M.2.2.2.2.1
abbrev j_in (M : j_M) : Bool := M.2.2.2.2.2.1
abbrev j_ci (M : j_M) : Nat := M.2.2.2.2.2.2
/-- the kind of an instruction: 0 on the stack, 1 load, 2 store, 3 iinc, 4 branch, 5 array load, 6 array store, 7 field or new, 8 constant, 9 answer, 10 call -/
def j_kd : Instr → Nat
  | .iload_n _ => 1
  | .iload _ => 1
  | .lload_n _ => 1
  | .lload _ => 1
  | .aload_n _ => 1
  | .aload _ => 1
  | .istore_n _ => 2
  | .istore _ => 2
  | .lstore_n _ => 2
  | .lstore _ => 2
  | .astore_n _ => 2
  | .astore _ => 2
  | .iinc _ _ => 3
  | .goto _ => 4
  | .ifCond _ _ => 4
  | .if_icmp _ _ => 4
  | .tableswitch _ _ _ _ => 4
  | .lookupswitch _ _ => 4
  | .iaload => 5
  | .baload => 5
  | .laload => 5
  | .aaload => 5
  | .arraylength => 5
  | .iastore => 6
  | .bastore => 6
  | .lastore => 6
  | .aastore => 6
  | .getfield _ => 7
  | .putfield _ => 7
  | .new _ => 7
  | .newarray _ => 7
  | .anewarray _ => 7
  | .ldc _ => 8
  | .ldc_w _ => 8
  | .ldc2_w _ => 8
  | .ireturn => 9
  | .lreturn => 9
  | .areturn => 9
  | .return_ => 9
  | .invokestatic _ => 10
  | .invokespecial _ => 10
  | .invokevirtual _ => 10
  | _ => 0
/-- fields, and what is new -/
def j_obj (P : j_P) (mi : Nat) (isI : Bool) (ins : Instr) (st : List Value) (h : J_H) : Option (List Value × J_H) := match ins with
  | .getfield i => (j_get (j_fld P mi i) h st).map fun st' => (st', h)
  | .putfield i => j_put isI (j_fld P mi i) h st
  | .new i => (j_nw P mi i).map fun f => (.ref h.length :: st, h ++ [.inl f])
  | .newarray a => match st with
    | .int n :: r => if ¬ n < 0 ∧ n.toNatClampNeg ≤ 65536 then (j_arr a n.toNatClampNeg).map fun c => (.ref h.length :: r, h ++ [c]) else none
    | _ => none
  | .anewarray i => match st with
    | .int n :: r => if j_anw P mi i = true ∧ ¬ n < 0 ∧ n.toNatClampNeg ≤ 65536 then some (.ref h.length :: r, h ++ [.inr (.inr (.inr (List.replicate n.toNatClampNeg none)))]) else none
    | _ => none
  | _ => none
/-- one instruction that is neither a call nor an answer -/
def j_one (P : j_P) (mi nL : Nat) (isI : Bool) (pc : Nat) (ins : Instr) (lv : J_L) (st : List Value) (h : J_H) : Option (Nat × J_L × List Value × J_H) := match j_kd ins with
  | 0 => (j_stk ins st).map fun st' => (pc + j_ln ins, lv, st', h)
  | 1 => (j_lod ins lv st).map fun st' => (pc + j_ln ins, lv, st', h)
  | 2 => (j_sto ins nL lv st).map fun q => (pc + j_ln ins, q.1, q.2, h)
  | 3 => (j_inc ins nL lv).map fun lv' => (pc + j_ln ins, lv', st, h)
  | 4 => (j_br ins pc st).map fun q => (q.1, lv, q.2, h)
  | 5 => (j_ald ins h st).map fun st' => (pc + j_ln ins, lv, st', h)
  | 6 => (j_ast ins h st).map fun q => (pc + j_ln ins, lv, q.1, q.2)
  | 7 => (j_obj P mi isI ins st h).map fun q => (pc + j_ln ins, lv, q.1, q.2)
  | 8 => (j_ldk ins (j_ldc P mi) st).map fun st' => (pc + j_ln ins, lv, st', h)
  | _ => none
/-- an answer -/
def j_ret (ret : Option FieldType) (ins : Instr) (st : List Value) : Option (Option Value) := match ins, st, ret with
  | .ireturn, [.int v], some ty => if j_fit ty (.int v) = true then some (some (.int v)) else none
  | .lreturn, [.long v], some .long => some (some (.long v))
  | .areturn, [.ref k], some (.object _) => some (some (.ref k))
  | .areturn, [.ref k], some (.array _) => some (some (.ref k))
  | .return_, [], none => some none
  | _, _, _ => none
/-- which call -/
def j_inv (P : j_P) (mi : Nat) (ins : Instr) : Option (Nat × Nat) := match ins with
  | .invokespecial i => match j_cal P mi i with
    | some (0, x) => some (0, x)
    | some (4, x) => some (4, x)
    | some (5, x) => some (5, x)
    | _ => none
  | .invokestatic i => match j_cal P mi i with
    | some (1, x) => some (1, x)
    | some (2, x) => some (2, x)
    | some (6, x) => some (6, x)
    | _ => none
  | .invokevirtual i => match j_cal P mi i with
    | some (3, x) => some (3, x)
    | _ => none
  | _ => none
/-- how many values a call takes -/
def j_nar (md np : Nat) : Nat := if md = 2 ∨ md = 6 then np else np + 1
/-- the receiver is of the class -/
def j_rcv (md ci : Nat) (h : J_H) (As : List Value) : Bool := match md, As with
  | 2, _ => true
  | 6, _ => true
  | 3, .ref k :: _ => match h[k]? with
    | some (.inl (c, _)) => decide (c = ci)
    | _ => false
  | _, .ref _ :: _ => true
  | _, _ => false
/-- a call's arguments and what stays below -/
def j_spl (md : Nat) (M : j_M) (h : J_H) (st : List Value) : Option (List Value × List Value) :=
  if j_nar md (j_np M) ≤ st.length ∧ ((st.drop (j_nar md (j_np M))).map fun v => v.category).sum ≤ 8 ∧ (lg_sl (st.take (j_nar md (j_np M))).reverse).length ≤ j_nL M ∧ j_rcv md (j_ci M) h (st.take (j_nar md (j_np M))).reverse = true then
    some ((st.take (j_nar md (j_np M))).reverse, st.drop (j_nar md (j_np M))) else none
def j_run (P : j_P) : Nat → Nat → Nat → Nat → J_L → List Value → J_H → Option (Option Value × J_H)
  | 0, _, _, _, _, _, _ => none
  | f + 1, d, mi, pc, lv, st, h => match j_meth P mi, j_code P mi pc with
    | some M, some ins => match j_kd ins with
      | 9 => (j_ret (j_rt M) ins st).map fun r => (r, h)
      | 10 => match j_inv P mi ins with
        | some (0, _) => match j_obi st with
          | some st' => j_run P f d mi (pc + 3) lv st' h
          | none => none
        | some (1, _) => match j_acp h st with
          | some (st', h') => j_run P f d mi (pc + 3) lv st' h'
          | none => none
        | some (md, mj) => match d, j_meth P mj with
          | d' + 1, some N => match j_spl md N h st with
            | some (As, rest) => match j_run P f d' mj 0 (lv_args 0 As) [] h with
              | some (r, h') => j_run P f (d' + 1) mi (pc + 3) lv (r.toList ++ rest) h'
              | none => none
            | none => none
          | _, _ => none
        | none => none
      | _ => match j_one P mi (j_nL M) (j_in M) pc ins lv st h with
        | some (pc', lv', st', h') => j_run P f d mi pc' lv' st' h'
        | none => none
    | _, _ => none
theorem j_obj_mono {P : j_P} {mi : Nat} {isI : Bool} {ins : Instr} {st st' : List Value} {h h' : J_H} (hj : j_obj P mi isI ins st h = some (st', h')) : h.length ≤ h'.length ∧ j_sl h ≤ j_sl h' := by
  unfold j_obj at hj
  split at hj
  · obtain ⟨x, -, he⟩ := Option.map_eq_some_iff.mp hj
    cases he
    exact ⟨Nat.le_refl _, Nat.le_refl _⟩
  · obtain ⟨e1, e2⟩ := j_put_sl hj
    exact ⟨by omega, by omega⟩
  · obtain ⟨x, -, he⟩ := Option.map_eq_some_iff.mp hj
    cases he
    exact ⟨by simp, by rw [j_sl_push]; omega⟩
  · split at hj
    · split at hj
      · obtain ⟨x, -, he⟩ := Option.map_eq_some_iff.mp hj
        cases he
        exact ⟨by simp, by rw [j_sl_push]; omega⟩
      · cases hj
    · cases hj
  · split at hj
    · split at hj
      · cases hj
        exact ⟨by simp, by rw [j_sl_push]; omega⟩
      · cases hj
    · cases hj
  · cases hj
theorem j_one_mono {P : j_P} {mi nL : Nat} {isI : Bool} {pc pc' : Nat} {ins : Instr} {lv lv' : J_L} {st st' : List Value} {h h' : J_H} (hj : j_one P mi nL isI pc ins lv st h = some (pc', lv', st', h')) : h.length ≤ h'.length ∧ j_sl h ≤ j_sl h' := by
  unfold j_one at hj
  split at hj
  all_goals first
    | (cases hj; done)
    | (obtain ⟨x, hx, he⟩ := Option.map_eq_some_iff.mp hj
       cases he
       first
         | exact ⟨Nat.le_refl _, Nat.le_refl _⟩
         | exact j_obj_mono hx
         | exact ⟨by have := (j_ast_sl hx).1; omega, by have := (j_ast_sl hx).2; omega⟩)
theorem j_mono (P : j_P) : ∀ (f d mi pc : Nat) (lv : J_L) (st : List Value) (h : J_H) (r : Option Value) (hf : J_H), j_run P f d mi pc lv st h = some (r, hf) → h.length ≤ hf.length ∧ j_sl h ≤ j_sl hf := by
  intro f
  induction f with
  | zero => intro d mi pc lv st h r hf hj; cases hj
  | succ f ih =>
    intro d mi pc lv st h r hf hj
    unfold j_run at hj
    split at hj
    · split at hj
      · obtain ⟨x, -, he⟩ := Option.map_eq_some_iff.mp hj
        cases he
        exact ⟨Nat.le_refl _, Nat.le_refl _⟩
      · split at hj
        · split at hj
          · exact ih _ _ _ _ _ _ _ _ hj
          · cases hj
        · split at hj
          · rename_i st' h' ha
            have := j_acp_sl ha
            have := ih _ _ _ _ _ _ _ _ hj
            omega
          · cases hj
        · split at hj
          · split at hj
            · split at hj
              · rename_i r' h' hc
                have := ih _ _ _ _ _ _ _ _ hc
                have := ih _ _ _ _ _ _ _ _ hj
                omega
              · cases hj
            · cases hj
          · cases hj
        · cases hj
      · split at hj
        · rename_i pc' lv' st' h' ho
          have := j_one_mono ho
          have := ih _ _ _ _ _ _ _ _ hj
          omega
        · cases hj
    · cases hj
end
section
/-! THE MACHINE FOLLOWS J -/
abbrev j_NL : Type := List (String × Nat × MethodName × String)
def j_NW (NW : j_NL) (U : State) : Prop := ∀ q ∈ NW, va_Nw (.methodLinkNest q.1 q.2.1 q.2.2.1 q.2.2.2) U
/-- a method's own words -/
def j_Mok (WG : List Cond) (M : j_M) : Prop :=
  plainName (j_y M).cls = true ∧ (j_in M = true → (j_y M).name = "<init>") ∧ Cond.code (j_y M) (j_by M) (j_nL M) (j_rt M) ∈ WG ∧ ((j_y M).cls ≠ "java/lang/invoke/MethodHandle" ∧ (j_y M).cls ≠ "java/lang/invoke/VarHandle" ∧ (parseMethodDescriptor (j_y M).desc).map (fun d => d.parameters.length) = some (j_np M)) ∧ j_nL M ≤ 11 ∧ Cond.initialized (j_y M).cls ∈ WG
/-- a call's words -/
def j_Cok (WG : List Cond) (cl : List vw_C) (NW : j_NL) (own : String) (i md : Nat) (N : Option j_M) : Prop :=
  (md = 0 → Cond.methodLink own i objectInit ∈ WG ∧ Cond.instanceMethod objectInit ∈ WG ∧ Cond.code objectInit ⟨#[0xb1]⟩ 1 none ∈ WG) ∧
  (md = 1 → Cond.methodLink own i arraycopyName ∈ WG ∧ Cond.native arraycopyName ∈ WG ∧ Cond.static arraycopyName ∈ WG ∧ Cond.initialized "java/lang/System" ∈ WG) ∧
  (md = 2 → ∀ M, N = some M → Cond.methodLink own i (j_y M) ∈ WG ∧ Cond.static (j_y M) ∈ WG) ∧
  (md = 3 → ∀ M, N = some M → Cond.methodLink own i (j_y M) ∈ WG ∧ Cond.instanceMethod (j_y M) ∈ WG ∧ Cond.selects (j_y M).cls (j_y M) (j_y M) ∈ WG ∧ ∃ q, cl[j_ci M]? = some q ∧ q.1 = (j_y M).cls) ∧
  (md = 4 → ∀ M, N = some M → Cond.methodLink own i (j_y M) ∈ WG ∧ Cond.instanceMethod (j_y M) ∈ WG ∧ (j_y M).name = "<init>" ∧ j_rt M = none) ∧
  (md = 5 → ∀ M, N = some M → (∃ host, (own, i, j_y M, host) ∈ NW) ∧ Cond.instanceMethod (j_y M) ∈ WG ∧ (j_y M).name = "<init>" ∧ j_rt M = none) ∧
  (md = 6 → ∀ M, N = some M → (∃ host, (own, i, j_y M, host) ∈ NW) ∧ Cond.static (j_y M) ∈ WG)
def j_Pok (WG : List Cond) (cl : List vw_C) (RN : String) (NW : j_NL) (P : j_P) : Prop :=
  (∀ w ∈ WG, (w.onTables && w.keeps) = true ∨ ∃ ty, w = .arrayClass ty) ∧
  (∃ r, cl[7]? = some r ∧ r.1 = RN) ∧
  (∀ mi M pc ins, j_meth P mi = some M → j_code P mi pc = some ins → ∃ len, decode (j_by M) pc = .ok (ins, len) ∧ (j_sw ins = true ∨ len = j_ln ins)) ∧
  (∀ mi M, j_meth P mi = some M → j_Mok WG M) ∧
  (∀ mi M i f, j_meth P mi = some M → j_fld P mi i = some f → j_Fok WG cl (j_y M).cls i f) ∧
  (∀ mi M i f, j_meth P mi = some M → j_nw P mi i = some f → j_Nok WG cl (j_y M).cls i f) ∧
  (∀ mi M i v, j_meth P mi = some M → j_ldc P mi i = some v → j_Kok WG (j_y M).cls i v) ∧
  (∀ mi M i, j_meth P mi = some M → j_anw P mi i = true → Cond.classLink (j_y M).cls i RN ∈ WG) ∧
  (Cond.arrayClass .byte ∈ WG ∧ Cond.arrayClass .int ∈ WG ∧ Cond.arrayClass .long ∈ WG) ∧
  (∀ mi M i md x, j_meth P mi = some M → j_cal P mi i = some (md, x) → j_Cok WG cl NW (j_y M).cls i md (j_meth P x))
/-- a frame of the method M -/
def j_cx (WG : List Cond) (cl : List vw_C) (RN : String) (NW : j_NL) (M : j_M) (D : va_G) (g : j_G) (p : Program) (s : State) (m : MethodId) (args : Array Value) (meth : Method) (c : Code) : Prop :=
  p.tables.exec = Jvm.exec ∧ c.code = j_by M ∧ meth.sig.returnType = j_rt M ∧ c.maxLocals = j_nL M ∧ s.vm.findClass (j_y M).cls = some m.cls ∧ (∀ w ∈ WG, w.before args s = true) ∧ meth.locks = false ∧ (j_in M = true → meth.name = "<init>") ∧ va_K D cl (j_tys RN g) s ∧ j_NW NW s ∧ va_AO RN s
theorem j_args (b : Nat) : ∀ (i : Nat) (As : List Value), lv_args i (As.map (j_v b)) = j_lv b (lv_args i As)
  | _, [] => rfl
  | i, v :: r => by
    simp only [List.map_cons, lv_args, j_v_cat, j_lv]
    rw [j_args b _ r]
    rfl
theorem j_lgsl (b : Nat) : ∀ As : List Value, (lg_sl (As.map (j_v b))).length = (lg_sl As).length
  | [] => rfl
  | v :: r => by
    have h := j_lgsl b r
    simp only [lg_sl, List.map_cons, List.flatMap_cons, List.length_append, j_v_cat] at h ⊢
    rw [h]
    by_cases hc : v.category = 2 <;> simp [hc]
/-- the start and the end of a call of J -/
def j_Pre (cl : List vw_C) (RN : String) (NW : j_NL) (D : va_G) (g : j_G) (b sz : Nat) (h : J_H) (U : State) : Prop :=
  U.heap.size = sz ∧ va_P D cl (j_ws g b h) U.heap ∧ va_K D cl (j_tys RN g) U ∧ j_NW NW U ∧ va_AO RN U
def j_Post (cl : List vw_C) (D : va_G) (g : j_G) (b sz : Nat) (h hf : J_H) (r : Option Value) : Array Value → State → Outcome → State → Prop := fun _ st o t =>
  o = .returned (r.map (j_v b)) ∧ va_P D cl (j_ws g b hf) t.heap ∧ va_F (j_A b h.length sz) st t
theorem j_blind {cl : List vw_C} {RN : String} {NW : j_NL} {D : va_G} {g : j_G} {b sz : Nat} {h : J_H} {As : List Value} : FrameBlind (va_Pc As (j_Pre cl RN NW D g b sz h)) := by
  intro a U gg mk q
  obtain ⟨q0, q1, qP, qK, qN, qA⟩ := q
  exact ⟨q0, q1, qP, va_K.moved (u := U) (U := U.calling gg mk a) (Vm.Alike.refl U.vm) qK, fun w hw => va_Nw.same rfl (rfl : U.vm = (U.calling gg mk a).vm) (qN w hw), va_AO.moved (u := U) (U := U.calling gg mk a) (Vm.Alike.refl U.vm) qA⟩
section JSOUND
variable {WG : List Cond} {cl : List vw_C} {RN : String} {NW : j_NL} {P : j_P} {D : va_G} {g : j_G} {b : Nat} {l : Launch}
/-- what is to be shown of a frame, for the fuel f -/
def j_Goal (WG : List Cond) (cl : List vw_C) (RN : String) (NW : j_NL) (P : j_P) (D : va_G) (g : j_G) (b : Nat) (l : Launch) (f : Nat) : Prop :=
  ∀ (d mi pc : Nat) (lv : J_L) (st : List Value) (h : J_H) (r : Option Value) (hf : J_H), j_run P f d mi pc lv st h = some (r, hf) → ∀ M, j_meth P mi = some M →
  ∀ (p : Program) (e : Env) (R : Room) (s : State) (m : MethodId) (args : Array Value) (below : List Frame) (meth : Method) (c : Code) (H : Heap) (locs : List Loc) (ls : Array Slot) (A : Nat → Prop) (n0 s0 : Nat) (Qc : Array Value → State → Outcome → State → Prop),
    j_cx WG cl RN NW M D g p s m args meth c → R.frames = d + 1 → R.locals = (d + 1) * 30 → R.cells = hf.length - n0 → R.slots = j_sl hf - s0 → n0 ≤ h.length → s0 ≤ j_sl h → lv_has ls (j_nL M) (j_lv b lv) → va_P D cl (j_ws g b h) H → va_S A s.heap H locs →
    (∀ q, b ≤ q → q < b + h.length → A q) → (∀ q, s.heap.size ≤ q → A q) → (s.heap.size = b + n0 ∨ hf.length = h.length) →
    (∀ t : State, va_P D cl (j_ws g b hf) t.heap → va_F A s t → Qc args s (.returned (r.map (j_v b))) t) →
    W p l e R s m args below meth c H locs (h.length - n0) (j_sl h - s0) (MQ below Qc args s (hf.length - n0) (j_sl hf - s0) A) (F0 m pc ls (j_st b st))
set_option maxHeartbeats 4000000 in
theorem j_met_of {f : Nat} (hPk : j_Pok WG cl RN NW P) (IH : j_Goal WG cl RN NW P D g b l f) {d mi : Nat} {M : j_M} {As : List Value} {h hf : J_H} {r : Option Value} {sz : Nat} (hj : j_run P f d mi 0 (lv_args 0 As) [] h = some (r, hf)) (hM : j_meth P mi = some M) (hlen : (lg_sl As).length ≤ j_nL M) (hsz : sz = b + h.length ∨ hf.length = h.length) :
    Met l (j_y M) (Cond.code (j_y M) (j_by M) (j_nL M) (j_rt M) :: WG) ({ frames := d + 1, cells := hf.length - h.length, slots := j_sl hf - j_sl h, locals := (d + 1) * 30 }) (va_Pc (As.map (j_v b)) (j_Pre cl RN NW D g b sz h)) (j_Post cl D g b sz h hf r) (hf.length - h.length) (j_sl hf - j_sl h) (j_A b h.length sz) := by
  obtain ⟨m1, m2, m3, m4, m5, m6⟩ := hPk.2.2.2.1 mi M hM
  refine Met.ofW (cc := j_by M) (maxL := j_nL M) (ret := j_rt M) m1 rfl ?_
  intro p e s m args below meth c s₁ B hml hv
  obtain ⟨rfl, hs, hP, hK, hN, hAO⟩ := hv
  have hts := atoms_spec (ws := Cond.code (j_y M) (j_by M) (j_nL M) (j_rt M) :: WG) B.pre
  have hl := lv_entry (As.map (j_v b)) (n := j_nL M) (by rw [j_lgsl]; exact hlen)
  rw [lg_entry_eq]
  generalize (lg_sl (As.map (j_v b)) ++ List.replicate (j_nL M - (lg_sl (As.map (j_v b))).length) Slot.unset).toArray = ls at hl ⊢
  rw [j_args] at hl
  have e1 : h.length - h.length = 0 := Nat.sub_self _
  have e2 : j_sl h - j_sl h = 0 := Nat.sub_self _
  have w := IH d mi 0 (lv_args 0 As) [] h r hf hj M hM p e (headSpec (Cond.code (j_y M) (j_by M) (j_nL M) (j_rt M) :: WG) { frames := d + 1, cells := hf.length - h.length, slots := j_sl hf - j_sl h, locals := (d + 1) * 30 }).room s m (As.map (j_v b)).toArray below meth c s.heap [] ls (j_A b h.length sz) h.length (j_sl h) (j_Post cl D g b sz h hf r)
    ⟨B.exec, B.bytes, B.returns, hml, findClass_of_methodNamed B.named, fun w hw => hts w (List.mem_cons_of_mem _ hw), B.notSynchronized, fun hi => (name_of_methodNamed B.named B.method).1.trans (m2 hi), hK, hN, hAO⟩ rfl rfl rfl rfl (Nat.le_refl _) (Nat.le_refl _) hl hP va_S.rf (fun q h1 h2 => Or.inl ⟨h1, h2⟩) (fun q hq => Or.inr (by rw [← hs]; exact hq)) (by rw [hs]; exact hsz)
    (fun t a1 a2 => ⟨rfl, a1, a2⟩)
  rw [e1, e2] at w
  exact w
theorem j_goes {p : Program} {e : Env} {R : Room} {s : State} {m : MethodId} {args : Array Value} {below : List Frame} {meth : Method} {c : Code} {H : Heap} {locs : List Loc} {cells slots mc ms pc : Nat} {ls : Array Slot} {st0 rest : List Value} {Qa : State → Outcome → State → Prop} {free : Addr → Prop} {Q : State → Prop}
    (hr : va_Run p l e R s m args below meth c H locs cells slots mc ms (F0 m pc ls st0) rest Qa free)
    (kk : ∀ (v : Option Value) (st₀ t : State) (H1 : Heap) (L : List Loc), st₀.heap = H → t.heap = H1 → Qa st₀ (.returned v) t → (∀ q ∈ L, free q.base) → W p l e R s m args below meth c H1 (locs ++ L) (cells + mc) (slots + ms) Q (F0 m (pc + 3) ls (v.toList ++ rest))) : W p l e R s m args below meth c H locs cells slots Q (F0 m pc ls st0) := by
  intro T hT X
  obtain ⟨v, st₀, t, T', L, h0, X', hL, e1, e2, hq, st⟩ := hr T hT X
  obtain ⟨t2, a1, b1⟩ := kk v st₀ t T'.heap L h0 e1.symm hq hL T' rfl X'
  exact ⟨t2, st t2 a1, b1⟩
theorem j_rst (r : Option Value) (rest : List Value) : (r.map (j_v b)).toList ++ j_st b rest = j_st b (r.toList ++ rest) := by cases r <;> rfl
theorem j_spl_ok {md : Nat} {N : j_M} {h : J_H} {st As rest : List Value} (hj : j_spl md N h st = some (As, rest)) : st = As.reverse ++ rest ∧ As.length = j_nar md (j_np N) ∧ (rest.map fun v => v.category).sum ≤ 8 ∧ (lg_sl As).length ≤ j_nL N ∧ j_rcv md (j_ci N) h As = true := by
  unfold j_spl at hj
  split at hj
  · rename_i hi
    obtain ⟨i1, i2, i3, i4⟩ := hi
    cases hj
    refine ⟨by simp, by simp [List.length_take]; omega, i2, i3, i4⟩
  · cases hj
end JSOUND
end
section
section JMAIN
variable {WG : List Cond} {cl : List vw_C} {RN : String} {NW : j_NL} {P : j_P} {D : va_G} {g : j_G} {b : Nat} {l : Launch}
theorem j_size {p : Program} {e : Env} {R : Room} {s : State} {m : MethodId} {args : Array Value} {below : List Frame} {meth : Method} {c : Code} {H : Heap} {locs : List Loc} {cells slots : Nat} {Q : State → Prop} {gg : JFrame}
    (k : H.size ≤ s.heap.size + cells → W p l e R s m args below meth c H locs cells slots Q gg) : W p l e R s m args below meth c H locs cells slots Q gg :=
  fun T hT X => k (by rw [← hT]; exact X.heapSize) T hT X
theorem j_lb {h : J_H} {H H0 : Heap} {A : Nat → Prop} {locs : List Loc} (hP : va_P D cl (j_ws g b h) H) (hS : va_S A H0 H locs) (hb : b ≤ H0.size) : b + h.length ≤ H.size := by
  by_cases h0 : h.length = 0
  · have := hS.1
    omega
  · have hk : h.length - 1 < h.length := by omega
    have := (hP _ _ (j_ws_at (g := g) (b := b) (List.getElem?_eq_getElem hk))).lt
    simp only at this
    omega
theorem j_arr_cl {a : ArrayType} {n : Nat} {c : J_C} (h : j_arr a n = some c) : j_cl c = n := by
  unfold j_arr at h
  split at h <;> first | (cases h; simp [j_cl]) | cases h
set_option maxHeartbeats 4000000 in
theorem j_obj_ok (hPk : j_Pok WG cl RN NW P) {mi : Nat} {M : j_M} (hM : j_meth P mi = some M) {p : Program} {e : Env} {R : Room} {s : State} {m : MethodId} {args : Array Value} {below : List Frame} {meth : Method} {c : Code} {H : Heap} {locs : List Loc} {ls : Array Slot} {A : Nat → Prop} {n0 s0 pc : Nat} {Q : State → Prop} {ins : Instr} {st st' : List Value} {h h' : J_H}
    (hcx : j_cx WG cl RN NW M D g p s m args meth c) (hd : decode (j_by M) pc = .ok (ins, j_ln ins)) (hj : j_obj P mi (j_in M) ins st h = some (st', h')) (hRc : h'.length - n0 ≤ R.cells) (hRs : j_sl h' - s0 ≤ R.slots) (hn : n0 ≤ h.length) (hs : s0 ≤ j_sl h) (hP : va_P D cl (j_ws g b h) H) (hS : va_S A s.heap H locs) (hD : ∀ q, b ≤ q → q < b + h.length → A q) (hA : ∀ q, s.heap.size ≤ q → A q) (hal : s.heap.size = b + n0 ∨ h'.length = h.length)
    (k : ∀ (H1 : Heap) (locs1 : List Loc), va_P D cl (j_ws g b h') H1 → va_S A s.heap H1 locs1 → W p l e R s m args below meth c H1 locs1 (h'.length - n0) (j_sl h' - s0) Q (F0 m (pc + j_ln ins) ls (j_st b st'))) :
    W p l e R s m args below meth c H locs (h.length - n0) (j_sl h - s0) Q (F0 m pc ls (j_st b st)) := by
  obtain ⟨hx, hb, hr, hml, hown, hts, hlocks, hI, hK, hN, hAO⟩ := hcx
  obtain ⟨p1, p2, p3, p4, p5, p6, p7, p8, p9, p10⟩ := hPk
  unfold j_obj at hj
  split at hj
  · rename_i i
    obtain ⟨x, hx1, he⟩ := Option.map_eq_some_iff.mp hj
    cases he
    exact j_get_ok hx hb hts hown hK hP (fun f hf => p5 mi M i f hM hf) hd hx1 (k H locs hP hS)
  · rename_i i
    obtain ⟨e1, e2⟩ := j_put_sl hj
    rw [e1, e2] at k
    exact j_put_ok hx hb hts hown hK hP hD hS (fun f hf => p5 mi M i f hM hf) hI hd hj (fun H1 locs1 a1 a2 _ => k H1 locs1 a1 a2)
  · rename_i i
    obtain ⟨f, hf, he⟩ := Option.map_eq_some_iff.mp hj
    cases he
    have hal : s.heap.size = b + n0 := hal.resolve_right (by simp)
    refine j_size fun hz => ?_
    have hlb := j_lb hP hS (by omega)
    have hsl := j_sl_push h (.inl f)
    simp only [List.length_append, List.length_singleton] at hRc k
    refine j_new_ok hx hb hts hown hK hP hS (by omega) (p6 mi M i f hM hf) hd (by omega) (by simp only [j_cl] at hsl; omega) (fun H1 a1 a2 _ => ?_)
    have w := k H1 locs a1 a2
    rw [hsl, show h.length + 1 - n0 = h.length - n0 + 1 by omega, show j_sl h + j_cl (Sum.inl f) - s0 = j_sl h - s0 + f.2.length by simp only [j_cl]; omega] at w
    exact w
  · rename_i a
    split at hj
    · rename_i n r
      split at hj
      · rename_i hi
        obtain ⟨cell, hc, he⟩ := Option.map_eq_some_iff.mp hj
        cases he
        have hal : s.heap.size = b + n0 := hal.resolve_right (by simp)
        refine j_size fun hz => ?_
        have hlb := j_lb hP hS (by omega)
        have hsl := j_sl_push h cell
        rw [j_arr_cl hc] at hsl
        simp only [List.length_append, List.length_singleton] at hRc k
        have hw : Cond.arrayClass (newarray.typeOf a) ∈ WG := by
          cases a <;> first | exact p9.1 | exact p9.2.1 | exact p9.2.2 | (cases hc)
        refine j_newa_ok hx hb hts hK hP hS (by omega) hw hc hi.1 hi.2 hd (by omega) (by omega) (fun H1 a1 a2 _ => ?_)
        have w := k H1 locs a1 a2
        rw [hsl, show h.length + 1 - n0 = h.length - n0 + 1 by omega, show j_sl h + n.toNatClampNeg - s0 = j_sl h - s0 + n.toNatClampNeg by omega] at w
        exact w
      · cases hj
    · cases hj
  · rename_i i
    split at hj
    · rename_i n r
      split at hj
      · rename_i hi
        cases hj
        have hal : s.heap.size = b + n0 := hal.resolve_right (by simp)
        refine j_size fun hz => ?_
        have hlb := j_lb hP hS (by omega)
        have hsl := j_sl_push h (.inr (.inr (.inr (List.replicate n.toNatClampNeg none))))
        simp only [j_cl, List.length_replicate] at hsl
        simp only [List.length_append, List.length_singleton] at hRc k
        refine j_newq_ok hx hb hts hown hK hP hS (by omega) (p8 mi M i hM hi.1) hAO hi.2.1 hi.2.2 hd (by omega) (by omega) (fun H1 a1 a2 _ => ?_)
        have w := k H1 locs a1 a2
        rw [hsl, show h.length + 1 - n0 = h.length - n0 + 1 by omega, show j_sl h + n.toNatClampNeg - s0 = j_sl h - s0 + n.toNatClampNeg by omega] at w
        exact w
      · cases hj
    · cases hj
  · cases hj
set_option maxHeartbeats 4000000 in
theorem j_one_ok (hPk : j_Pok WG cl RN NW P) {mi : Nat} {M : j_M} (hM : j_meth P mi = some M) {p : Program} {e : Env} {R : Room} {s : State} {m : MethodId} {args : Array Value} {below : List Frame} {meth : Method} {c : Code} {H : Heap} {locs : List Loc} {ls : Array Slot} {A : Nat → Prop} {n0 s0 pc pc' len : Nat} {Q : State → Prop} {ins : Instr} {lv lv' : J_L} {st st' : List Value} {h h' : J_H}
    (hcx : j_cx WG cl RN NW M D g p s m args meth c) (hd : decode (j_by M) pc = .ok (ins, len)) (hlen : j_sw ins = true ∨ len = j_ln ins) (hj : j_one P mi (j_nL M) (j_in M) pc ins lv st h = some (pc', lv', st', h')) (hRc : h'.length - n0 ≤ R.cells) (hRs : j_sl h' - s0 ≤ R.slots) (hn : n0 ≤ h.length) (hs : s0 ≤ j_sl h) (hl : lv_has ls (j_nL M) (j_lv b lv)) (hP : va_P D cl (j_ws g b h) H) (hS : va_S A s.heap H locs) (hD : ∀ q, b ≤ q → q < b + h.length → A q) (hA : ∀ q, s.heap.size ≤ q → A q) (hal : s.heap.size = b + n0 ∨ h'.length = h.length)
    (k : ∀ (H1 : Heap) (locs1 : List Loc) (ls1 : Array Slot), lv_has ls1 (j_nL M) (j_lv b lv') → va_P D cl (j_ws g b h') H1 → va_S A s.heap H1 locs1 → W p l e R s m args below meth c H1 locs1 (h'.length - n0) (j_sl h' - s0) Q (F0 m pc' ls1 (j_st b st'))) :
    W p l e R s m args below meth c H locs (h.length - n0) (j_sl h - s0) Q (F0 m pc ls (j_st b st)) := by
  have hcx0 := hcx
  obtain ⟨hx, hb, hr, hml, hown, hts, hlocks, hI, hK, hN, hAO⟩ := hcx
  have nosw : j_kd ins ≠ 4 → len = j_ln ins := fun hk => hlen.elim (fun q => by
    unfold j_sw at q
    split at q
    · exact absurd rfl hk
    · exact absurd rfl hk
    · cases q) id
  unfold j_one at hj
  split at hj
  · rename_i hk
    obtain ⟨x, hx1, he⟩ := Option.map_eq_some_iff.mp hj
    cases he
    obtain rfl := nosw (by rw [hk]; decide)
    exact j_stk_ok hx hb b hd hx1 (k H locs ls hl hP hS)
  · rename_i hk
    obtain ⟨x, hx1, he⟩ := Option.map_eq_some_iff.mp hj
    cases he
    obtain rfl := nosw (by rw [hk]; decide)
    exact j_lod_ok hx hb b hl hd hx1 (k H locs ls hl hP hS)
  · rename_i hk
    obtain ⟨x, hx1, he⟩ := Option.map_eq_some_iff.mp hj
    cases he
    obtain rfl := nosw (by rw [hk]; decide)
    exact j_sto_ok hx hb b hl hd hx1 (fun ls1 hl1 => k H locs ls1 hl1 hP hS)
  · rename_i hk
    obtain ⟨x, hx1, he⟩ := Option.map_eq_some_iff.mp hj
    cases he
    obtain rfl := nosw (by rw [hk]; decide)
    exact j_inc_ok hx hb b hl hd hx1 (fun ls1 hl1 => k H locs ls1 hl1 hP hS)
  · obtain ⟨x, hx1, he⟩ := Option.map_eq_some_iff.mp hj
    cases he
    exact j_br_ok hx hb b hd hlen hx1 (k H locs ls hl hP hS)
  · rename_i hk
    obtain ⟨x, hx1, he⟩ := Option.map_eq_some_iff.mp hj
    cases he
    obtain rfl := nosw (by rw [hk]; decide)
    exact j_ald_ok hx hb hK hP hd hx1 (k H locs ls hl hP hS)
  · rename_i hk
    obtain ⟨x, hx1, he⟩ := Option.map_eq_some_iff.mp hj
    cases he
    obtain rfl := nosw (by rw [hk]; decide)
    obtain ⟨e1, e2⟩ := j_ast_sl hx1
    rw [e1, e2] at k
    exact j_ast_ok hx hb hK hP hD hS hPk.2.1 hd hx1 (fun H1 locs1 a1 a2 _ => k H1 locs1 ls hl a1 a2)
  · rename_i hk
    obtain ⟨x, hx1, he⟩ := Option.map_eq_some_iff.mp hj
    cases he
    obtain rfl := nosw (by rw [hk]; decide)
    exact j_obj_ok hPk hM hcx0 hd hx1 hRc hRs hn hs hP hS hD hA hal (fun H1 locs1 a1 a2 => k H1 locs1 ls hl a1 a2)
  · rename_i hk
    obtain ⟨x, hx1, he⟩ := Option.map_eq_some_iff.mp hj
    cases he
    obtain rfl := nosw (by rw [hk]; decide)
    exact j_ldk_ok hx hb hts hown (fun i v hv => hPk.2.2.2.2.2.2.1 mi M i v hM hv) hd hx1 (k H locs ls hl hP hS)
  · cases hj
/-- an answer -/
theorem j_ret_ok {M : j_M} {p : Program} {e : Env} {R : Room} {s : State} {m : MethodId} {args : Array Value} {below : List Frame} {meth : Method} {c : Code} {H : Heap} {locs : List Loc} {ls : Array Slot} {A : Nat → Prop} {cells slots pc : Nat} {Qc : Array Value → State → Outcome → State → Prop} {ins : Instr} {st : List Value} {r : Option Value}
    (hcx : j_cx WG cl RN NW M D g p s m args meth c) (hd : decode (j_by M) pc = .ok (ins, j_ln ins)) (hj : j_ret (j_rt M) ins st = some r) (hS : va_S A s.heap H locs) (hq : ∀ t : State, t.heap = H → Qc args s (.returned (r.map (j_v b))) t) :
    W p l e R s m args below meth c H locs cells slots (MQ below Qc args s cells slots A) (F0 m pc ls (j_st b st)) := by
  obtain ⟨hx, hb, hr, hml, hown, hts, hlocks, hI, hK, hN, hAO⟩ := hcx
  unfold j_ret at hj
  split at hj
  · rename_i v ty hrt
    split at hj
    · rename_i hf
      cases hj
      exact W.zret hx hb (hr.trans hrt) (j_fit_ok b hf).1 (fun t ht _ => hq t ht) hS.2.2 hd
    · cases hj
  · rename_i v hrt
    cases hj
    exact W.lret hx hb (hr.trans hrt) (fun t ht _ => hq t ht) hS.2.2 hd
  · rename_i q n hrt
    cases hj
    exact W.aret hx hb (hr.trans hrt) (Or.inl ⟨_, rfl⟩) (Or.inr ⟨b + q, rfl⟩) (fun t ht _ => hq t ht) hS.2.2 hd
  · rename_i q n hrt
    cases hj
    exact W.aret hx hb (hr.trans hrt) (Or.inr ⟨_, rfl⟩) (Or.inr ⟨b + q, rfl⟩) (fun t ht _ => hq t ht) hS.2.2 hd
  · rename_i hrt
    cases hj
    exact W.vret hx hb (hr.trans hrt) (fun t ht _ => hq t ht) hS.2.2 hd
  · cases hj
end JMAIN
end
section
section JCALL
variable {WG : List Cond} {cl : List vw_C} {RN : String} {NW : j_NL} {P : j_P} {D : va_G} {g : j_G} {b : Nat} {l : Launch}
theorem j_inv_md {mi : Nat} {ins : Instr} {md mj : Nat} (h : j_inv P mi ins = some (md, mj)) : ∃ i, j_cal P mi i = some (md, mj) ∧ ((ins = .invokespecial i ∧ (md = 0 ∨ md = 4 ∨ md = 5)) ∨ (ins = .invokestatic i ∧ (md = 1 ∨ md = 2 ∨ md = 6)) ∨ (ins = .invokevirtual i ∧ md = 3)) := by
  unfold j_inv at h
  split at h
  · split at h <;> first | (cases h; done) | (rename_i hc; cases h; exact ⟨_, hc, Or.inl ⟨rfl, by omega⟩⟩)
  · split at h <;> first | (cases h; done) | (rename_i hc; cases h; exact ⟨_, hc, Or.inr (Or.inl ⟨rfl, by omega⟩)⟩)
  · split at h <;> first | (cases h; done) | (rename_i hc; cases h; exact ⟨_, hc, Or.inr (Or.inr ⟨rfl, rfl⟩)⟩)
  · cases h
set_option maxHeartbeats 4000000 in
theorem j_call_ok (hPk : j_Pok WG cl RN NW P) {mi : Nat} {M : j_M} (hM : j_meth P mi = some M) {f d : Nat} (IH : j_Goal WG cl RN NW P D g b l f) {p : Program} {e : Env} {R : Room} {s : State} {m : MethodId} {args : Array Value} {below : List Frame} {meth : Method} {c : Code} {H : Heap} {locs : List Loc} {ls : Array Slot} {A : Nat → Prop} {n0 s0 pc md mj : Nat} {Q : State → Prop} {ins : Instr} {N : j_M} {st As rest : List Value} {h h1 : J_H} {r : Option Value}
    (hcx : j_cx WG cl RN NW M D g p s m args meth c) (hls : ls.size = j_nL M) (hd : decode (j_by M) pc = .ok (ins, 3)) (hi : j_inv P mi ins = some (md, mj)) (hmd : md ≠ 0 ∧ md ≠ 1) (hN : j_meth P mj = some N) (hsp : j_spl md N h st = some (As, rest)) (hj : j_run P f d mj 0 (lv_args 0 As) [] h = some (r, h1))
    (hRf : R.frames = d + 2) (hRl : R.locals = (d + 2) * 30) (hRc : h1.length - n0 ≤ R.cells) (hRs : j_sl h1 - s0 ≤ R.slots) (hn : n0 ≤ h.length) (hs : s0 ≤ j_sl h) (hP : va_P D cl (j_ws g b h) H) (hS : va_S A s.heap H locs) (hD : ∀ q, b ≤ q → q < b + h.length → A q) (hA : ∀ q, s.heap.size ≤ q → A q) (hal : s.heap.size = b + n0 ∨ h1.length = h.length)
    (k : ∀ (H1 : Heap) (locs1 : List Loc), va_P D cl (j_ws g b h1) H1 → va_S A s.heap H1 locs1 → W p l e R s m args below meth c H1 locs1 (h1.length - n0) (j_sl h1 - s0) Q (F0 m (pc + 3) ls (j_st b (r.toList ++ rest)))) :
    W p l e R s m args below meth c H locs (h.length - n0) (j_sl h - s0) Q (F0 m pc ls (j_st b st)) := by
  obtain ⟨hx, hb, hr, hml, hown, hts, hlocks, hI, hK, hNW, hAO⟩ := hcx
  obtain ⟨hst, hAl, hcat, hlg, hrc⟩ := j_spl_ok hsp
  obtain ⟨mo1, mo2⟩ := j_mono P _ _ _ _ _ _ _ _ _ hj
  obtain ⟨m1, m2, m3, m4, m5, m6⟩ := hPk.2.2.2.1 mj N hN
  obtain ⟨i, hcal, hins⟩ := j_inv_md hi
  have hC := hPk.2.2.2.2.2.2.2.2.2 mi M i md mj hM hcal
  rw [hN] at hC
  obtain ⟨-, -, c2, c3, c4, c5, c6⟩ := hC
  refine j_size fun hz => ?_
  have hal2 : H.size = b + h.length ∨ h1.length = h.length := hal.elim (fun z => by
    have := j_lb hP hS (by omega)
    exact Or.inl (by omega)) Or.inr
  have hMet := j_met_of (sz := H.size) hPk IH hj hN hlg hal2
  have hG : GoodIn WG (Cond.code (j_y N) (j_by N) (j_nL N) (j_rt N) :: WG) := fun w hw => by
    have hw' : w ∈ WG := (List.mem_cons.mp hw).elim (fun z => by rw [z]; exact m3) id
    exact ⟨hw', hPk.1 w hw'⟩
  have hfix : CallFix p m c (j_by M) (j_nL M) s args WG (j_y M).cls := ⟨hx, hb, hml, hown, hts⟩
  have hRoom : ({ frames := d + 1, cells := h1.length - h.length, slots := j_sl h1 - j_sl h, locals := (d + 1) * 30 } : Room).frames + 1 ≤ R.frames ∧ 8 + (j_nL N + 11) + ({ frames := d + 1, cells := h1.length - h.length, slots := j_sl h1 - j_sl h, locals := (d + 1) * 30 } : Room).locals ≤ R.locals := ⟨by rw [hRf]; exact Nat.le_refl _, by rw [hRl]; show 8 + (j_nL N + 11) + (d + 1) * 30 ≤ _; omega⟩
  have hpre : ∀ U : State, U.heap = H → s.WarmedH U.vm → va_Pc (As.map (j_v b)) (j_Pre cl RN NW D g b H.size h) (As.map (j_v b)).toArray U := fun U hU hW => ⟨rfl, by rw [hU], by rw [hU]; exact hP, va_K.moved hW.alike hK, fun w hw => va_Nw.warmM hW (hNW w hw), va_AO.moved hW.alike hAO⟩
  have hcat' : 2 * (F0 m pc ls (j_st b st)).monitorRoom + ((j_st b rest).map fun v => v.category).sum ≤ 8 := by
    rw [j_st_cat]
    show 2 * 0 + _ ≤ 8
    omega
  have hfit : h.length - n0 + (h1.length - h.length) ≤ R.cells ∧ j_sl h - s0 + (j_sl h1 - j_sl h) ≤ R.slots := ⟨by omega, by omega⟩
  have fin : va_Run p l e R s m args below meth c H locs (h.length - n0) (j_sl h - s0) (h1.length - h.length) (j_sl h1 - j_sl h) (F0 m pc ls (j_st b st)) (j_st b rest) (j_Post cl D g b H.size h h1 r (As.map (j_v b)).toArray) (j_A b h.length H.size) → W p l e R s m args below meth c H locs (h.length - n0) (j_sl h - s0) Q (F0 m pc ls (j_st b st)) := by
    intro hr
    refine j_goes hr fun v st₀ t H1 L h0 ht hq hL => ?_
    obtain ⟨q1, q2, q3, q4⟩ := hq
    cases q1
    rw [j_rst]
    rw [ht] at q2
    rw [h0] at q3 q4
    have w := k H1 (locs ++ L) q2 ⟨Nat.le_trans hS.1 (by rw [← ht]; exact q3), fun q z1 z2 => by
        rw [← ht, q4 q (Nat.lt_of_lt_of_le z1 hS.1) (fun y => y.elim (fun y => z2 (hD q y.1 y.2)) (fun y => by have := hS.1; omega))]
        exact hS.2.1 q z1 z2, fun q hq => by
        rcases List.mem_append.mp hq with y | y
        · exact hS.2.2 q y
        · exact (hL q y).elim (fun y => hD _ y.1 y.2) (fun y => hA _ (Nat.le_trans hS.1 y))⟩
    rw [show h1.length - n0 = h.length - n0 + (h1.length - h.length) by omega, show j_sl h1 - s0 = j_sl h - s0 + (j_sl h1 - j_sl h) by omega] at w
    exact w
  rcases hins with ⟨rfl, hm⟩ | ⟨rfl, hm⟩ | ⟨rfl, hm⟩
  · -- invokespecial: a constructor
    obtain ⟨v0, As', rfl⟩ : ∃ v0 As', As = v0 :: As' := by
      cases As with
      | nil => exact absurd hAl (by rcases hm with h | h | h <;> subst h <;> simp [j_nar])
      | cons v0 As' => exact ⟨v0, As', rfl⟩
    obtain ⟨q0, rfl⟩ : ∃ q0, v0 = .ref q0 := by
      rcases hm with h | h | h
      · exact absurd h hmd.1
      · subst h; cases v0 <;> first | exact ⟨_, rfl⟩ | (exact absurd hrc (by simp [j_rcv]))
      · subst h; cases v0 <;> first | exact ⟨_, rfl⟩ | (exact absurd hrc (by simp [j_rcv]))
    have hlen : (As'.map (j_v b)).length = j_np N := by
      have : j_nar md (j_np N) = j_np N + 1 := by rcases hm with h | h | h <;> subst h <;> simp [j_nar]
      simp only [List.length_cons, this] at hAl
      simp only [List.length_map]
      omega
    have hstack : (F0 m pc ls (j_st b st)).stack = (As'.map (j_v b)).reverse ++ .ref (b + q0) :: j_st b rest := by
      show j_st b st = _
      rw [hst]
      simp [j_st, j_v]
    rcases hm with h | h | h
    · exact absurd h hmd.1
    · subst h
      obtain ⟨w1, w2, w3, w4⟩ := c4 rfl N rfl
      rw [w4] at hMet hG m3
      refine fin (va_runI (As := As'.map (j_v b)) (b := b + q0) (rest := j_st b rest) hfix hMet ⟨callB_of (j_np N) hts hG rfl rfl rfl (hts _ m6) (hts _ w1) m4 hRoom, w3, hts _ w2⟩ ⟨j_blind, hpre⟩ rfl hlen hls hstack hcat' hd hfit)
    · subst h
      obtain ⟨⟨host, w1⟩, w2, w3, w4⟩ := c5 rfl N rfl
      rw [w4] at hMet hG m3
      refine fin (va_runIN (host := host) (As := As'.map (j_v b)) (b := b + q0) (rest := j_st b rest) hfix hMet ⟨va_cnB (j_np N) hts hG rfl rfl rfl (hNW _ w1) (hts _ m6) m4 hRoom, w3, hts _ w2⟩ ⟨j_blind, hpre⟩ rfl hlen hls hstack hcat' hd hfit)
  · -- invokestatic
    rcases hm with h | h | h
    · exact absurd h hmd.2
    · subst h
      obtain ⟨w1, w2⟩ := c2 rfl N rfl
      refine fin (va_runS (As := As.map (j_v b)) (rest := j_st b rest) hfix hMet ⟨callB_of (j_np N) hts hG rfl rfl rfl (hts _ m6) (hts _ w1) m4 hRoom, hts _ w2⟩ ⟨j_blind, hpre⟩ rfl (by rw [List.length_map, hAl]; rfl) hls (by show j_st b st = _; rw [hst]; simp [j_st]) hcat' hd hfit)
    · subst h
      obtain ⟨⟨host, w1⟩, w2⟩ := c6 rfl N rfl
      refine fin (va_runSN (host := host) (As := As.map (j_v b)) (rest := j_st b rest) hfix hMet ⟨va_cnB (j_np N) hts hG rfl rfl rfl (hNW _ w1) (hts _ m6) m4 hRoom, hts _ w2, trivial⟩ ⟨j_blind, hpre⟩ rfl (by rw [List.length_map, hAl]; rfl) hls (by show j_st b st = _; rw [hst]; simp [j_st]) hcat' hd hfit)
  · -- invokevirtual
    subst hm
    obtain ⟨w1, w2, w3, qc, w4, w5⟩ := c3 rfl N rfl
    obtain ⟨v0, As', rfl⟩ : ∃ v0 As', As = v0 :: As' := by
      cases As with
      | nil => exact absurd hAl (by simp [j_nar])
      | cons v0 As' => exact ⟨v0, As', rfl⟩
    obtain ⟨q0, rfl⟩ : ∃ q0, v0 = .ref q0 := by
      cases v0 <;> first | exact ⟨_, rfl⟩ | (exact absurd hrc (by simp [j_rcv]))
    obtain ⟨fs, hfs⟩ : ∃ fs, h[q0]? = some (.inl (j_ci N, fs)) := by
      simp only [j_rcv] at hrc
      split at hrc
      · rename_i ci fs hq
        exact ⟨fs, by rw [hq, of_decide_eq_true hrc]⟩
      · cases hrc
    have hlen : (As'.map (j_v b)).length = j_np N := by
      have : j_nar 3 (j_np N) = j_np N + 1 := by simp [j_nar]
      simp only [List.length_cons, this] at hAl
      simp only [List.length_map]
      omega
    have hstack : (F0 m pc ls (j_st b st)).stack = (As'.map (j_v b)).reverse ++ .ref (b + q0) :: j_st b rest := by
      show j_st b st = _
      rw [hst]
      simp [j_st, j_v]
    have hrv := va_recv hK hP (ci := j_ci N) (q0 := q0) w4 (j_ws_at hfs)
    rw [w5] at hrv
    refine fin (va_runV (As := As'.map (j_v b)) (b := b + q0) (rest := j_st b rest) hfix hMet ⟨callB_of (j_np N) hts hG rfl rfl rfl (hts _ m6) (hts _ w1) m4 hRoom, hts _ w2, hts _ w3⟩ ⟨j_blind, hrv, hpre⟩ rfl hlen hls hstack hcat' hd hfit)
end JCALL
end
section
section JALL
variable {WG : List Cond} {cl : List vw_C} {RN : String} {NW : j_NL} {P : j_P} {D : va_G} {g : j_G} {b : Nat} {l : Launch}
theorem j_inv_ln {mi : Nat} {ins : Instr} {x : Nat × Nat} (h : j_inv P mi ins = some x) : j_ln ins = 3 ∧ j_sw ins = false := by
  unfold j_inv at h
  split at h
  · exact ⟨rfl, rfl⟩
  · exact ⟨rfl, rfl⟩
  · exact ⟨rfl, rfl⟩
  · cases h
theorem j_ret_ln {rt : Option FieldType} {ins : Instr} {st : List Value} {x : Option Value} (h : j_ret rt ins st = some x) : j_sw ins = false := by
  unfold j_ret at h
  split at h <;> first | rfl | cases h
set_option maxHeartbeats 4000000 in
theorem j_all (hPk : j_Pok WG cl RN NW P) : ∀ f : Nat, j_Goal WG cl RN NW P D g b l f := by
  intro f
  induction f with
  | zero => intro d mi pc lv st h r hf hj; cases hj
  | succ f IH =>
    intro d mi pc lv st h r hf hj M hM p e R s m args below meth c H locs ls A n0 s0 Qc hcx hRf hRl hRc hRs hn hs hl hP hS hD hA hal hq
    have hcx0 := hcx
    obtain ⟨hx, hb, hr, hml, hown, hts, hlocks, hI, hK, hN, hAO⟩ := hcx
    have hml' : c.maxLocals = ls.size := by rw [hml, hl.1]
    unfold j_run at hj
    rw [hM] at hj
    split at hj
    · rename_i M' ins hM' hins
      cases hM'
      obtain ⟨len, hd, hlen⟩ := hPk.2.2.1 mi M pc ins hM hins
      split at hj
      · -- an answer
        obtain ⟨x, hx1, he⟩ := Option.map_eq_some_iff.mp hj
        cases he
        obtain rfl : len = j_ln ins := hlen.resolve_left (by rw [j_ret_ln hx1]; exact Bool.false_ne_true)
        exact j_ret_ok hcx0 hd hx1 hS (fun t ht => hq t (by rw [ht]; exact hP) (hS.F ht))
      · -- a call
        split at hj
        · rename_i x hi
          obtain ⟨e3, e4⟩ := j_inv_ln hi
          obtain rfl : len = 3 := (hlen.resolve_left (by rw [e4]; exact Bool.false_ne_true)).trans e3
          obtain ⟨i, hcal, hcase⟩ := j_inv_md hi
          have hC := hPk.2.2.2.2.2.2.2.2.2 mi M i 0 _ hM hcal
          split at hj
          · rename_i st' ho
            have w := IH d mi (pc + 3) lv st' h r hf hj M hM p e R s m args below meth c H locs ls A n0 s0 Qc hcx0 hRf hRl hRc hRs hn hs hl hP hS hD hA hal hq
            rcases hcase with ⟨rfl, -⟩ | ⟨-, h9⟩ | ⟨-, h9⟩
            · exact j_obi_ok hx hb hml' hts hown (hC.1 rfl) (by omega) (by omega) hd ho w
            · omega
            · omega
          · cases hj
        · rename_i x hi
          obtain ⟨e3, e4⟩ := j_inv_ln hi
          obtain rfl : len = 3 := (hlen.resolve_left (by rw [e4]; exact Bool.false_ne_true)).trans e3
          obtain ⟨i, hcal, hcase⟩ := j_inv_md hi
          have hC := hPk.2.2.2.2.2.2.2.2.2 mi M i 1 _ hM hcal
          split at hj
          · rename_i st' h' ho
            obtain ⟨e1, e2⟩ := j_acp_sl ho
            rcases hcase with ⟨-, h9⟩ | ⟨rfl, -⟩ | ⟨-, h9⟩
            · omega
            · refine j_acp_ok hx hb hml' hts hown hK hP hD hS (hC.2.1 rfl) (by omega) (by omega) hd ho (fun H1 locs1 a1 a2 => ?_)
              have w := IH d mi (pc + 3) lv st' h' r hf hj M hM p e R s m args below meth c H1 locs1 ls A n0 s0 Qc hcx0 hRf hRl hRc hRs (by omega) (by omega) hl a1 a2 (fun q z1 z2 => hD q z1 (by omega)) hA (by omega) hq
              rw [e1, e2] at w
              exact w
            · omega
          · cases hj
        · rename_i md mj n1 n2 hi
          obtain ⟨e3, e4⟩ := j_inv_ln hi
          obtain rfl : len = 3 := (hlen.resolve_left (by rw [e4]; exact Bool.false_ne_true)).trans e3
          split at hj
          · rename_i d' N hN'
            split at hj
            · rename_i As rest hsp
              split at hj
              · rename_i r1 h1 hc
                have hmo := j_mono P _ _ _ _ _ _ _ _ _ hc
                have hmo2 := j_mono P _ _ _ _ _ _ _ _ _ hj
                refine j_call_ok hPk hM IH hcx0 hl.1 hd hi ⟨fun z => ?_, fun z => ?_⟩ hN' hsp hc hRf hRl (by omega) (by omega) hn hs hP hS hD hA (by omega) (fun H1 locs1 a1 a2 => ?_)
                · exact n1 z
                · exact n2 z
                · refine j_size fun hz => ?_
                  refine IH (d' + 1) mi (pc + 3) lv (r1.toList ++ rest) h1 r hf hj M hM p e R s m args below meth c H1 locs1 ls A n0 s0 Qc hcx0 hRf hRl hRc hRs (by omega) (by omega) hl a1 a2 (fun q z1 z2 => ?_) hA (by omega) hq
                  by_cases hq9 : q < b + h.length
                  · exact hD q z1 hq9
                  · refine hA q ?_
                    rcases hal with z | z <;> omega
              · cases hj
            · cases hj
          · cases hj
        · cases hj
      · -- any other
        split at hj
        · rename_i pc' lv' st' h' ho
          have hmo := j_one_mono ho
          have hmo2 := j_mono P _ _ _ _ _ _ _ _ _ hj
          refine j_one_ok hPk hM hcx0 hd hlen ho (by omega) (by omega) hn hs hl hP hS hD hA (by omega) (fun H1 locs1 ls1 hl1 a1 a2 => ?_)
          refine IH d mi pc' lv' st' h' r hf hj M hM p e R s m args below meth c H1 locs1 ls1 A n0 s0 Qc hcx0 hRf hRl hRc hRs (by omega) (by omega) hl1 a1 a2 (fun q z1 z2 => ?_) hA (by omega) hq
          by_cases hq9 : q < b + h.length
          · exact hD q z1 hq9
          · refine hA q ?_
            rcases hal with z | z <;> omega
        · cases hj
    · cases hj
/-- A CALL OF J IS A CALL OF THE MACHINE -/
theorem j_met (hPk : j_Pok WG cl RN NW P) {f d mi : Nat} {M : j_M} {As : List Value} {h hf : J_H} {r : Option Value} {sz : Nat} (hj : j_run P f d mi 0 (lv_args 0 As) [] h = some (r, hf)) (hM : j_meth P mi = some M) (hlen : (lg_sl As).length ≤ j_nL M) (hsz : sz = b + h.length ∨ hf.length = h.length) :
    Met l (j_y M) (Cond.code (j_y M) (j_by M) (j_nL M) (j_rt M) :: WG) ({ frames := d + 1, cells := hf.length - h.length, slots := j_sl hf - j_sl h, locals := (d + 1) * 30 }) (va_Pc (As.map (j_v b)) (j_Pre cl RN NW D g b sz h)) (j_Post cl D g b sz h hf r) (hf.length - h.length) (j_sl hf - j_sl h) (j_A b h.length sz) :=
  j_met_of hPk (j_all hPk f) hj hM hlen hsz
end JALL
end

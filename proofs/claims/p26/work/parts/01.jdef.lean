/-! J: a small machine of our own, over lists, that the kit's machine follows. Cells: an object (its class's number, its fields), an array of ints (kind 0) or bytes (kind 1), of longs, of references. A reference k of J is the address b + k. -/
abbrev J_C : Type := (Nat × List Value) ⊕ ((Nat × List Int32) ⊕ ((List Int64) ⊕ (List (Option Nat))))
abbrev J_H : Type := List J_C
abbrev J_L : Type := List (Nat × Value)
def j_v (b : Nat) : Value → Value
  | .ref k => .ref (b + k)
  | v => v
def j_lv (b : Nat) (lv : J_L) : J_L := lv.map fun q => (q.1, j_v b q.2)
def j_st (b : Nat) (st : List Value) : List Value := st.map (j_v b)
theorem j_v_cat (b : Nat) (v : Value) : (j_v b v).category = v.category := by cases v <;> rfl
theorem j_st_cat (b : Nat) (st : List Value) : (j_st b st).map (fun v => v.category) = st.map (fun v => v.category) := by
  simp only [j_st, List.map_map]
  exact List.map_congr_left fun v _ => j_v_cat b v
/-- locals -/
def j_ld : J_L → Nat → Option Value
  | [], _ => none
  | (i, v) :: r, k => if i = k then some v else j_ld r k
def j_s1 (i : Nat) (v : Value) (lv : J_L) : J_L := (i, v) :: lv.filter (fun q => !(q.1 == i) && !(q.1 + 1 == i && q.2.category == 2))
def j_s2 (i : Nat) (v : Value) (lv : J_L) : J_L := (i, v) :: lv.filter (fun q => !(q.1 == i) && (!(q.1 == i + 1) && !(q.1 + 1 == i && q.2.category == 2)))
theorem j_ld_at {b : Nat} {k : Nat} {v : Value} : ∀ {lv : J_L}, j_ld lv k = some v → ∃ n : Nat, (j_lv b lv)[n]? = some (k, j_v b v)
  | [], h => by cases h
  | (i, w) :: r, h => by
    unfold j_ld at h
    by_cases hi : i = k
    · rw [if_pos hi] at h
      cases h
      exact ⟨0, by subst hi; rfl⟩
    · rw [if_neg hi] at h
      obtain ⟨n, hn⟩ := j_ld_at (b := b) h
      exact ⟨n + 1, hn⟩
theorem j_lv_s1 (b i : Nat) (v : Value) (lv : J_L) : (i, j_v b v) :: (j_lv b lv).filter (fun q => !(q.1 == i) && !(q.1 + 1 == i && q.2.category == 2)) = j_lv b (j_s1 i v lv) := by
  simp only [j_lv, j_s1, List.map_cons, List.filter_map, Function.comp_def, j_v_cat]
theorem j_lv_s2 (b i : Nat) (v : Value) (lv : J_L) : (i, j_v b v) :: (j_lv b lv).filter (fun q => !(q.1 == i) && (!(q.1 == i + 1) && !(q.1 + 1 == i && q.2.category == 2))) = j_lv b (j_s2 i v lv) := by
  simp only [j_lv, j_s2, List.map_cons, List.filter_map, Function.comp_def, j_v_cat]
/-- where a branch goes -/
def j_tgt (pc : Nat) (off : Int) : Option Nat := if 0 ≤ (pc : Int) + off then some ((pc : Int) + off).toNat else none
theorem j_tgt_ok {pc : Nat} {off : Int} {t : Nat} (h : j_tgt pc off = some t) : (pc : Int) + off = (t : Int) := by
  unfold j_tgt at h
  by_cases h0 : 0 ≤ (pc : Int) + off
  · rw [if_pos h0] at h
    have h1 := Option.some.inj h
    omega
  · rw [if_neg h0] at h
    cases h
def j_cond : ClassFile.Cond → Int32 → Int32 → Bool
  | .eq, x, y => decide (x = y)
  | .ne, x, y => !decide (x = y)
  | .lt, x, y => decide (x < y)
  | .ge, x, y => decide (y ≤ x)
  | .gt, x, y => decide (y < x)
  | .le, x, y => decide (x ≤ y)
/-- arithmetic of two ints -/
def j_bin : Instr → Int32 → Int32 → Option Int32
  | .iadd, x, y => some (x + y)
  | .isub, x, y => some (x - y)
  | .imul, x, y => some (x * y)
  | .iand, x, y => some (x &&& y)
  | .ior, x, y => some (x ||| y)
  | .ixor, x, y => some (x ^^^ y)
  | .ishl, x, y => some (x <<< (y &&& 31))
  | .ishr, x, y => some (x >>> (y &&& 31))
  | .iushr, x, y => some ((x.toUInt32 >>> (y.toUInt32 &&& Int32.toUInt32 31)).toInt32)
  | .idiv, x, y => if y = 0 then none else some (x / y)
  | .irem, x, y => if y = 0 then none else some (x - x / y * y)
  | _, _, _ => none
/-- arithmetic of two longs -/
def j_lbin : Instr → Int64 → Int64 → Option Int64
  | .ladd, x, y => some (x + y)
  | .lsub, x, y => some (x - y)
  | .land, x, y => some (x &&& y)
  | .lor, x, y => some (x ||| y)
  | .lxor, x, y => some (x ^^^ y)
  | _, _, _ => none
/-- shifts of a long -/
def j_lsh : Instr → Int64 → Int32 → Option Int64
  | .lshl, x, y => some (x <<< (y.toInt64 &&& 63))
  | .lshr, x, y => some (x >>> (y.toInt64 &&& 63))
  | _, _, _ => none
/-- what stands on the stack alone -/
def j_stk : Instr → List Value → Option (List Value)
  | .iconst n, r => some (.int (Int32.ofInt n) :: r)
  | .bipush n, r => some (.int (Int8.ofInt n).toInt32 :: r)
  | .sipush n, r => some (.int (Int16.ofInt n).toInt32 :: r)
  | .lconst n, r => some (.long (Int64.ofNat (n : Nat)) :: r)
  | .dup, v :: r => if v.category = 1 then some (v :: v :: r) else none
  | .pop, v :: r => if v.category = 1 then some r else none
  | .dup2, v :: w :: r => if v.category = 1 ∧ w.category = 1 then some (v :: w :: v :: w :: r) else none
  | .i2l, .int x :: r => some (.long x.toInt64 :: r)
  | .l2i, .long x :: r => some (.int x.toInt32 :: r)
  | .i2b, .int x :: r => some (.int x.toInt8.toInt32 :: r)
  | .ineg, .int x :: r => some (.int (-x) :: r)
  | .lcmp, .long y :: .long x :: r => some (.int (lg_cmp x y) :: r)
  | i, .int y :: .int x :: r => (j_bin i x y).map fun z => .int z :: r
  | i, .long y :: .long x :: r => (j_lbin i x y).map fun z => .long z :: r
  | i, .int y :: .long x :: r => (j_lsh i x y).map fun z => .long z :: r
  | _, _ => none
/-- loads: which local -/
def j_lix : Instr → Option (Nat × Nat)
  | .iload_n k => some ((k : Nat), 0)
  | .iload k => some (k, 0)
  | .lload_n k => some ((k : Nat), 1)
  | .lload k => some (k, 1)
  | .aload_n k => some ((k : Nat), 2)
  | .aload k => some (k, 2)
  | _ => none
def j_six : Instr → Option (Nat × Nat)
  | .istore_n k => some ((k : Nat), 0)
  | .istore k => some (k, 0)
  | .lstore_n k => some ((k : Nat), 1)
  | .lstore k => some (k, 1)
  | .astore_n k => some ((k : Nat), 2)
  | .astore k => some (k, 2)
  | _ => none
/-- the kind of a value: int 0, long 1, reference 2 -/
def j_vk : Value → Nat
  | .int _ => 0
  | .long _ => 1
  | .ref _ => 2
  | _ => 3
def j_br : Instr → Nat → List Value → Option (Nat × List Value)
  | .goto off, pc, r => (j_tgt pc off).map fun t => (t, r)
  | .ifCond c off, pc, .int x :: r => (j_tgt pc off).map fun t => (if j_cond c x 0 then t else pc + 3, r)
  | .if_icmp c off, pc, .int y :: .int x :: r => (j_tgt pc off).map fun t => (if j_cond c x y then t else pc + 3, r)
  | .tableswitch dflt lo hi offs, pc, .int x :: r =>
    if x.toInt < lo ∨ hi < x.toInt then (j_tgt pc dflt).map fun t => (t, r) else
      match offs[(x.toInt - lo).toNat]? with
      | some off => (j_tgt pc off).map fun t => (t, r)
      | none => none
  | .lookupswitch dflt ps, pc, .int x :: r =>
    if (ps.toList.zip (ps.toList.drop 1)).all (fun (a, next) => a.1 < next.1) = true then (j_tgt pc (Op.lookupswitch.offset ps.toList dflt x.toInt)).map fun t => (t, r) else none
  | _, _, _ => none

/-- the length of an instruction, but for switches -/
def j_ln : Instr → Nat
  | .bipush _ => 2
  | .sipush _ => 3
  | .iload _ => 2
  | .lload _ => 2
  | .aload _ => 2
  | .istore _ => 2
  | .lstore _ => 2
  | .astore _ => 2
  | .iinc _ _ => 3
  | .goto _ => 3
  | .ifCond _ _ => 3
  | .if_icmp _ _ => 3
  | .getfield _ => 3
  | .putfield _ => 3
  | .invokevirtual _ => 3
  | .invokestatic _ => 3
  | .invokespecial _ => 3
  | .new _ => 3
  | .anewarray _ => 3
  | .newarray _ => 2
  | .ldc _ => 2
  | .ldc_w _ => 3
  | .ldc2_w _ => 3
  | _ => 1
def j_sw : Instr → Bool
  | .tableswitch _ _ _ _ => true
  | .lookupswitch _ _ => true
  | _ => false
section JSTK
variable {p : Program} {l : Launch} {e : Env} {R : Room} {s : State} {m : MethodId} {args : Array Value} {below : List Frame} {meth : Method} {c : Code} {H : Heap} {locs : List Loc} {cells slots : Nat} {Q : State → Prop}
variable {cc : ByteArray} {pc : Nat} {ls : Array Slot}
set_option maxHeartbeats 4000000 in
theorem j_bin_ok (hx : p.tables.exec = Jvm.exec) (hb : c.code = cc) {ins : Instr} {x y z : Int32} {rest : List Value} (hd : decode cc pc = .ok (ins, j_ln ins)) (h : j_bin ins x y = some z)
    (k : W p l e R s m args below meth c H locs cells slots Q (F0 m (pc + j_ln ins) ls (.int z :: rest))) : W p l e R s m args below meth c H locs cells slots Q (F0 m pc ls (.int y :: .int x :: rest)) := by
  unfold j_bin at h
  split at h
  · cases h; exact lv_iadd hx hb hd k
  · cases h; exact lv_isub hx hb hd k
  · cases h; exact lv_imul hx hb hd k
  · cases h; exact lv_iand hx hb hd k
  · cases h; exact lv_ior hx hb hd k
  · cases h; exact lv_ixor hx hb hd k
  · cases h; exact lv_ishl hx hb hd k
  · cases h; exact lv_ishr hx hb hd k
  · cases h; exact lv_iushr hx hb hd rfl k
  · split at h
    · cases h
    · rename_i hy; cases h; exact lv_idiv hx hb hd hy k
  · split at h
    · cases h
    · rename_i hy; cases h; exact lv_irem hx hb hd hy k
  · cases h
set_option maxHeartbeats 4000000 in
theorem j_lbin_ok (hx : p.tables.exec = Jvm.exec) (hb : c.code = cc) {ins : Instr} {x y z : Int64} {rest : List Value} (hd : decode cc pc = .ok (ins, j_ln ins)) (h : j_lbin ins x y = some z)
    (k : W p l e R s m args below meth c H locs cells slots Q (F0 m (pc + j_ln ins) ls (.long z :: rest))) : W p l e R s m args below meth c H locs cells slots Q (F0 m pc ls (.long y :: .long x :: rest)) := by
  unfold j_lbin at h
  split at h
  · cases h; exact lv_ladd hx hb hd k
  · cases h; exact lv_lsub hx hb hd k
  · cases h; exact lv_land hx hb hd k
  · cases h; exact lv_lor hx hb hd k
  · cases h; exact lv_lxor hx hb hd k
  · cases h
set_option maxHeartbeats 4000000 in
theorem j_lsh_ok (hx : p.tables.exec = Jvm.exec) (hb : c.code = cc) {ins : Instr} {x z : Int64} {y : Int32} {rest : List Value} (hd : decode cc pc = .ok (ins, j_ln ins)) (h : j_lsh ins x y = some z)
    (k : W p l e R s m args below meth c H locs cells slots Q (F0 m (pc + j_ln ins) ls (.long z :: rest))) : W p l e R s m args below meth c H locs cells slots Q (F0 m pc ls (.int y :: .long x :: rest)) := by
  unfold j_lsh at h
  split at h
  · cases h; exact lv_lshl hx hb hd rfl k
  · cases h; exact lv_lshr hx hb hd rfl k
  · cases h
set_option maxHeartbeats 4000000 in
theorem j_stk_ok (hx : p.tables.exec = Jvm.exec) (hb : c.code = cc) (b : Nat) {ins : Instr} {st stJ : List Value} (hd : decode cc pc = .ok (ins, j_ln ins)) (h : j_stk ins st = some stJ)
    (k : W p l e R s m args below meth c H locs cells slots Q (F0 m (pc + j_ln ins) ls (j_st b stJ))) : W p l e R s m args below meth c H locs cells slots Q (F0 m pc ls (j_st b st)) := by
  unfold j_stk at h
  split at h
  · cases h; exact lv_iconst hx hb hd rfl k
  · cases h; exact lv_bipush hx hb hd rfl k
  · cases h; exact lv_sipush hx hb hd rfl k
  · cases h; exact lv_lconst hx hb hd rfl k
  · split at h
    · rename_i hc; cases h; exact lv_dup hx hb hd (by rw [j_v_cat]; exact hc) k
    · cases h
  · split at h
    · rename_i hc; cases h; exact lv_pop hx hb hd (by rw [j_v_cat]; exact hc) k
    · cases h
  · split at h
    · rename_i hc; cases h; exact lv_dup2_11 hx hb hd (by rw [j_v_cat]; exact hc.1) (by rw [j_v_cat]; exact hc.2) k
    · cases h
  · cases h; exact lv_i2l hx hb hd rfl k
  · cases h; exact lv_l2i hx hb hd rfl k
  · cases h; exact lv_i2b hx hb hd rfl k
  · cases h; exact lv_ineg hx hb hd k
  · cases h; exact W.lcmp hx hb hd k
  · obtain ⟨z, hz, rfl⟩ := Option.map_eq_some_iff.mp h
    exact j_bin_ok hx hb hd hz k
  · obtain ⟨z, hz, rfl⟩ := Option.map_eq_some_iff.mp h
    exact j_lbin_ok hx hb hd hz k
  · obtain ⟨z, hz, rfl⟩ := Option.map_eq_some_iff.mp h
    exact j_lsh_ok hx hb hd hz k
  · cases h
/-- a load -/
def j_lod (ins : Instr) (lv : J_L) (st : List Value) : Option (List Value) := match j_lix ins with
  | none => none
  | some (i, kd) => match j_ld lv i with
    | some v => if j_vk v = kd then some (v :: st) else none
    | none => none
set_option maxHeartbeats 4000000 in
theorem j_lod_ok (hx : p.tables.exec = Jvm.exec) (hb : c.code = cc) (b : Nat) {ins : Instr} {nL : Nat} {lv : J_L} {st stJ : List Value} (hl : lv_has ls nL (j_lv b lv)) (hd : decode cc pc = .ok (ins, j_ln ins)) (h : j_lod ins lv st = some stJ)
    (k : W p l e R s m args below meth c H locs cells slots Q (F0 m (pc + j_ln ins) ls (j_st b stJ))) : W p l e R s m args below meth c H locs cells slots Q (F0 m pc ls (j_st b st)) := by
  unfold j_lod at h
  split at h
  · cases h
  · rename_i i kd hix
    split at h
    · rename_i v hv
      split at h
      · rename_i hk
        cases h
        obtain ⟨n, hn⟩ := j_ld_at (b := b) hv
        have h2 := lv_at hl n hn
        unfold j_lix at hix
        split at hix
        all_goals first
          | (cases hix; done)
          | (cases hix
             cases v <;> first
               | (cases hk; done)
               | exact lv_iload_n hx hb hd rfl h2 k
               | exact lv_iload hx hb hd h2 k
               | exact lv_lload_n hx hb hd rfl h2 k
               | exact lv_lload hx hb hd h2 k
               | exact lv_aload_n hx hb hd rfl h2 k
               | exact lv_aload hx hb hd h2 k)
      · cases h
    · cases h
/-- a store -/
def j_sto (ins : Instr) (nL : Nat) (lv : J_L) (st : List Value) : Option (J_L × List Value) := match j_six ins, st with
  | some (i, kd), v :: r => if j_vk v = kd then (if kd = 1 then (if i + 1 < nL then some (j_s2 i v lv, r) else none) else (if i < nL then some (j_s1 i v lv, r) else none)) else none
  | _, _ => none
set_option maxHeartbeats 4000000 in
theorem j_sto_ok (hx : p.tables.exec = Jvm.exec) (hb : c.code = cc) (b : Nat) {ins : Instr} {nL : Nat} {lv lv' : J_L} {st stJ : List Value} (hl : lv_has ls nL (j_lv b lv)) (hd : decode cc pc = .ok (ins, j_ln ins)) (h : j_sto ins nL lv st = some (lv', stJ))
    (k : ∀ ls' : Array Slot, lv_has ls' nL (j_lv b lv') → W p l e R s m args below meth c H locs cells slots Q (F0 m (pc + j_ln ins) ls' (j_st b stJ))) : W p l e R s m args below meth c H locs cells slots Q (F0 m pc ls (j_st b st)) := by
  unfold j_sto at h
  split at h
  · rename_i i kd v r hix
    split at h
    · rename_i hk
      unfold j_six at hix
      split at hix
      all_goals first
        | (cases hix; done)
        | (cases hix
           cases v <;> first
             | (cases hk; done)
             | (rw [if_pos rfl] at h
                split at h
                · rename_i hn
                  cases h
                  first
                    | exact lv_lstore_n hx hb hd rfl hl hn (j_lv_s2 b _ (.long _) lv) k
                    | exact lv_lstore hx hb hd hl hn (j_lv_s2 b _ (.long _) lv) k
                · cases h)
             | (rw [if_neg (by decide)] at h
                split at h
                · rename_i hn
                  cases h
                  first
                    | exact lv_istore_n hx hb hd rfl hl hn (j_lv_s1 b _ (.int _) lv) k
                    | exact lv_istore hx hb hd hl hn (j_lv_s1 b _ (.int _) lv) k
                    | exact lv_astore_n hx hb hd rfl hl hn (j_lv_s1 b _ (.ref _) lv) k
                    | exact lv_astore hx hb hd hl hn (j_lv_s1 b _ (.ref _) lv) k
                · cases h))
    · cases h
  · cases h
/-- iinc -/
def j_inc (ins : Instr) (nL : Nat) (lv : J_L) : Option J_L := match ins with
  | .iinc i n => match j_ld lv i with
    | some (.int x) => if i < nL then some (j_s1 i (.int (x + Int32.ofInt n)) lv) else none
    | _ => none
  | _ => none
set_option maxHeartbeats 4000000 in
theorem j_inc_ok (hx : p.tables.exec = Jvm.exec) (hb : c.code = cc) (b : Nat) {ins : Instr} {nL : Nat} {lv lv' : J_L} {st : List Value} (hl : lv_has ls nL (j_lv b lv)) (hd : decode cc pc = .ok (ins, j_ln ins)) (h : j_inc ins nL lv = some lv')
    (k : ∀ ls' : Array Slot, lv_has ls' nL (j_lv b lv') → W p l e R s m args below meth c H locs cells slots Q (F0 m (pc + j_ln ins) ls' (j_st b st))) : W p l e R s m args below meth c H locs cells slots Q (F0 m pc ls (j_st b st)) := by
  unfold j_inc at h
  split at h
  · split at h
    · rename_i i n v x hv
      split at h
      · rename_i hn
        cases h
        obtain ⟨q, hq⟩ := j_ld_at (b := b) hv
        exact lv_iinc hx hb hd hl hq rfl hn (j_lv_s1 b _ (.int _) lv) k
      · cases h
    · cases h
  · cases h
set_option maxHeartbeats 4000000 in
theorem j_if_ok (hx : p.tables.exec = Jvm.exec) (hb : c.code = cc) {cd : ClassFile.Cond} {off : Int} {t : Nat} {x : Int32} {rest : List Value} (hd : decode cc pc = .ok (.ifCond cd off, 3)) (ht : (pc : Int) + off = (t : Int))
    (k : W p l e R s m args below meth c H locs cells slots Q (F0 m (if j_cond cd x 0 then t else pc + 3) ls rest)) : W p l e R s m args below meth c H locs cells slots Q (F0 m pc ls (.int x :: rest)) := by
  cases hc : j_cond cd x 0 with
  | true =>
    rw [hc] at k
    cases cd
    · exact lv_if_eq hx hb hd ht (fun _ => k) (fun q => absurd (of_decide_eq_true hc) q)
    · exact lv_if_ne hx hb hd ht (fun _ => k) (fun q => by subst q; exact absurd hc (by simp [j_cond]))
    · exact lv_if_lt hx hb hd ht (fun _ => k) (fun q => absurd (of_decide_eq_true hc) q)
    · exact lv_if_ge hx hb hd ht (fun _ => k) (fun q => absurd (of_decide_eq_true hc) q)
    · exact lv_if_gt hx hb hd ht (fun _ => k) (fun q => absurd (of_decide_eq_true hc) q)
    · exact lv_if_le hx hb hd ht (fun _ => k) (fun q => absurd (of_decide_eq_true hc) q)
  | false =>
    rw [hc] at k
    cases cd
    · exact lv_if_eq hx hb hd ht (fun q => absurd q (of_decide_eq_false hc)) (fun _ => k)
    · exact lv_if_ne hx hb hd ht (fun q => absurd (of_decide_eq_true (by simpa [j_cond] using hc)) q) (fun _ => k)
    · exact lv_if_lt hx hb hd ht (fun q => absurd q (of_decide_eq_false hc)) (fun _ => k)
    · exact lv_if_ge hx hb hd ht (fun q => absurd q (of_decide_eq_false hc)) (fun _ => k)
    · exact lv_if_gt hx hb hd ht (fun q => absurd q (of_decide_eq_false hc)) (fun _ => k)
    · exact lv_if_le hx hb hd ht (fun q => absurd q (of_decide_eq_false hc)) (fun _ => k)
set_option maxHeartbeats 4000000 in
theorem j_icmp_ok (hx : p.tables.exec = Jvm.exec) (hb : c.code = cc) {cd : ClassFile.Cond} {off : Int} {t : Nat} {x y : Int32} {rest : List Value} (hd : decode cc pc = .ok (.if_icmp cd off, 3)) (ht : (pc : Int) + off = (t : Int))
    (k : W p l e R s m args below meth c H locs cells slots Q (F0 m (if j_cond cd x y then t else pc + 3) ls rest)) : W p l e R s m args below meth c H locs cells slots Q (F0 m pc ls (.int y :: .int x :: rest)) := by
  cases hc : j_cond cd x y with
  | true =>
    rw [hc] at k
    cases cd
    · exact lv_icmp_eq hx hb hd ht (fun _ => k) (fun q => absurd (of_decide_eq_true hc) q)
    · exact lv_icmp_ne hx hb hd ht (fun _ => k) (fun q => by subst q; exact absurd hc (by simp [j_cond]))
    · exact lv_icmp_lt hx hb hd ht (fun _ => k) (fun q => absurd (of_decide_eq_true hc) q)
    · exact lv_icmp_ge hx hb hd ht (fun _ => k) (fun q => absurd (of_decide_eq_true hc) q)
    · exact lv_icmp_gt hx hb hd ht (fun _ => k) (fun q => absurd (of_decide_eq_true hc) q)
    · exact lv_icmp_le hx hb hd ht (fun _ => k) (fun q => absurd (of_decide_eq_true hc) q)
  | false =>
    rw [hc] at k
    cases cd
    · exact lv_icmp_eq hx hb hd ht (fun q => absurd q (of_decide_eq_false hc)) (fun _ => k)
    · exact lv_icmp_ne hx hb hd ht (fun q => absurd (of_decide_eq_true (by simpa [j_cond] using hc)) q) (fun _ => k)
    · exact lv_icmp_lt hx hb hd ht (fun q => absurd q (of_decide_eq_false hc)) (fun _ => k)
    · exact lv_icmp_ge hx hb hd ht (fun q => absurd q (of_decide_eq_false hc)) (fun _ => k)
    · exact lv_icmp_gt hx hb hd ht (fun q => absurd q (of_decide_eq_false hc)) (fun _ => k)
    · exact lv_icmp_le hx hb hd ht (fun q => absurd q (of_decide_eq_false hc)) (fun _ => k)
set_option maxHeartbeats 4000000 in
theorem j_br_ok (hx : p.tables.exec = Jvm.exec) (hb : c.code = cc) (b : Nat) {ins : Instr} {len t : Nat} {st stJ : List Value} (hd : decode cc pc = .ok (ins, len)) (hlen : j_sw ins = true ∨ len = j_ln ins) (h : j_br ins pc st = some (t, stJ))
    (k : W p l e R s m args below meth c H locs cells slots Q (F0 m t ls (j_st b stJ))) : W p l e R s m args below meth c H locs cells slots Q (F0 m pc ls (j_st b st)) := by
  unfold j_br at h
  split at h
  · obtain ⟨t', ht, he⟩ := Option.map_eq_some_iff.mp h
    cases he
    obtain rfl : len = 3 := hlen.elim (fun q => by cases q) id
    exact lv_goto hx hb hd (j_tgt_ok ht) k
  · obtain ⟨t', ht, he⟩ := Option.map_eq_some_iff.mp h
    cases he
    obtain rfl : len = 3 := hlen.elim (fun q => by cases q) id
    exact j_if_ok hx hb hd (j_tgt_ok ht) k
  · obtain ⟨t', ht, he⟩ := Option.map_eq_some_iff.mp h
    cases he
    obtain rfl : len = 3 := hlen.elim (fun q => by cases q) id
    exact j_icmp_ok hx hb hd (j_tgt_ok ht) k
  · split at h
    · rename_i hc
      obtain ⟨t', ht, he⟩ := Option.map_eq_some_iff.mp h
      cases he
      exact lv_tableOut hx hb hd hc (j_tgt_ok ht) k
    · rename_i hc
      split at h
      · rename_i off ho
        obtain ⟨t', ht, he⟩ := Option.map_eq_some_iff.mp h
        cases he
        exact lv_tableIn hx hb hd (fun q => hc (Or.inl q)) (fun q => hc (Or.inr q)) ho (j_tgt_ok ht) k
      · cases h
  · split at h
    · rename_i hp
      obtain ⟨t', ht, he⟩ := Option.map_eq_some_iff.mp h
      cases he
      exact lv_lookup hx hb hd hp rfl (j_tgt_ok ht) k
    · cases h
  · cases h
end JSTK

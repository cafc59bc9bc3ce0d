/-! the reference's burden: what it leaves as it was; its answer is free: written by wip/py/gen_bu.py -/
def mbB (a : Nat) : Bool := !(Nat.beq a 359 || (Nat.beq a 360 || (Nat.beq a 363 || Nat.beq a 368)))
def mbG (j : Nat) : Bool := Nat.beq j 1 || (Nat.beq j 4 || (Nat.beq j 22 || Nat.beq j 23))
def mbS (m : Nat) : Bool := ([176, 177, 178, 179, 201, 203, 204, 205, 206, 207, 208, 209, 210, 211, 212, 213, 214, 215, 216, 217, 218, 219, 220, 221, 222, 223, 224, 225, 226, 227, 228, 229, 230, 231, 232, 238, 274, 275] : List Nat).any (Nat.beq m)
def mbF (u : Nat → Value) (th sst acs tm : Int32) : List Value := [.int th, .ref 360, .ref 361, .ref 362, .ref 363, .ref 364, .ref 365, .ref 366, .ref 367, (u 9), .int sst, (u 11), (u 12), .int acs, (u 14), (u 15), (u 16), (u 17), (u 18), (u 19), (u 20), (u 21), .ref 368, .int tm, .ref 369, .ref 370, .ref 371, (u 27)]
set_option maxRecDepth 1000000 in
theorem mb_N : nr_N jP mbS mbG := nr_N_of (by decide +kernel)
theorem mbO {u : Nat → Value} {th sst acs : Int32} : nrO mbB mbG (mbF u th sst acs) := by
  refine ⟨fun tm j v hG hv => ?_, fun tm x => rfl⟩
  unfold mbG at hG
  rcases Bool.or_eq_true_iff.mp hG with e | hG
  · obtain rfl := Nat.eq_of_beq_eq_true e; cases hv; intro a q; cases q; rfl
  rcases Bool.or_eq_true_iff.mp hG with e | hG
  · obtain rfl := Nat.eq_of_beq_eq_true e; cases hv; intro a q; cases q; rfl
  rcases Bool.or_eq_true_iff.mp hG with e | e
  · obtain rfl := Nat.eq_of_beq_eq_true e; cases hv; intro a q; cases q; rfl
  · obtain rfl := Nat.eq_of_beq_eq_true e; cases hv; exact nf.int _
/-- drops, priceAtEnd: what they may change -/
theorem mb_op {u : Nat → Value} {mi d : Nat} {As : List Value} {h h0 : J_H} {th sst acs tm : Int32} {w sd ot tk : List Int32} (hm : mbS mi = true) (hA : nrS mbB As) (K : KN h [(359, .inl (10, [.int th, .ref 360, .ref 361, .ref 362, .ref 363, .ref 364, .ref 365, .ref 366, .ref 367, (u 9), .int sst, (u 11), (u 12), .int acs, (u 14), (u 15), (u 16), (u 17), (u 18), (u 19), (u 20), (u 21), .ref 368, .int tm, .ref 369, .ref 370, .ref 371, (u 27)])), (360, .inr (.inl (0, w))), (362, .inr (.inl (0, sd))), (363, .inr (.inl (0, ot))), (368, .inr (.inl (0, tk)))] h0) : j_V jP d mi 0 (lv_args 0 As) [] h (fun rv h' => ∃ (tm' : Int32) (w' ot' tk' : List Int32), (w'.length = w.length ∧ ot'.length = ot.length ∧ tk'.length = tk.length) ∧ KN h' [(359, .inl (10, [.int th, .ref 360, .ref 361, .ref 362, .ref 363, .ref 364, .ref 365, .ref 366, .ref 367, (u 9), .int sst, (u 11), (u 12), .int acs, (u 14), (u 15), (u 16), (u 17), (u 18), (u 19), (u 20), (u 21), .ref 368, .int tm', .ref 369, .ref 370, .ref 371, (u 27)])), (360, .inr (.inl (0, w'))), (362, .inr (.inl (0, sd))), (363, .inr (.inl (0, ot'))), (368, .inr (.inl (0, tk')))] h0) := by
  have c0 := K.at (a := 359) rfl
  have c1 := K.at (a := 360) rfl
  have c3 := K.at (a := 363) rfl
  have c8 := K.at (a := 368) rfl
  have H : nrH mbB (mbF u th sst acs) h := by
    refine ⟨⟨tm, c0⟩, fun x hx hn ci fs e => ?_⟩
    unfold mbB at hx
    have hx : (Nat.beq x 359 || (Nat.beq x 360 || (Nat.beq x 363 || Nat.beq x 368))) = true := by
      cases hb : (Nat.beq x 359 || (Nat.beq x 360 || (Nat.beq x 363 || Nat.beq x 368))) with
      | true => rfl
      | false => rw [hb] at hx; cases hx
    rcases Bool.or_eq_true_iff.mp hx with q | hx
    · exact hn (Nat.eq_of_beq_eq_true q)
    rcases Bool.or_eq_true_iff.mp hx with q | hx
    · obtain rfl := Nat.eq_of_beq_eq_true q; rw [c1] at e; cases e
    rcases Bool.or_eq_true_iff.mp hx with q | q
    · obtain rfl := Nat.eq_of_beq_eq_true q; rw [c3] at e; cases e
    · obtain rfl := Nat.eq_of_beq_eq_true q; rw [c8] at e; cases e
  refine j_V.mono (j_V.sm (nr_V mbO mb_N hm hA H)) ?_
  rintro rv h' ⟨⟨⟨⟨tm', d0⟩, -⟩, F⟩, sm⟩
  obtain ⟨w', d1, l1⟩ := sm.ex c1
  obtain ⟨ot', d3, l3⟩ := sm.ex c3
  obtain ⟨tk', d8, l8⟩ := sm.ex c8
  refine ⟨tm', w', ot', tk', ⟨l1, l3, l8⟩, fun a c hc => ?_, fun a ha => ?_, F.2.trans K.2.2⟩
  · by_cases e0 : a = 359
    · subst e0; cases hc; exact d0
    by_cases e1 : a = 360
    · subst e1; cases hc; exact d1
    by_cases e3 : a = 363
    · subst e3; cases hc; exact d3
    by_cases e8 : a = 368
    · subst e8; cases hc; exact d8
    rw [F.1 a (by unfold mbB; rw [jc_nbeq e0, jc_nbeq e1, jc_nbeq e3, jc_nbeq e8]; rfl)]
    refine K.1 a c ?_
    by_cases e2 : a = 362
    · subst e2; exact hc
    · exfalso
      revert hc
      unfold jk_lk jk_lk jk_lk jk_lk jk_lk jk_lk
      rw [jc_nbeq (fun q => e0 q.symm), jc_nbeq (fun q => e1 q.symm), jc_nbeq (fun q => e3 q.symm), jc_nbeq (fun q => e8 q.symm), jc_nbeq (fun q => e2 q.symm)]
      exact fun q => nomatch q
  · have e0 : a ≠ 359 := fun q => by subst q; cases ha
    have e1 : a ≠ 360 := fun q => by subst q; cases ha
    have e3 : a ≠ 363 := fun q => by subst q; cases ha
    have e8 : a ≠ 368 := fun q => by subst q; cases ha
    have e2 : a ≠ 362 := fun q => by subst q; cases ha
    rw [F.1 a (by unfold mbB; rw [jc_nbeq e0, jc_nbeq e1, jc_nbeq e3, jc_nbeq e8]; rfl)]
    refine K.2.1 a ?_
    unfold jk_lk jk_lk jk_lk jk_lk jk_lk jk_lk
    rw [jc_nbeq (fun q => e0 q.symm), jc_nbeq (fun q => e1 q.symm), jc_nbeq (fun q => e3 q.symm), jc_nbeq (fun q => e8 q.symm), jc_nbeq (fun q => e2 q.symm)]
/-- a method whose answer is an int answers an int -/
theorem jv9_reti {ins : Instr} {st : List Value} {r : Option Value} (h : j_ret (some .int) ins st = some r) : ∃ v, r = some (.int v) := by
  unfold j_ret at h
  split at h
  all_goals first
    | (cases h; done)
    | (split at h
       · cases h; exact ⟨_, rfl⟩
       · cases h)
    | (rename_i z _; cases z; done)
    | (simp_all; done)
theorem jv9_int0 {P : j_P} : ∀ (f d mi pc : Nat) (lv : J_L) (st : List Value) (h : J_H) (r : Option Value) (hf : J_H) (M : j_M), j_meth P mi = some M → j_rt M = some .int → j_run P f d mi pc lv st h = some (r, hf) → ∃ v, r = some (.int v) := by
  intro f
  induction f with
  | zero => intro d mi pc lv st h r hf M _ _ hj; cases hj
  | succ f ih =>
    intro d mi pc lv st h r hf M hM hrt hj
    unfold j_run at hj
    rw [hM] at hj
    split at hj
    · rename_i M' ins hM' hins
      cases hM'
      split at hj
      · obtain ⟨x, hx, he⟩ := Option.map_eq_some_iff.mp hj
        cases he
        rw [hrt] at hx
        exact jv9_reti hx
      · split at hj
        · split at hj
          · exact ih _ _ _ _ _ _ _ _ M hM hrt hj
          · cases hj
        · split at hj
          · exact ih _ _ _ _ _ _ _ _ M hM hrt hj
          · cases hj
        · split at hj
          · exact ih _ _ _ _ _ _ _ _ M hM hrt hj
          · cases hj
        · split at hj
          · exact ih _ _ _ _ _ _ _ _ M hM hrt hj
          · cases hj
        · split at hj
          · split at hj
            · split at hj
              · exact ih _ _ _ _ _ _ _ _ M hM hrt hj
              · cases hj
            · cases hj
          · cases hj
        · cases hj
      · split at hj
        · exact ih _ _ _ _ _ _ _ _ M hM hrt hj
        · cases hj
    · cases hj
theorem jv9_int {P : j_P} {d mi : Nat} {lv : J_L} {st : List Value} {h : J_H} {M : j_M} {Q : Option Value → J_H → Prop} (hM : j_meth P mi = some M) (hrt : j_rt M = some .int) (k : j_V P d mi 0 lv st h Q) : j_V P d mi 0 lv st h (fun r h' => Q r h' ∧ ∃ v, r = some (.int v)) := fun f r h' hj => ⟨k f r h' hj, jv9_int0 f d mi 0 lv st h r h' M hM hrt hj⟩
theorem jv9_ret {ins : Instr} {st : List Value} {r : Option Value} (h : j_ret none ins st = some r) : r = none := by
  unfold j_ret at h
  split at h
  all_goals first
    | (cases h; done)
    | (cases h; rfl)
    | (rename_i z _; cases z; done)
    | (simp_all; done)
theorem jv9_void0 {P : j_P} : ∀ (f d mi pc : Nat) (lv : J_L) (st : List Value) (h : J_H) (r : Option Value) (hf : J_H) (M : j_M), j_meth P mi = some M → j_rt M = none → j_run P f d mi pc lv st h = some (r, hf) → r = none := by
  intro f
  induction f with
  | zero => intro d mi pc lv st h r hf M _ _ hj; cases hj
  | succ f ih =>
    intro d mi pc lv st h r hf M hM hrt hj
    unfold j_run at hj
    rw [hM] at hj
    split at hj
    · rename_i M' ins hM' hins
      cases hM'
      split at hj
      · obtain ⟨x, hx, he⟩ := Option.map_eq_some_iff.mp hj
        cases he
        rw [hrt] at hx
        exact jv9_ret hx
      · split at hj
        · split at hj
          · exact ih _ _ _ _ _ _ _ _ M hM hrt hj
          · cases hj
        · split at hj
          · exact ih _ _ _ _ _ _ _ _ M hM hrt hj
          · cases hj
        · split at hj
          · exact ih _ _ _ _ _ _ _ _ M hM hrt hj
          · cases hj
        · split at hj
          · exact ih _ _ _ _ _ _ _ _ M hM hrt hj
          · cases hj
        · split at hj
          · split at hj
            · split at hj
              · exact ih _ _ _ _ _ _ _ _ M hM hrt hj
              · cases hj
            · cases hj
          · cases hj
        · cases hj
      · split at hj
        · exact ih _ _ _ _ _ _ _ _ M hM hrt hj
        · cases hj
    · cases hj
theorem jv9_void {P : j_P} {d mi : Nat} {lv : J_L} {st : List Value} {h : J_H} {M : j_M} {Q : Option Value → J_H → Prop} (hM : j_meth P mi = some M) (hrt : j_rt M = none) (k : j_V P d mi 0 lv st h Q) : j_V P d mi 0 lv st h (fun r h' => Q r h' ∧ r = none) := fun f r h' hj => ⟨k f r h' hj, jv9_void0 f d mi 0 lv st h r h' M hM hrt hj⟩
set_option maxRecDepth 100000 in
theorem mbu_M : j_meth jP 276 = some (yX10_burden, cX10_burden, 7, (some .int), 1, false, 10) := rfl
set_option maxRecDepth 100000 in
theorem mbu_0 : j_code jP 276 0 = some (.aload_n 0) := rfl
set_option maxRecDepth 100000 in
theorem mbu_1 : j_code jP 276 1 = some (.getfield 7) := rfl
set_option maxRecDepth 100000 in
theorem mbu_4 : j_code jP 276 4 = some (.sipush 203) := rfl
set_option maxRecDepth 100000 in
theorem mbu_7 : j_code jP 276 7 = some (.iaload) := rfl
set_option maxRecDepth 100000 in
theorem mbu_8 : j_code jP 276 8 = some (.istore_n 2) := rfl
set_option maxRecDepth 100000 in
theorem mbu_9 : j_code jP 276 9 = some (.iload_n 2) := rfl
set_option maxRecDepth 100000 in
theorem mbu_10 : j_code jP 276 10 = some (.ifCond .ne 9) := rfl
set_option maxRecDepth 100000 in
theorem mbu_13 : j_code jP 276 13 = some (.aload_n 0) := rfl
set_option maxRecDepth 100000 in
theorem mbu_14 : j_code jP 276 14 = some (.iconst 5) := rfl
set_option maxRecDepth 100000 in
theorem mbu_15 : j_code jP 276 15 = some (.invokevirtual 179) := rfl
set_option maxRecDepth 100000 in
theorem mbu_18 : j_code jP 276 18 = some (.ireturn) := rfl
set_option maxRecDepth 100000 in
theorem mbu_19 : j_code jP 276 19 = some (.iconst (-1)) := rfl
set_option maxRecDepth 100000 in
theorem mbu_20 : j_code jP 276 20 = some (.istore_n 3) := rfl
set_option maxRecDepth 100000 in
theorem mbu_21 : j_code jP 276 21 = some (.ldc_w 340) := rfl
set_option maxRecDepth 100000 in
theorem mbu_24 : j_code jP 276 24 = some (.istore 4) := rfl
set_option maxRecDepth 100000 in
theorem mbu_26 : j_code jP 276 26 = some (.aload_n 0) := rfl
set_option maxRecDepth 100000 in
theorem mbu_27 : j_code jP 276 27 = some (.getfield 7) := rfl
set_option maxRecDepth 100000 in
theorem mbu_30 : j_code jP 276 30 = some (.aload_n 0) := rfl
set_option maxRecDepth 100000 in
theorem mbu_31 : j_code jP 276 31 = some (.getfield 16) := rfl
set_option maxRecDepth 100000 in
theorem mbu_34 : j_code jP 276 34 = some (.invokestatic 188) := rfl
set_option maxRecDepth 100000 in
theorem mbu_37 : j_code jP 276 37 = some (.iconst 0) := rfl
set_option maxRecDepth 100000 in
theorem mbu_38 : j_code jP 276 38 = some (.istore 5) := rfl
set_option maxRecDepth 100000 in
theorem mbu_40 : j_code jP 276 40 = some (.iload 5) := rfl
set_option maxRecDepth 100000 in
theorem mbu_42 : j_code jP 276 42 = some (.iload_n 2) := rfl
set_option maxRecDepth 100000 in
theorem mbu_43 : j_code jP 276 43 = some (.if_icmp .ge 55) := rfl
set_option maxRecDepth 100000 in
theorem mbu_46 : j_code jP 276 46 = some (.aload_n 0) := rfl
set_option maxRecDepth 100000 in
theorem mbu_47 : j_code jP 276 47 = some (.getfield 16) := rfl
set_option maxRecDepth 100000 in
theorem mbu_50 : j_code jP 276 50 = some (.aload_n 0) := rfl
set_option maxRecDepth 100000 in
theorem mbu_51 : j_code jP 276 51 = some (.getfield 7) := rfl
set_option maxRecDepth 100000 in
theorem mbu_54 : j_code jP 276 54 = some (.invokestatic 188) := rfl
set_option maxRecDepth 100000 in
theorem mbu_57 : j_code jP 276 57 = some (.aload_n 0) := rfl
set_option maxRecDepth 100000 in
theorem mbu_58 : j_code jP 276 58 = some (.iload 5) := rfl
set_option maxRecDepth 100000 in
theorem mbu_60 : j_code jP 276 60 = some (.invokevirtual 356) := rfl
set_option maxRecDepth 100000 in
theorem mbu_63 : j_code jP 276 63 = some (.aload_n 0) := rfl
set_option maxRecDepth 100000 in
theorem mbu_64 : j_code jP 276 64 = some (.invokevirtual 341) := rfl
set_option maxRecDepth 100000 in
theorem mbu_67 : j_code jP 276 67 = some (.istore 6) := rfl
set_option maxRecDepth 100000 in
theorem mbu_69 : j_code jP 276 69 = some (.iload 6) := rfl
set_option maxRecDepth 100000 in
theorem mbu_71 : j_code jP 276 71 = some (.iload 4) := rfl
set_option maxRecDepth 100000 in
theorem mbu_73 : j_code jP 276 73 = some (.if_icmp .ge 8) := rfl
set_option maxRecDepth 100000 in
theorem mbu_76 : j_code jP 276 76 = some (.iload 5) := rfl
set_option maxRecDepth 100000 in
theorem mbu_78 : j_code jP 276 78 = some (.goto 4) := rfl
set_option maxRecDepth 100000 in
theorem mbu_81 : j_code jP 276 81 = some (.iload_n 3) := rfl
set_option maxRecDepth 100000 in
theorem mbu_82 : j_code jP 276 82 = some (.istore_n 3) := rfl
set_option maxRecDepth 100000 in
theorem mbu_83 : j_code jP 276 83 = some (.iload 4) := rfl
set_option maxRecDepth 100000 in
theorem mbu_85 : j_code jP 276 85 = some (.iload 6) := rfl
set_option maxRecDepth 100000 in
theorem mbu_87 : j_code jP 276 87 = some (.invokestatic 161) := rfl
set_option maxRecDepth 100000 in
theorem mbu_90 : j_code jP 276 90 = some (.istore 4) := rfl
set_option maxRecDepth 100000 in
theorem mbu_92 : j_code jP 276 92 = some (.iinc 5 1) := rfl
set_option maxRecDepth 100000 in
theorem mbu_95 : j_code jP 276 95 = some (.goto (-55)) := rfl
set_option maxRecDepth 100000 in
theorem mbu_98 : j_code jP 276 98 = some (.aload_n 0) := rfl
set_option maxRecDepth 100000 in
theorem mbu_99 : j_code jP 276 99 = some (.iload_n 1) := rfl
set_option maxRecDepth 100000 in
theorem mbu_100 : j_code jP 276 100 = some (.ifCond .eq 8) := rfl
set_option maxRecDepth 100000 in
theorem mbu_103 : j_code jP 276 103 = some (.iload 4) := rfl
set_option maxRecDepth 100000 in
theorem mbu_105 : j_code jP 276 105 = some (.goto 4) := rfl
set_option maxRecDepth 100000 in
theorem mbu_108 : j_code jP 276 108 = some (.iload_n 3) := rfl
set_option maxRecDepth 100000 in
theorem mbu_109 : j_code jP 276 109 = some (.invokevirtual 329) := rfl
set_option maxRecDepth 100000 in
theorem mbu_112 : j_code jP 276 112 = some (.ireturn) := rfl
set_option maxRecDepth 100000 in
theorem mbd_M : j_meth jP 275 = some (yX10_drops, cX10_drops, 5, none, 1, false, 10) := rfl
set_option maxRecDepth 100000 in
theorem mbp_M : j_meth jP 232 = some (yX10_priceAtEnd, cX10_priceAtEnd, 1, (some .int), 0, false, 10) := rfl
set_option maxRecDepth 100000 in
theorem mbc_M : j_meth jP 201 = some (yX10_copies, cX10_copies, 3, none, 2, false, 10) := rfl
set_option maxRecDepth 100000 in
theorem mbr_M : j_meth jP 169 = some (yX10_refuse, cX10_refuse, 2, (some .int), 1, false, 10) := rfl
set_option maxRecDepth 100000 in
theorem mbk_M : j_meth jP 261 = some (yX10_back, cX10_back, 2, (some .int), 1, false, 10) := rfl
set_option maxRecDepth 100000 in
theorem mbg_M : j_meth jP 170 = some (yX10_gives, cX10_gives, 2, (some .int), 1, false, 10) := rfl
set_option maxRecDepth 100000 in
theorem mbr_0 : j_code jP 169 0 = some (.aload_n 0) := rfl
set_option maxRecDepth 100000 in
theorem mbr_1 : j_code jP 169 1 = some (.iconst 0) := rfl
set_option maxRecDepth 100000 in
theorem mbr_2 : j_code jP 169 2 = some (.putfield 55) := rfl
set_option maxRecDepth 100000 in
theorem mbr_5 : j_code jP 169 5 = some (.aload_n 0) := rfl
set_option maxRecDepth 100000 in
theorem mbr_6 : j_code jP 169 6 = some (.iload_n 1) := rfl
set_option maxRecDepth 100000 in
theorem mbr_7 : j_code jP 169 7 = some (.putfield 58) := rfl
set_option maxRecDepth 100000 in
theorem mbr_10 : j_code jP 169 10 = some (.iconst (-1)) := rfl
set_option maxRecDepth 100000 in
theorem mbr_11 : j_code jP 169 11 = some (.ireturn) := rfl
theorem mbr_ok {u : Nat → Value} {d : Nat} {h h0 : J_H} {th sst acs tm v : Int32} {w sd ot tk : List Int32} (K : KN h [(359, .inl (10, [.int th, .ref 360, .ref 361, .ref 362, .ref 363, .ref 364, .ref 365, .ref 366, .ref 367, (u 9), .int sst, (u 11), (u 12), .int acs, (u 14), (u 15), (u 16), (u 17), (u 18), (u 19), (u 20), (u 21), .ref 368, .int tm, .ref 369, .ref 370, .ref 371, (u 27)])), (360, .inr (.inl (0, w))), (362, .inr (.inl (0, sd))), (363, .inr (.inl (0, ot))), (368, .inr (.inl (0, tk)))] h0) : j_V jP d 169 0 (lv_args 0 [.ref 359, .int v]) [] h (fun rv h' => (∃ z, rv = some (.int z)) ∧ KN h' [(359, .inl (10, [.int 0, .ref 360, .ref 361, .ref 362, .ref 363, .ref 364, .ref 365, .ref 366, .ref 367, (u 9), .int v, (u 11), (u 12), .int acs, (u 14), (u 15), (u 16), (u 17), (u 18), (u 19), (u 20), (u 21), .ref 368, .int tm, .ref 369, .ref 370, .ref 371, (u 27)])), (360, .inr (.inl (0, w))), (362, .inr (.inl (0, sd))), (363, .inr (.inl (0, ot))), (368, .inr (.inl (0, tk)))] h0) := by
  show j_V jP d 169 0 [(0, .ref 359), (1, .int v)] [] h _
  obtain ⟨lv, elv, L⟩ : ∃ lv, lv = [(0, .ref 359), (1, .int v)] ∧ LK lv [(0, .ref 359), (1, .int v)] := ⟨_, rfl, LK.rf⟩
  rw [← elv]
  clear elv
  refine j_V.ldL mbr_M mbr_0 rfl (i := 0) (kd := 2) (v := .ref 359) (pcJ := 1) rfl L rfl rfl rfl ?_
  refine j_V.one mbr_M mbr_1 (by decide) (pcJ := 2) (stJ := [.int 0, .ref 359]) rfl ?_
  refine j_V.putK mbr_M mbr_2 (ci := 10) (j := 0) (k' := [(359, .inl (10, [.int 0, .ref 360, .ref 361, .ref 362, .ref 363, .ref 364, .ref 365, .ref 366, .ref 367, (u 9), .int sst, (u 11), (u 12), .int acs, (u 14), (u 15), (u 16), (u 17), (u 18), (u 19), (u 20), (u 21), .ref 368, .int tm, .ref 369, .ref 370, .ref 371, (u 27)])), (360, .inr (.inl (0, w))), (362, .inr (.inl (0, sd))), (363, .inr (.inl (0, ot))), (368, .inr (.inl (0, tk)))]) rfl K rfl (Nat.le_of_ble_eq_true rfl) rfl (Or.inl rfl) rfl rfl (fun h K => ?_)
  refine j_V.ldL mbr_M mbr_5 rfl (i := 0) (kd := 2) (v := .ref 359) (pcJ := 6) rfl L rfl rfl rfl ?_
  refine j_V.ldL mbr_M mbr_6 rfl (i := 1) (kd := 0) (v := .int v) (pcJ := 7) rfl L rfl rfl rfl ?_
  refine j_V.putK mbr_M mbr_7 (ci := 10) (j := 10) (k' := [(359, .inl (10, [.int 0, .ref 360, .ref 361, .ref 362, .ref 363, .ref 364, .ref 365, .ref 366, .ref 367, (u 9), .int v, (u 11), (u 12), .int acs, (u 14), (u 15), (u 16), (u 17), (u 18), (u 19), (u 20), (u 21), .ref 368, .int tm, .ref 369, .ref 370, .ref 371, (u 27)])), (360, .inr (.inl (0, w))), (362, .inr (.inl (0, sd))), (363, .inr (.inl (0, ot))), (368, .inr (.inl (0, tk)))]) rfl K rfl (Nat.le_of_ble_eq_true rfl) rfl (Or.inl rfl) rfl rfl (fun h K => ?_)
  refine j_V.one mbr_M mbr_10 (by decide) (pcJ := 11) (stJ := [.int (-1)]) rfl ?_
  exact j_V.ret mbr_M mbr_11 rfl rfl ⟨⟨_, rfl⟩, K⟩
set_option maxRecDepth 100000 in
theorem mbg_0 : j_code jP 170 0 = some (.aload_n 0) := rfl
set_option maxRecDepth 100000 in
theorem mbg_1 : j_code jP 170 1 = some (.iconst 0) := rfl
set_option maxRecDepth 100000 in
theorem mbg_2 : j_code jP 170 2 = some (.putfield 55) := rfl
set_option maxRecDepth 100000 in
theorem mbg_5 : j_code jP 170 5 = some (.aload_n 0) := rfl
set_option maxRecDepth 100000 in
theorem mbg_6 : j_code jP 170 6 = some (.iconst 0) := rfl
set_option maxRecDepth 100000 in
theorem mbg_7 : j_code jP 170 7 = some (.putfield 58) := rfl
set_option maxRecDepth 100000 in
theorem mbg_10 : j_code jP 170 10 = some (.iload_n 1) := rfl
set_option maxRecDepth 100000 in
theorem mbg_11 : j_code jP 170 11 = some (.ireturn) := rfl
theorem mbg_ok {u : Nat → Value} {d : Nat} {h h0 : J_H} {th sst acs tm v : Int32} {w sd ot tk : List Int32} (K : KN h [(359, .inl (10, [.int th, .ref 360, .ref 361, .ref 362, .ref 363, .ref 364, .ref 365, .ref 366, .ref 367, (u 9), .int sst, (u 11), (u 12), .int acs, (u 14), (u 15), (u 16), (u 17), (u 18), (u 19), (u 20), (u 21), .ref 368, .int tm, .ref 369, .ref 370, .ref 371, (u 27)])), (360, .inr (.inl (0, w))), (362, .inr (.inl (0, sd))), (363, .inr (.inl (0, ot))), (368, .inr (.inl (0, tk)))] h0) : j_V jP d 170 0 (lv_args 0 [.ref 359, .int v]) [] h (fun rv h' => (∃ z, rv = some (.int z)) ∧ KN h' [(359, .inl (10, [.int 0, .ref 360, .ref 361, .ref 362, .ref 363, .ref 364, .ref 365, .ref 366, .ref 367, (u 9), .int 0, (u 11), (u 12), .int acs, (u 14), (u 15), (u 16), (u 17), (u 18), (u 19), (u 20), (u 21), .ref 368, .int tm, .ref 369, .ref 370, .ref 371, (u 27)])), (360, .inr (.inl (0, w))), (362, .inr (.inl (0, sd))), (363, .inr (.inl (0, ot))), (368, .inr (.inl (0, tk)))] h0) := by
  show j_V jP d 170 0 [(0, .ref 359), (1, .int v)] [] h _
  obtain ⟨lv, elv, L⟩ : ∃ lv, lv = [(0, .ref 359), (1, .int v)] ∧ LK lv [(0, .ref 359), (1, .int v)] := ⟨_, rfl, LK.rf⟩
  rw [← elv]
  clear elv
  refine j_V.ldL mbg_M mbg_0 rfl (i := 0) (kd := 2) (v := .ref 359) (pcJ := 1) rfl L rfl rfl rfl ?_
  refine j_V.one mbg_M mbg_1 (by decide) (pcJ := 2) (stJ := [.int 0, .ref 359]) rfl ?_
  refine j_V.putK mbg_M mbg_2 (ci := 10) (j := 0) (k' := [(359, .inl (10, [.int 0, .ref 360, .ref 361, .ref 362, .ref 363, .ref 364, .ref 365, .ref 366, .ref 367, (u 9), .int sst, (u 11), (u 12), .int acs, (u 14), (u 15), (u 16), (u 17), (u 18), (u 19), (u 20), (u 21), .ref 368, .int tm, .ref 369, .ref 370, .ref 371, (u 27)])), (360, .inr (.inl (0, w))), (362, .inr (.inl (0, sd))), (363, .inr (.inl (0, ot))), (368, .inr (.inl (0, tk)))]) rfl K rfl (Nat.le_of_ble_eq_true rfl) rfl (Or.inl rfl) rfl rfl (fun h K => ?_)
  refine j_V.ldL mbg_M mbg_5 rfl (i := 0) (kd := 2) (v := .ref 359) (pcJ := 6) rfl L rfl rfl rfl ?_
  refine j_V.one mbg_M mbg_6 (by decide) (pcJ := 7) (stJ := [.int 0, .ref 359]) rfl ?_
  refine j_V.putK mbg_M mbg_7 (ci := 10) (j := 10) (k' := [(359, .inl (10, [.int 0, .ref 360, .ref 361, .ref 362, .ref 363, .ref 364, .ref 365, .ref 366, .ref 367, (u 9), .int 0, (u 11), (u 12), .int acs, (u 14), (u 15), (u 16), (u 17), (u 18), (u 19), (u 20), (u 21), .ref 368, .int tm, .ref 369, .ref 370, .ref 371, (u 27)])), (360, .inr (.inl (0, w))), (362, .inr (.inl (0, sd))), (363, .inr (.inl (0, ot))), (368, .inr (.inl (0, tk)))]) rfl K rfl (Nat.le_of_ble_eq_true rfl) rfl (Or.inl rfl) rfl rfl (fun h K => ?_)
  refine j_V.ldL mbg_M mbg_10 rfl (i := 1) (kd := 0) (v := .int v) (pcJ := 11) rfl L rfl rfl rfl ?_
  exact j_V.ret mbg_M mbg_11 rfl rfl ⟨⟨_, rfl⟩, K⟩
set_option maxRecDepth 100000 in
theorem mbk_0 : j_code jP 261 0 = some (.aload_n 0) := rfl
set_option maxRecDepth 100000 in
theorem mbk_1 : j_code jP 261 1 = some (.getfield 16) := rfl
set_option maxRecDepth 100000 in
theorem mbk_4 : j_code jP 261 4 = some (.aload_n 0) := rfl
set_option maxRecDepth 100000 in
theorem mbk_5 : j_code jP 261 5 = some (.getfield 7) := rfl
set_option maxRecDepth 100000 in
theorem mbk_8 : j_code jP 261 8 = some (.invokestatic 188) := rfl
set_option maxRecDepth 100000 in
theorem mbk_11 : j_code jP 261 11 = some (.aload_n 0) := rfl
set_option maxRecDepth 100000 in
theorem mbk_12 : j_code jP 261 12 = some (.iload_n 1) := rfl
set_option maxRecDepth 100000 in
theorem mbk_13 : j_code jP 261 13 = some (.invokevirtual 195) := rfl
set_option maxRecDepth 100000 in
theorem mbk_16 : j_code jP 261 16 = some (.ireturn) := rfl
theorem mbk_ok {u : Nat → Value} {d : Nat} {h h0 : J_H} {th sst acs tm v : Int32} {w sd ot tk : List Int32} (hw : w.length = 602) (hsd : sd.length = 602) (K : KN h [(359, .inl (10, [.int th, .ref 360, .ref 361, .ref 362, .ref 363, .ref 364, .ref 365, .ref 366, .ref 367, (u 9), .int sst, (u 11), (u 12), .int acs, (u 14), (u 15), (u 16), (u 17), (u 18), (u 19), (u 20), (u 21), .ref 368, .int tm, .ref 369, .ref 370, .ref 371, (u 27)])), (360, .inr (.inl (0, w))), (362, .inr (.inl (0, sd))), (363, .inr (.inl (0, ot))), (368, .inr (.inl (0, tk)))] h0) : j_V jP d 261 0 (lv_args 0 [.ref 359, .int v]) [] h (fun rv h' => (∃ z, rv = some (.int z)) ∧ KN h' [(359, .inl (10, [.int 0, .ref 360, .ref 361, .ref 362, .ref 363, .ref 364, .ref 365, .ref 366, .ref 367, (u 9), .int 0, (u 11), (u 12), .int acs, (u 14), (u 15), (u 16), (u 17), (u 18), (u 19), (u 20), (u 21), .ref 368, .int tm, .ref 369, .ref 370, .ref 371, (u 27)])), (360, .inr (.inl (0, sd))), (362, .inr (.inl (0, sd))), (363, .inr (.inl (0, ot))), (368, .inr (.inl (0, tk)))] h0) := by
  show j_V jP d 261 0 [(0, .ref 359), (1, .int v)] [] h _
  obtain ⟨lv, elv, L⟩ : ∃ lv, lv = [(0, .ref 359), (1, .int v)] ∧ LK lv [(0, .ref 359), (1, .int v)] := ⟨_, rfl, LK.rf⟩
  rw [← elv]
  clear elv
  refine j_V.ldL mbk_M mbk_0 rfl (i := 0) (kd := 2) (v := .ref 359) (pcJ := 1) rfl L rfl rfl rfl ?_
  refine j_V.getK mbk_M mbk_1 (ci := 10) (j := 3) rfl K rfl rfl ?_
  refine j_V.ldL mbk_M mbk_4 rfl (i := 0) (kd := 2) (v := .ref 359) (pcJ := 5) rfl L rfl rfl rfl ?_
  refine j_V.getK mbk_M mbk_5 (ci := 10) (j := 1) rfl K rfl rfl ?_
  refine j_V.cl mbk_M mbk_8 rfl (md := 2) (mj := 201) rfl (by decide) mbc_M (As := [.ref 362, .ref 360]) (rest := []) (jk_spl2 rfl rfl (Nat.le_of_ble_eq_true rfl) (Nat.le_of_ble_eq_true rfl)) (fun d => ((jcp_ok _ h 362 360 _ _ (K.at (a := 362) rfl) (K.at (a := 360) rfl) hsd hw (by decide)).mono (fun r h' q => (⟨q.1, by rw [q.2]; exact (K.sub (l := [(360, .inr (.inl (0, w)))]) ⟨rfl, trivial⟩).set rfl rfl⟩ : r = none ∧ KN h' [(360, .inr (.inl (0, sd)))] h))).toV) ?_
  rintro r h9 ⟨rfl, K9⟩
  have K : KN h9 [(359, .inl (10, [.int th, .ref 360, .ref 361, .ref 362, .ref 363, .ref 364, .ref 365, .ref 366, .ref 367, (u 9), .int sst, (u 11), (u 12), .int acs, (u 14), (u 15), (u 16), (u 17), (u 18), (u 19), (u 20), (u 21), .ref 368, .int tm, .ref 369, .ref 370, .ref 371, (u 27)])), (360, .inr (.inl (0, sd))), (362, .inr (.inl (0, sd))), (363, .inr (.inl (0, ot))), (368, .inr (.inl (0, tk)))] h0 := K.mg K9 rfl rfl
  clear K9
  show j_V jP _ 261 11 lv [] h9 _
  refine j_V.ldL mbk_M mbk_11 rfl (i := 0) (kd := 2) (v := .ref 359) (pcJ := 12) rfl L rfl rfl rfl ?_
  refine j_V.ldL mbk_M mbk_12 rfl (i := 1) (kd := 0) (v := .int v) (pcJ := 13) rfl L rfl rfl rfl ?_
  refine j_V.cl mbk_M mbk_13 rfl (md := 3) (mj := 170) rfl (by decide) mbg_M (As := [.ref 359, .int v]) (rest := []) (jk_spl3 (K.at rfl) rfl rfl rfl (Nat.le_of_ble_eq_true rfl) (Nat.le_of_ble_eq_true rfl)) (fun d => mbg_ok K) ?_
  rintro r h9 ⟨⟨v8, rfl⟩, K⟩
  show j_V jP _ 261 16 lv [.int v8] h9 _
  exact j_V.ret mbk_M mbk_16 rfl rfl ⟨⟨_, rfl⟩, K⟩
set_option maxRecDepth 1000000 in
theorem mbu_l {u : Nat → Value} {n d no nk : Nat} {h0 : J_H} {th sst acs x1 : Int32} {sd : List Int32} (h5 : n ≤ 5) (hsd : sd.length = 602) : ∀ (f i : Nat) (v3 v4 tm : Int32) (w ot tk : List Int32) (lv : J_L) (h : J_H), i + f = n → LK lv [(0, .ref 359), (1, .int x1), (2, .int (nI n)), (3, .int v3), (4, .int v4), (5, .int (nI i))] → w.length = 602 → ot.length = no → tk.length = nk → KN h [(359, .inl (10, [.int th, .ref 360, .ref 361, .ref 362, .ref 363, .ref 364, .ref 365, .ref 366, .ref 367, (u 9), .int sst, (u 11), (u 12), .int acs, (u 14), (u 15), (u 16), (u 17), (u 18), (u 19), (u 20), (u 21), .ref 368, .int tm, .ref 369, .ref 370, .ref 371, (u 27)])), (360, .inr (.inl (0, w))), (362, .inr (.inl (0, sd))), (363, .inr (.inl (0, ot))), (368, .inr (.inl (0, tk)))] h0 → j_V jP d 276 40 lv [] h (fun rv h' => ∃ (th' tm' : Int32) (sd' ot' tk' : List Int32), (sd'.length = 602 ∧ ot'.length = no ∧ tk'.length = nk) ∧ KN h' [(359, .inl (10, [.int th', .ref 360, .ref 361, .ref 362, .ref 363, .ref 364, .ref 365, .ref 366, .ref 367, (u 9), .int 0, (u 11), (u 12), .int acs, (u 14), (u 15), (u 16), (u 17), (u 18), (u 19), (u 20), (u 21), .ref 368, .int tm', .ref 369, .ref 370, .ref 371, (u 27)])), (360, .inr (.inl (0, sd))), (362, .inr (.inl (0, sd'))), (363, .inr (.inl (0, ot'))), (368, .inr (.inl (0, tk')))] h0) := by
  intro f
  induction f with
  | zero =>
    intro i v3 v4 tm w ot tk lv h e L hw hot htk K
    have hin : i = n := by omega
    have e0 : ¬ nI i < nI n := by
      rw [hin]
      exact fun z => absurd (Int32.lt_iff_toInt_lt.mp z) (Int.lt_irrefl _)
    refine j_V.ldL mbu_M mbu_40 rfl (i := 5) (kd := 0) (v := .int (nI i)) (pcJ := 42) rfl L rfl rfl rfl ?_
    refine j_V.ldL mbu_M mbu_42 rfl (i := 2) (kd := 0) (v := .int (nI n)) (pcJ := 43) rfl L rfl rfl rfl ?_
    refine j_V.icmp mbu_M mbu_43 (t := 98) rfl (fun c43_0 => ?_) (fun c43_0 => ?_)
    · replace c43_0 : ¬ ((nI i) < (nI n)) := jd_ge c43_0
      refine j_V.ldL mbu_M mbu_98 rfl (i := 0) (kd := 2) (v := .ref 359) (pcJ := 99) rfl L rfl rfl rfl ?_
      refine j_V.ldL mbu_M mbu_99 rfl (i := 1) (kd := 0) (v := .int x1) (pcJ := 100) rfl L rfl rfl rfl ?_
      refine j_V.ifc mbu_M mbu_100 (t := 108) rfl (fun c100_0 => ?_) (fun c100_0 => ?_)
      · replace c100_0 : x1 = 0 := jd_eq c100_0
        refine j_V.ldL mbu_M mbu_108 rfl (i := 3) (kd := 0) (v := .int v3) (pcJ := 109) rfl L rfl rfl rfl ?_
        refine j_V.cl mbu_M mbu_109 rfl (md := 3) (mj := 261) rfl (by decide) mbk_M (As := [.ref 359, .int v3]) (rest := []) (jk_spl3 (K.at rfl) rfl rfl rfl (Nat.le_of_ble_eq_true rfl) (Nat.le_of_ble_eq_true rfl)) (fun d => mbk_ok hw hsd K) ?_
        rintro r h9 ⟨⟨v8, rfl⟩, K⟩
        show j_V jP _ 276 112 lv [.int v8] h9 _
        exact j_V.ret mbu_M mbu_112 rfl rfl ⟨_, _, sd, _, _, ⟨hsd, hot, htk⟩, K⟩
      · replace c100_0 : ¬ (x1 = 0) := jd_eqn c100_0
        refine j_V.ldL mbu_M mbu_103 rfl (i := 4) (kd := 0) (v := .int v4) (pcJ := 105) rfl L rfl rfl rfl ?_
        refine j_V.gto mbu_M mbu_105 (t := 109) rfl ?_
        refine j_V.cl mbu_M mbu_109 rfl (md := 3) (mj := 261) rfl (by decide) mbk_M (As := [.ref 359, .int v4]) (rest := []) (jk_spl3 (K.at rfl) rfl rfl rfl (Nat.le_of_ble_eq_true rfl) (Nat.le_of_ble_eq_true rfl)) (fun d => mbk_ok hw hsd K) ?_
        rintro r h9 ⟨⟨v8, rfl⟩, K⟩
        show j_V jP _ 276 112 lv [.int v8] h9 _
        exact j_V.ret mbu_M mbu_112 rfl rfl ⟨_, _, sd, _, _, ⟨hsd, hot, htk⟩, K⟩
    · replace c43_0 : (nI i) < (nI n) := jd_gen c43_0
      exact absurd c43_0 e0
  | succ f ih =>
    intro i v3 v4 tm w ot tk lv h e L hw hot htk K
    have e0 : nI i < nI n := nI_lt (a := i) (b := n) (by omega) (by omega)
    have en : (nI i) + 1 = nI (i + 1) := (Int32.ofNat_add i 1).symm
    refine j_V.ldL mbu_M mbu_40 rfl (i := 5) (kd := 0) (v := .int (nI i)) (pcJ := 42) rfl L rfl rfl rfl ?_
    refine j_V.ldL mbu_M mbu_42 rfl (i := 2) (kd := 0) (v := .int (nI n)) (pcJ := 43) rfl L rfl rfl rfl ?_
    refine j_V.icmp mbu_M mbu_43 (t := 98) rfl (fun c43_0 => ?_) (fun c43_0 => ?_)
    · replace c43_0 : ¬ ((nI i) < (nI n)) := jd_ge c43_0
      exact absurd e0 c43_0
    · replace c43_0 : (nI i) < (nI n) := jd_gen c43_0
      refine j_V.ldL mbu_M mbu_46 rfl (i := 0) (kd := 2) (v := .ref 359) (pcJ := 47) rfl L rfl rfl rfl ?_
      refine j_V.getK mbu_M mbu_47 (ci := 10) (j := 3) rfl K rfl rfl ?_
      refine j_V.ldL mbu_M mbu_50 rfl (i := 0) (kd := 2) (v := .ref 359) (pcJ := 51) rfl L rfl rfl rfl ?_
      refine j_V.getK mbu_M mbu_51 (ci := 10) (j := 1) rfl K rfl rfl ?_
      refine j_V.cl mbu_M mbu_54 rfl (md := 2) (mj := 201) rfl (by decide) mbc_M (As := [.ref 362, .ref 360]) (rest := []) (jk_spl2 rfl rfl (Nat.le_of_ble_eq_true rfl) (Nat.le_of_ble_eq_true rfl)) (fun d => ((jcp_ok _ h 362 360 _ _ (K.at (a := 362) rfl) (K.at (a := 360) rfl) hsd hw (by decide)).mono (fun r h' q => (⟨q.1, by rw [q.2]; exact (K.sub (l := [(360, .inr (.inl (0, w)))]) ⟨rfl, trivial⟩).set rfl rfl⟩ : r = none ∧ KN h' [(360, .inr (.inl (0, sd)))] h))).toV) ?_
      rintro r h9 ⟨rfl, K9⟩
      have K : KN h9 [(359, .inl (10, [.int th, .ref 360, .ref 361, .ref 362, .ref 363, .ref 364, .ref 365, .ref 366, .ref 367, (u 9), .int sst, (u 11), (u 12), .int acs, (u 14), (u 15), (u 16), (u 17), (u 18), (u 19), (u 20), (u 21), .ref 368, .int tm, .ref 369, .ref 370, .ref 371, (u 27)])), (360, .inr (.inl (0, sd))), (362, .inr (.inl (0, sd))), (363, .inr (.inl (0, ot))), (368, .inr (.inl (0, tk)))] h0 := K.mg K9 rfl rfl
      clear K9
      show j_V jP _ 276 57 lv [] h9 _
      refine j_V.ldL mbu_M mbu_57 rfl (i := 0) (kd := 2) (v := .ref 359) (pcJ := 58) rfl L rfl rfl rfl ?_
      refine j_V.ldL mbu_M mbu_58 rfl (i := 5) (kd := 0) (v := .int (nI i)) (pcJ := 60) rfl L rfl rfl rfl ?_
      refine j_V.cl mbu_M mbu_60 rfl (md := 3) (mj := 275) rfl (by decide) mbd_M (As := [.ref 359, .int (nI i)]) (rest := []) (jk_spl3 (K.at rfl) rfl rfl rfl (Nat.le_of_ble_eq_true rfl) (Nat.le_of_ble_eq_true rfl)) (fun d => jv9_void rfl rfl (mb_op rfl (nrS.cons (fun a q => by cases q; rfl) (nrS.cons (nf.int _) nrS.nil)) K)) ?_
      rintro r h9 ⟨⟨m_1, w_1, o_1, t_1, ⟨la_1, lb_1, lc_1⟩, K⟩, rfl⟩
      show j_V jP _ 276 63 lv [] h9 _
      refine j_V.ldL mbu_M mbu_63 rfl (i := 0) (kd := 2) (v := .ref 359) (pcJ := 64) rfl L rfl rfl rfl ?_
      refine j_V.cl mbu_M mbu_64 rfl (md := 3) (mj := 232) rfl (by decide) mbp_M (As := [.ref 359]) (rest := []) (jk_spl3 (K.at rfl) rfl rfl rfl (Nat.le_of_ble_eq_true rfl) (Nat.le_of_ble_eq_true rfl)) (fun d => jv9_int rfl rfl (mb_op rfl (nrS.cons (fun a q => by cases q; rfl) nrS.nil) K)) ?_
      rintro r h9 ⟨⟨m_2, w_2, o_2, t_2, ⟨la_2, lb_2, lc_2⟩, K⟩, v9, rfl⟩
      show j_V jP _ 276 67 lv [.int v9] h9 _
      refine j_V.stL mbu_M mbu_67 rfl (i := 6) (kd := 0) (kl' := [(0, .ref 359), (1, .int x1), (2, .int (nI n)), (3, .int v3), (4, .int v4), (5, .int (nI i)), (6, .int v9)]) (pcJ := 69) rfl L rfl (by decide) rfl rfl rfl (fun lv L => ?_)
      refine j_V.ldL mbu_M mbu_69 rfl (i := 6) (kd := 0) (v := .int v9) (pcJ := 71) rfl L rfl rfl rfl ?_
      refine j_V.ldL mbu_M mbu_71 rfl (i := 4) (kd := 0) (v := .int v4) (pcJ := 73) rfl L rfl rfl rfl ?_
      refine j_V.icmp mbu_M mbu_73 (t := 81) rfl (fun c73_0 => ?_) (fun c73_0 => ?_)
      · replace c73_0 : ¬ (v9 < v4) := jd_ge c73_0
        refine j_V.ldL mbu_M mbu_81 rfl (i := 3) (kd := 0) (v := .int v3) (pcJ := 82) rfl L rfl rfl rfl ?_
        refine j_V.stL mbu_M mbu_82 rfl (i := 3) (kd := 0) (kl' := [(0, .ref 359), (1, .int x1), (2, .int (nI n)), (3, .int v3), (4, .int v4), (5, .int (nI i)), (6, .int v9)]) (pcJ := 83) rfl L rfl (by decide) rfl rfl rfl (fun lv L => ?_)
        refine j_V.ldL mbu_M mbu_83 rfl (i := 4) (kd := 0) (v := .int v4) (pcJ := 85) rfl L rfl rfl rfl ?_
        refine j_V.ldL mbu_M mbu_85 rfl (i := 6) (kd := 0) (v := .int v9) (pcJ := 87) rfl L rfl rfl rfl ?_
        refine j_V.mn mbu_M mbu_87 rfl rfl (Nat.le_of_ble_eq_true rfl) ?_
        refine j_V.stL mbu_M mbu_90 rfl (i := 4) (kd := 0) (kl' := [(0, .ref 359), (1, .int x1), (2, .int (nI n)), (3, .int v3), (4, .int (iMn v4 v9)), (5, .int (nI i)), (6, .int v9)]) (pcJ := 92) rfl L rfl (by decide) rfl rfl rfl (fun lv L => ?_)
        refine j_V.inL mbu_M mbu_92 (i := 5) (kl' := [(0, .ref 359), (1, .int x1), (2, .int (nI n)), (3, .int v3), (4, .int (iMn v4 v9)), (5, .int ((nI i) + 1)), (6, .int v9)]) (pcJ := 95) L rfl rfl rfl rfl (fun lv L => ?_)
        refine j_V.gto mbu_M mbu_95 (t := 40) rfl ?_
        rw [en] at L
        exact ih (i + 1) _ _ _ _ _ _ _ _ (by omega) (L.sub ⟨rfl, rfl, rfl, rfl, rfl, rfl, trivial⟩) (la_2.trans (la_1.trans hsd)) (lb_2.trans (lb_1.trans hot)) (lc_2.trans (lc_1.trans htk)) K
      · replace c73_0 : v9 < v4 := jd_gen c73_0
        refine j_V.ldL mbu_M mbu_76 rfl (i := 5) (kd := 0) (v := .int (nI i)) (pcJ := 78) rfl L rfl rfl rfl ?_
        refine j_V.gto mbu_M mbu_78 (t := 82) rfl ?_
        refine j_V.stL mbu_M mbu_82 rfl (i := 3) (kd := 0) (kl' := [(0, .ref 359), (1, .int x1), (2, .int (nI n)), (3, .int (nI i)), (4, .int v4), (5, .int (nI i)), (6, .int v9)]) (pcJ := 83) rfl L rfl (by decide) rfl rfl rfl (fun lv L => ?_)
        refine j_V.ldL mbu_M mbu_83 rfl (i := 4) (kd := 0) (v := .int v4) (pcJ := 85) rfl L rfl rfl rfl ?_
        refine j_V.ldL mbu_M mbu_85 rfl (i := 6) (kd := 0) (v := .int v9) (pcJ := 87) rfl L rfl rfl rfl ?_
        refine j_V.mn mbu_M mbu_87 rfl rfl (Nat.le_of_ble_eq_true rfl) ?_
        refine j_V.stL mbu_M mbu_90 rfl (i := 4) (kd := 0) (kl' := [(0, .ref 359), (1, .int x1), (2, .int (nI n)), (3, .int (nI i)), (4, .int (iMn v4 v9)), (5, .int (nI i)), (6, .int v9)]) (pcJ := 92) rfl L rfl (by decide) rfl rfl rfl (fun lv L => ?_)
        refine j_V.inL mbu_M mbu_92 (i := 5) (kl' := [(0, .ref 359), (1, .int x1), (2, .int (nI n)), (3, .int (nI i)), (4, .int (iMn v4 v9)), (5, .int ((nI i) + 1)), (6, .int v9)]) (pcJ := 95) L rfl rfl rfl rfl (fun lv L => ?_)
        refine j_V.gto mbu_M mbu_95 (t := 40) rfl ?_
        rw [en] at L
        exact ih (i + 1) _ _ _ _ _ _ _ _ (by omega) (L.sub ⟨rfl, rfl, rfl, rfl, rfl, rfl, trivial⟩) (la_2.trans (la_1.trans hsd)) (lb_2.trans (lb_1.trans hot)) (lc_2.trans (lc_1.trans htk)) K
set_option maxRecDepth 1000000 in
theorem mbu_ok {u : Nat → Value} {n d : Nat} {h h0 : J_H} {th sst acs tm x1 : Int32} {w sd ot tk : List Int32} (h5 : n ≤ 5) (hn : gA w 203 = nI n) (hw : w.length = 602) (hsd : sd.length = 602) (K : KN h [(359, .inl (10, [.int th, .ref 360, .ref 361, .ref 362, .ref 363, .ref 364, .ref 365, .ref 366, .ref 367, (u 9), .int sst, (u 11), (u 12), .int acs, (u 14), (u 15), (u 16), (u 17), (u 18), (u 19), (u 20), (u 21), .ref 368, .int tm, .ref 369, .ref 370, .ref 371, (u 27)])), (360, .inr (.inl (0, w))), (362, .inr (.inl (0, sd))), (363, .inr (.inl (0, ot))), (368, .inr (.inl (0, tk)))] h0) : j_V jP d 276 0 (lv_args 0 [.ref 359, .int x1]) [] h (fun rv h' => ∃ (th' tm' : Int32) (sd' ot' tk' : List Int32), (sd'.length = 602 ∧ ot'.length = ot.length ∧ tk'.length = tk.length) ∧ KN h' [(359, .inl (10, [.int th', .ref 360, .ref 361, .ref 362, .ref 363, .ref 364, .ref 365, .ref 366, .ref 367, (u 9), .int (if n = 0 then 5 else 0 : Int32), (u 11), (u 12), .int acs, (u 14), (u 15), (u 16), (u 17), (u 18), (u 19), (u 20), (u 21), .ref 368, .int tm', .ref 369, .ref 370, .ref 371, (u 27)])), (360, .inr (.inl (0, w))), (362, .inr (.inl (0, sd'))), (363, .inr (.inl (0, ot'))), (368, .inr (.inl (0, tk')))] h0) := by
  have e9 : gA w 203 = 0 → n = 0 := fun z => by
    rw [hn] at z
    have := congrArg Int32.toInt z
    rw [nI_toInt (by omega)] at this
    have e8 : (0 : Int32).toInt = 0 := rfl
    omega
  show j_V jP d 276 0 [(0, .ref 359), (1, .int x1)] [] h _
  obtain ⟨lv, elv, L⟩ : ∃ lv, lv = [(0, .ref 359), (1, .int x1)] ∧ LK lv [(0, .ref 359), (1, .int x1)] := ⟨_, rfl, LK.rf⟩
  rw [← elv]
  clear elv
  refine j_V.ldL mbu_M mbu_0 rfl (i := 0) (kd := 2) (v := .ref 359) (pcJ := 1) rfl L rfl rfl rfl ?_
  refine j_V.getK mbu_M mbu_1 (ci := 10) (j := 1) rfl K rfl rfl ?_
  refine j_V.one mbu_M mbu_4 (by decide) (pcJ := 7) (stJ := [.int 203, .ref 360]) rfl ?_
  refine j_V.iaA mbu_M mbu_7 K rfl ?_
  refine j_V.stL mbu_M mbu_8 rfl (i := 2) (kd := 0) (kl' := [(0, .ref 359), (1, .int x1), (2, .int (gA w 203))]) (pcJ := 9) rfl L rfl (by decide) rfl rfl rfl (fun lv L => ?_)
  refine j_V.ldL mbu_M mbu_9 rfl (i := 2) (kd := 0) (v := .int (gA w 203)) (pcJ := 10) rfl L rfl rfl rfl ?_
  refine j_V.ifc mbu_M mbu_10 (t := 19) rfl (fun c10_0 => ?_) (fun c10_0 => ?_)
  · replace c10_0 : ¬ ((gA w 203) = 0) := jd_ne c10_0
    refine j_V.one mbu_M mbu_19 (by decide) (pcJ := 20) (stJ := [.int (-1)]) rfl ?_
    refine j_V.stL mbu_M mbu_20 rfl (i := 3) (kd := 0) (kl' := [(0, .ref 359), (1, .int x1), (2, .int (gA w 203)), (3, .int (-1))]) (pcJ := 21) rfl L rfl (by decide) rfl rfl rfl (fun lv L => ?_)
    refine j_V.one mbu_M mbu_21 (by decide) (pcJ := 24) (stJ := [.int (2147483647 : Int32)]) rfl ?_
    refine j_V.stL mbu_M mbu_24 rfl (i := 4) (kd := 0) (kl' := [(0, .ref 359), (1, .int x1), (2, .int (gA w 203)), (3, .int (-1)), (4, .int (2147483647 : Int32))]) (pcJ := 26) rfl L rfl (by decide) rfl rfl rfl (fun lv L => ?_)
    refine j_V.ldL mbu_M mbu_26 rfl (i := 0) (kd := 2) (v := .ref 359) (pcJ := 27) rfl L rfl rfl rfl ?_
    refine j_V.getK mbu_M mbu_27 (ci := 10) (j := 1) rfl K rfl rfl ?_
    refine j_V.ldL mbu_M mbu_30 rfl (i := 0) (kd := 2) (v := .ref 359) (pcJ := 31) rfl L rfl rfl rfl ?_
    refine j_V.getK mbu_M mbu_31 (ci := 10) (j := 3) rfl K rfl rfl ?_
    refine j_V.cl mbu_M mbu_34 rfl (md := 2) (mj := 201) rfl (by decide) mbc_M (As := [.ref 360, .ref 362]) (rest := []) (jk_spl2 rfl rfl (Nat.le_of_ble_eq_true rfl) (Nat.le_of_ble_eq_true rfl)) (fun d => ((jcp_ok _ h 360 362 _ _ (K.at (a := 360) rfl) (K.at (a := 362) rfl) hw hsd (by decide)).mono (fun r h' q => (⟨q.1, by rw [q.2]; exact (K.sub (l := [(362, .inr (.inl (0, sd)))]) ⟨rfl, trivial⟩).set rfl rfl⟩ : r = none ∧ KN h' [(362, .inr (.inl (0, w)))] h))).toV) ?_
    rintro r h9 ⟨rfl, K9⟩
    have K : KN h9 [(359, .inl (10, [.int th, .ref 360, .ref 361, .ref 362, .ref 363, .ref 364, .ref 365, .ref 366, .ref 367, (u 9), .int sst, (u 11), (u 12), .int acs, (u 14), (u 15), (u 16), (u 17), (u 18), (u 19), (u 20), (u 21), .ref 368, .int tm, .ref 369, .ref 370, .ref 371, (u 27)])), (360, .inr (.inl (0, w))), (362, .inr (.inl (0, w))), (363, .inr (.inl (0, ot))), (368, .inr (.inl (0, tk)))] h0 := K.mg K9 rfl rfl
    clear K9
    show j_V jP _ 276 37 lv [] h9 _
    refine j_V.one mbu_M mbu_37 (by decide) (pcJ := 38) (stJ := [.int 0]) rfl ?_
    refine j_V.stL mbu_M mbu_38 rfl (i := 5) (kd := 0) (kl' := [(0, .ref 359), (1, .int x1), (2, .int (gA w 203)), (3, .int (-1)), (4, .int (2147483647 : Int32)), (5, .int 0)]) (pcJ := 40) rfl L rfl (by decide) rfl rfl rfl (fun lv L => ?_)
    rw [if_neg (show ¬ n = 0 from fun z => c10_0 (by rw [hn, z]; rfl))]
    rw [hn] at L
    exact mbu_l h5 hw n 0 _ _ _ _ _ _ _ _ (Nat.zero_add n) L hw rfl rfl K
  · replace c10_0 : (gA w 203) = 0 := jd_nen c10_0
    refine j_V.ldL mbu_M mbu_13 rfl (i := 0) (kd := 2) (v := .ref 359) (pcJ := 14) rfl L rfl rfl rfl ?_
    refine j_V.one mbu_M mbu_14 (by decide) (pcJ := 15) (stJ := [.int 5, .ref 359]) rfl ?_
    refine j_V.cl mbu_M mbu_15 rfl (md := 3) (mj := 169) rfl (by decide) mbr_M (As := [.ref 359, .int 5]) (rest := []) (jk_spl3 (K.at rfl) rfl rfl rfl (Nat.le_of_ble_eq_true rfl) (Nat.le_of_ble_eq_true rfl)) (fun d => mbr_ok K) ?_
    rintro r h9 ⟨⟨v8, rfl⟩, K⟩
    show j_V jP _ 276 18 lv [.int v8] h9 _
    exact j_V.ret mbu_M mbu_18 rfl rfl (by rw [if_pos (show n = 0 from e9 c10_0)]; exact ⟨_, _, sd, _, _, ⟨hsd, rfl, rfl⟩, K⟩)

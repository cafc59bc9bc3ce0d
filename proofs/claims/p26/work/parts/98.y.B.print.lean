/-! print of both sides, the text left free: written by wip/py/gen_pr.py -/
def nbX (ci j : Nat) : Bool := Nat.beq ci 6 && Nat.beq j 1
def nbM (ci j : Nat) : Bool := Nat.beq ci 10 && (Nat.beq j 0 || (Nat.beq j 10 || Nat.beq j 27))
def nbSX (m : Nat) : Bool := ([51, 52, 53, 54, 55, 56, 57] : List Nat).any (Nat.beq m)
def nbSM (m : Nat) : Bool := ([170, 176, 177, 178, 186, 187, 291, 292, 293, 294, 295, 296] : List Nat).any (Nat.beq m)
set_option maxRecDepth 1000000 in
theorem nb_NX : nb_N jP nbSX nbX := nb_N_of (by decide +kernel)
set_option maxRecDepth 1000000 in
theorem nb_NM : nb_N jP nbSM nbM := nb_N_of (by decide +kernel)
/-- a method whose answer is a long answers a long -/
theorem jv9_retl {ins : Instr} {st : List Value} {r : Option Value} (h : j_ret (some .long) ins st = some r) : ∃ v, r = some (.long v) := by
  unfold j_ret at h
  split at h
  · rename_i e
    cases e
    split at h
    · rename_i q
      exact absurd (show false = true from q) (by decide)
    · cases h
  all_goals first
    | (cases h; done)
    | (cases h; exact ⟨_, rfl⟩)
    | (rename_i z _; cases z; done)
    | (rename_i z; cases z; done)
    | (simp_all; done)
theorem jv9_lng0 {P : j_P} : ∀ (f d mi pc : Nat) (lv : J_L) (st : List Value) (h : J_H) (r : Option Value) (hf : J_H) (M : j_M), j_meth P mi = some M → j_rt M = some .long → j_run P f d mi pc lv st h = some (r, hf) → ∃ v, r = some (.long v) := by
  intro f
  induction f with
  | zero => intro d mi pc lv st h r hf M _ _ hj; cases hj
  | succ f ih =>
    intro d mi pc lv st h r hf M hM hrt hj
    unfold j_run at hj
    rw [hM] at hj
    split at hj
    · rename_i M' ins hM' hins
      cases hM'
      split at hj
      · obtain ⟨x, hx, he⟩ := Option.map_eq_some_iff.mp hj
        cases he
        rw [hrt] at hx
        exact jv9_retl hx
      · split at hj
        · split at hj
          · exact ih _ _ _ _ _ _ _ _ M hM hrt hj
          · cases hj
        · split at hj
          · exact ih _ _ _ _ _ _ _ _ M hM hrt hj
          · cases hj
        · split at hj
          · exact ih _ _ _ _ _ _ _ _ M hM hrt hj
          · cases hj
        · split at hj
          · exact ih _ _ _ _ _ _ _ _ M hM hrt hj
          · cases hj
        · split at hj
          · split at hj
            · split at hj
              · exact ih _ _ _ _ _ _ _ _ M hM hrt hj
              · cases hj
            · cases hj
          · cases hj
        · cases hj
      · split at hj
        · exact ih _ _ _ _ _ _ _ _ M hM hrt hj
        · cases hj
    · cases hj
theorem jv9_lng {P : j_P} {d mi : Nat} {lv : J_L} {st : List Value} {h : J_H} {M : j_M} {Q : Option Value → J_H → Prop} (hM : j_meth P mi = some M) (hrt : j_rt M = some .long) (k : j_V P d mi 0 lv st h Q) : j_V P d mi 0 lv st h (fun r h' => Q r h' ∧ ∃ v, r = some (.long v)) := fun f r h' hj => ⟨k f r h' hj, jv9_lng0 f d mi 0 lv st h r h' M hM hrt hj⟩
/-- an object of three fields or so: what is left of it -/
theorem nbR.sheet {h h' : J_H} (R : nbR nbX h h') {x : Value} {y : Int32} (hc : h[325]? = some (.inl (6, [x, .int y]))) : ∃ y', h'[325]? = some (.inl (6, [x, .int y'])) := by
  obtain ⟨c', e, fs', rfl, l, k⟩ := R.2 _ _ hc
  obtain ⟨y', ey⟩ := (k 1).2 y rfl
  have e0 := (k 0).1 rfl
  match fs', l with
  | [a, b], _ =>
    cases e0
    cases ey
    exact ⟨y', e⟩
theorem nbR.mobj {u : Nat → Value} {h h' : J_H} {th sst om : Int32} {w : List Int32} (R : nbR nbM h h') (K : kA h [(359, .inl (10, [.int th, .ref 360, .ref 361, .ref 362, .ref 363, .ref 364, .ref 365, .ref 366, .ref 367, (u 9), .int sst, (u 11), (u 12), (u 13), (u 14), (u 15), (u 16), (u 17), (u 18), (u 19), (u 20), (u 21), .ref 368, (u 23), .ref 369, .ref 370, .ref 371, .int om])), (360, .inr (.inl (0, w)))]) : ∃ th' sst' om', kA h' [(359, .inl (10, [.int th', .ref 360, .ref 361, .ref 362, .ref 363, .ref 364, .ref 365, .ref 366, .ref 367, (u 9), .int sst', (u 11), (u 12), (u 13), (u 14), (u 15), (u 16), (u 17), (u 18), (u 19), (u 20), (u 21), .ref 368, (u 23), .ref 369, .ref 370, .ref 371, .int om'])), (360, .inr (.inl (0, w)))] := by
  obtain ⟨c0, c1, -⟩ := K
  obtain ⟨c', e, fs', rfl, l, k⟩ := R.2 _ _ c0
  obtain ⟨x0, e0⟩ := (k 0).2 th rfl
  obtain ⟨x10, e10⟩ := (k 10).2 sst rfl
  obtain ⟨x27, e27⟩ := (k 27).2 om rfl
  have ef : fs' = [.int x0, .ref 360, .ref 361, .ref 362, .ref 363, .ref 364, .ref 365, .ref 366, .ref 367, (u 9), .int x10, (u 11), (u 12), (u 13), (u 14), (u 15), (u 16), (u 17), (u 18), (u 19), (u 20), (u 21), .ref 368, (u 23), .ref 369, .ref 370, .ref 371, .int x27] := List.ext_getElem? (fun j => by
    by_cases a0 : j = 0
    · rw [a0]; exact e0
    by_cases a1 : j = 10
    · rw [a1]; exact e10
    by_cases a2 : j = 27
    · rw [a2]; exact e27
    rw [(k j).1 (by unfold nbM; rw [jc_nbeq a0, jc_nbeq a1, jc_nbeq a2]; rfl)]
    match j, a0, a1, a2 with
    | 0, a0, a1, a2 => exact absurd rfl a0
    | 1, a0, a1, a2 => rfl
    | 2, a0, a1, a2 => rfl
    | 3, a0, a1, a2 => rfl
    | 4, a0, a1, a2 => rfl
    | 5, a0, a1, a2 => rfl
    | 6, a0, a1, a2 => rfl
    | 7, a0, a1, a2 => rfl
    | 8, a0, a1, a2 => rfl
    | 9, a0, a1, a2 => rfl
    | 10, a0, a1, a2 => exact absurd rfl a1
    | 11, a0, a1, a2 => rfl
    | 12, a0, a1, a2 => rfl
    | 13, a0, a1, a2 => rfl
    | 14, a0, a1, a2 => rfl
    | 15, a0, a1, a2 => rfl
    | 16, a0, a1, a2 => rfl
    | 17, a0, a1, a2 => rfl
    | 18, a0, a1, a2 => rfl
    | 19, a0, a1, a2 => rfl
    | 20, a0, a1, a2 => rfl
    | 21, a0, a1, a2 => rfl
    | 22, a0, a1, a2 => rfl
    | 23, a0, a1, a2 => rfl
    | 24, a0, a1, a2 => rfl
    | 25, a0, a1, a2 => rfl
    | 26, a0, a1, a2 => rfl
    | 27, a0, a1, a2 => exact absurd rfl a2
    | j + 28, _, _, _ => rfl)
  rw [ef] at e
  exact ⟨x0, x10, x27, e, R.int0 c1, trivial⟩
set_option maxRecDepth 100000 in
theorem pca_M : j_meth jP 158 = some (yX9_print, cX9_print, 1, (some .int), 0, false, 9) := rfl
set_option maxRecDepth 100000 in
theorem pca_0 : j_code jP 158 0 = some (.aload_n 0) := rfl
set_option maxRecDepth 100000 in
theorem pca_1 : j_code jP 158 1 = some (.getfield 51) := rfl
set_option maxRecDepth 100000 in
theorem pca_4 : j_code jP 158 4 = some (.aload_n 0) := rfl
set_option maxRecDepth 100000 in
theorem pca_5 : j_code jP 158 5 = some (.getfield 58) := rfl
set_option maxRecDepth 100000 in
theorem pca_8 : j_code jP 158 8 = some (.aload_n 0) := rfl
set_option maxRecDepth 100000 in
theorem pca_9 : j_code jP 158 9 = some (.getfield 30) := rfl
set_option maxRecDepth 100000 in
theorem pca_12 : j_code jP 158 12 = some (.invokevirtual 400) := rfl
set_option maxRecDepth 100000 in
theorem pca_15 : j_code jP 158 15 = some (.aload_n 0) := rfl
set_option maxRecDepth 100000 in
theorem pca_16 : j_code jP 158 16 = some (.aload_n 0) := rfl
set_option maxRecDepth 100000 in
theorem pca_17 : j_code jP 158 17 = some (.getfield 51) := rfl
set_option maxRecDepth 100000 in
theorem pca_20 : j_code jP 158 20 = some (.getfield 404) := rfl
set_option maxRecDepth 100000 in
theorem pca_23 : j_code jP 158 23 = some (.invokevirtual 104) := rfl
set_option maxRecDepth 100000 in
theorem pca_26 : j_code jP 158 26 = some (.ireturn) := rfl
set_option maxRecDepth 100000 in
theorem pcwa_M : j_meth jP 51 = some (yX6_write, cX6_write, 4, none, 2, false, 6) := rfl
set_option maxRecDepth 100000 in
theorem pcaa_M : j_meth jP 159 = some (yX9_answer, cX9_answer, 2, (some .int), 1, false, 9) := rfl
theorem xpr_okA {d : Nat} {h h0 : J_H} {sst ln : Int32} (K : KN h [(0, .inl (9, [.ref 1, .ref 3, .ref 4, .ref 29, .ref 281, .ref 325, .ref 327, .ref 343, .int sst])), (325, .inl (6, [.ref 326, .int ln]))] h0) : j_V jP d 158 0 (lv_args 0 [.ref 0]) [] h (fun rv h' => (∃ v, rv = some (.int v)) ∧ ∃ (ln' : Int32) (h1 : J_H), nbR nbX h h1 ∧ KN h' [(0, .inl (9, [.ref 1, .ref 3, .ref 4, .ref 29, .ref 281, .ref 325, .ref 327, .ref 343, .int 0])), (325, .inl (6, [.ref 326, .int ln']))] h1) := by
  show j_V jP d 158 0 [(0, .ref 0)] [] h _
  obtain ⟨lv, elv, L⟩ : ∃ lv, lv = [(0, .ref 0)] ∧ LK lv [(0, .ref 0)] := ⟨_, rfl, LK.rf⟩
  rw [← elv]
  clear elv
  refine j_V.ldL pca_M pca_0 rfl (i := 0) (kd := 2) (v := .ref 0) (pcJ := 1) rfl L rfl rfl rfl ?_
  refine j_V.getK pca_M pca_1 (ci := 9) (j := 5) rfl K rfl rfl ?_
  refine j_V.ldL pca_M pca_4 rfl (i := 0) (kd := 2) (v := .ref 0) (pcJ := 5) rfl L rfl rfl rfl ?_
  refine j_V.getK pca_M pca_5 (ci := 9) (j := 6) rfl K rfl rfl ?_
  refine j_V.ldL pca_M pca_8 rfl (i := 0) (kd := 2) (v := .ref 0) (pcJ := 9) rfl L rfl rfl rfl ?_
  refine j_V.getK pca_M pca_9 (ci := 9) (j := 2) rfl K rfl rfl ?_
  have K0 : kA h [(0, .inl (9, [.ref 1, .ref 3, .ref 4, .ref 29, .ref 281, .ref 325, .ref 327, .ref 343, .int sst])), (325, .inl (6, [.ref 326, .int ln]))] := ⟨K.at (a := 0) rfl, K.at (a := 325) rfl, trivial⟩
  refine j_V.cl pca_M pca_12 rfl (md := 3) (mj := 51) rfl (by decide) pcwa_M (As := [.ref 325, .ref 327, .ref 4]) (rest := []) (jk_spl3 (K.at rfl) rfl rfl rfl (Nat.le_of_ble_eq_true rfl) (Nat.le_of_ble_eq_true rfl)) (fun d => jv9_void rfl rfl (nb_V nb_NX rfl)) ?_
  rintro r h9 ⟨R9, rfl⟩
  obtain ⟨ln9, c325⟩ := R9.sheet K0.2.1
  have K : KN h9 [(0, .inl (9, [.ref 1, .ref 3, .ref 4, .ref 29, .ref 281, .ref 325, .ref 327, .ref 343, .int sst])), (325, .inl (6, [.ref 326, .int ln9]))] h9 := (show kA h9 [(0, .inl (9, [.ref 1, .ref 3, .ref 4, .ref 29, .ref 281, .ref 325, .ref 327, .ref 343, .int sst])), (325, .inl (6, [.ref 326, .int ln9]))] from ⟨R9.obj (fun j => rfl) K0.1, c325, trivial⟩).K
  show j_V jP _ 158 15 lv [] h9 _
  refine j_V.ldL pca_M pca_15 rfl (i := 0) (kd := 2) (v := .ref 0) (pcJ := 16) rfl L rfl rfl rfl ?_
  refine j_V.ldL pca_M pca_16 rfl (i := 0) (kd := 2) (v := .ref 0) (pcJ := 17) rfl L rfl rfl rfl ?_
  refine j_V.getK pca_M pca_17 (ci := 9) (j := 5) rfl K rfl rfl ?_
  refine j_V.getK pca_M pca_20 (ci := 6) (j := 1) rfl K rfl rfl ?_
  refine j_V.cl pca_M pca_23 rfl (md := 3) (mj := 159) rfl (by decide) pcaa_M (As := [.ref 0, .int ln9]) (rest := []) (jk_spl3 (K.at rfl) rfl rfl rfl (Nat.le_of_ble_eq_true rfl) (Nat.le_of_ble_eq_true rfl)) (fun d => xa49_ok (K.fi [0] rfl rfl)) ?_
  rintro r h8 ⟨rfl, K9⟩
  have K : KN h8 [(0, .inl (9, [.ref 1, .ref 3, .ref 4, .ref 29, .ref 281, .ref 325, .ref 327, .ref 343, .int 0])), (325, .inl (6, [.ref 326, .int ln9]))] h9 := K.mg K9 rfl rfl
  show j_V jP _ 158 26 lv [.int ln9] h8 _
  exact j_V.ret pca_M pca_26 rfl rfl ⟨⟨_, rfl⟩, _, _, R9, K⟩
set_option maxRecDepth 100000 in
theorem pcb_M : j_meth jP 158 = some (yX9_print, cX9_print, 1, (some .int), 0, false, 9) := rfl
set_option maxRecDepth 100000 in
theorem pcb_0 : j_code jP 158 0 = some (.aload_n 0) := rfl
set_option maxRecDepth 100000 in
theorem pcb_1 : j_code jP 158 1 = some (.getfield 51) := rfl
set_option maxRecDepth 100000 in
theorem pcb_4 : j_code jP 158 4 = some (.aload_n 0) := rfl
set_option maxRecDepth 100000 in
theorem pcb_5 : j_code jP 158 5 = some (.getfield 58) := rfl
set_option maxRecDepth 100000 in
theorem pcb_8 : j_code jP 158 8 = some (.aload_n 0) := rfl
set_option maxRecDepth 100000 in
theorem pcb_9 : j_code jP 158 9 = some (.getfield 30) := rfl
set_option maxRecDepth 100000 in
theorem pcb_12 : j_code jP 158 12 = some (.invokevirtual 400) := rfl
set_option maxRecDepth 100000 in
theorem pcb_15 : j_code jP 158 15 = some (.aload_n 0) := rfl
set_option maxRecDepth 100000 in
theorem pcb_16 : j_code jP 158 16 = some (.aload_n 0) := rfl
set_option maxRecDepth 100000 in
theorem pcb_17 : j_code jP 158 17 = some (.getfield 51) := rfl
set_option maxRecDepth 100000 in
theorem pcb_20 : j_code jP 158 20 = some (.getfield 404) := rfl
set_option maxRecDepth 100000 in
theorem pcb_23 : j_code jP 158 23 = some (.invokevirtual 104) := rfl
set_option maxRecDepth 100000 in
theorem pcb_26 : j_code jP 158 26 = some (.ireturn) := rfl
set_option maxRecDepth 100000 in
theorem pcwb_M : j_meth jP 51 = some (yX6_write, cX6_write, 4, none, 2, false, 6) := rfl
set_option maxRecDepth 100000 in
theorem pcab_M : j_meth jP 159 = some (yX9_answer, cX9_answer, 2, (some .int), 1, false, 9) := rfl
theorem xpr_okB {d : Nat} {h h0 : J_H} {sst ln : Int32} (K : KN h [(0, .inl (9, [.ref 1, .ref 3, .ref 4, .ref 29, .ref 281, .ref 325, .ref 343, .ref 327, .int sst])), (325, .inl (6, [.ref 326, .int ln]))] h0) : j_V jP d 158 0 (lv_args 0 [.ref 0]) [] h (fun rv h' => (∃ v, rv = some (.int v)) ∧ ∃ (ln' : Int32) (h1 : J_H), nbR nbX h h1 ∧ KN h' [(0, .inl (9, [.ref 1, .ref 3, .ref 4, .ref 29, .ref 281, .ref 325, .ref 343, .ref 327, .int 0])), (325, .inl (6, [.ref 326, .int ln']))] h1) := by
  show j_V jP d 158 0 [(0, .ref 0)] [] h _
  obtain ⟨lv, elv, L⟩ : ∃ lv, lv = [(0, .ref 0)] ∧ LK lv [(0, .ref 0)] := ⟨_, rfl, LK.rf⟩
  rw [← elv]
  clear elv
  refine j_V.ldL pcb_M pcb_0 rfl (i := 0) (kd := 2) (v := .ref 0) (pcJ := 1) rfl L rfl rfl rfl ?_
  refine j_V.getK pcb_M pcb_1 (ci := 9) (j := 5) rfl K rfl rfl ?_
  refine j_V.ldL pcb_M pcb_4 rfl (i := 0) (kd := 2) (v := .ref 0) (pcJ := 5) rfl L rfl rfl rfl ?_
  refine j_V.getK pcb_M pcb_5 (ci := 9) (j := 6) rfl K rfl rfl ?_
  refine j_V.ldL pcb_M pcb_8 rfl (i := 0) (kd := 2) (v := .ref 0) (pcJ := 9) rfl L rfl rfl rfl ?_
  refine j_V.getK pcb_M pcb_9 (ci := 9) (j := 2) rfl K rfl rfl ?_
  have K0 : kA h [(0, .inl (9, [.ref 1, .ref 3, .ref 4, .ref 29, .ref 281, .ref 325, .ref 343, .ref 327, .int sst])), (325, .inl (6, [.ref 326, .int ln]))] := ⟨K.at (a := 0) rfl, K.at (a := 325) rfl, trivial⟩
  refine j_V.cl pcb_M pcb_12 rfl (md := 3) (mj := 51) rfl (by decide) pcwb_M (As := [.ref 325, .ref 343, .ref 4]) (rest := []) (jk_spl3 (K.at rfl) rfl rfl rfl (Nat.le_of_ble_eq_true rfl) (Nat.le_of_ble_eq_true rfl)) (fun d => jv9_void rfl rfl (nb_V nb_NX rfl)) ?_
  rintro r h9 ⟨R9, rfl⟩
  obtain ⟨ln9, c325⟩ := R9.sheet K0.2.1
  have K : KN h9 [(0, .inl (9, [.ref 1, .ref 3, .ref 4, .ref 29, .ref 281, .ref 325, .ref 343, .ref 327, .int sst])), (325, .inl (6, [.ref 326, .int ln9]))] h9 := (show kA h9 [(0, .inl (9, [.ref 1, .ref 3, .ref 4, .ref 29, .ref 281, .ref 325, .ref 343, .ref 327, .int sst])), (325, .inl (6, [.ref 326, .int ln9]))] from ⟨R9.obj (fun j => rfl) K0.1, c325, trivial⟩).K
  show j_V jP _ 158 15 lv [] h9 _
  refine j_V.ldL pcb_M pcb_15 rfl (i := 0) (kd := 2) (v := .ref 0) (pcJ := 16) rfl L rfl rfl rfl ?_
  refine j_V.ldL pcb_M pcb_16 rfl (i := 0) (kd := 2) (v := .ref 0) (pcJ := 17) rfl L rfl rfl rfl ?_
  refine j_V.getK pcb_M pcb_17 (ci := 9) (j := 5) rfl K rfl rfl ?_
  refine j_V.getK pcb_M pcb_20 (ci := 6) (j := 1) rfl K rfl rfl ?_
  refine j_V.cl pcb_M pcb_23 rfl (md := 3) (mj := 159) rfl (by decide) pcab_M (As := [.ref 0, .int ln9]) (rest := []) (jk_spl3 (K.at rfl) rfl rfl rfl (Nat.le_of_ble_eq_true rfl) (Nat.le_of_ble_eq_true rfl)) (fun d => xb49_ok (K.fi [0] rfl rfl)) ?_
  rintro r h8 ⟨rfl, K9⟩
  have K : KN h8 [(0, .inl (9, [.ref 1, .ref 3, .ref 4, .ref 29, .ref 281, .ref 325, .ref 343, .ref 327, .int 0])), (325, .inl (6, [.ref 326, .int ln9]))] h9 := K.mg K9 rfl rfl
  show j_V jP _ 158 26 lv [.int ln9] h8 _
  exact j_V.ret pcb_M pcb_26 rfl rfl ⟨⟨_, rfl⟩, _, _, R9, K⟩
set_option maxRecDepth 100000 in
theorem mpr_M : j_meth jP 296 = some (yX10_print, cX10_print, 3, (some .int), 0, false, 10) := rfl
set_option maxRecDepth 100000 in
theorem mpr_0 : j_code jP 296 0 = some (.aload_n 0) := rfl
set_option maxRecDepth 100000 in
theorem mpr_1 : j_code jP 296 1 = some (.iconst 0) := rfl
set_option maxRecDepth 100000 in
theorem mpr_2 : j_code jP 296 2 = some (.putfield 365) := rfl
set_option maxRecDepth 100000 in
theorem mpr_5 : j_code jP 296 5 = some (.iconst 0) := rfl
set_option maxRecDepth 100000 in
theorem mpr_6 : j_code jP 296 6 = some (.istore_n 1) := rfl
set_option maxRecDepth 100000 in
theorem mpr_7 : j_code jP 296 7 = some (.iload_n 1) := rfl
set_option maxRecDepth 100000 in
theorem mpr_8 : j_code jP 296 8 = some (.aload_n 0) := rfl
set_option maxRecDepth 100000 in
theorem mpr_9 : j_code jP 296 9 = some (.getfield 7) := rfl
set_option maxRecDepth 100000 in
theorem mpr_12 : j_code jP 296 12 = some (.sipush 202) := rfl
set_option maxRecDepth 100000 in
theorem mpr_15 : j_code jP 296 15 = some (.iaload) := rfl
set_option maxRecDepth 100000 in
theorem mpr_16 : j_code jP 296 16 = some (.if_icmp .ge 68) := rfl
set_option maxRecDepth 100000 in
theorem mpr_19 : j_code jP 296 19 = some (.aload_n 0) := rfl
set_option maxRecDepth 100000 in
theorem mpr_20 : j_code jP 296 20 = some (.iconst 0) := rfl
set_option maxRecDepth 100000 in
theorem mpr_21 : j_code jP 296 21 = some (.invokestatic 128) := rfl
set_option maxRecDepth 100000 in
theorem mpr_24 : j_code jP 296 24 = some (.invokevirtual 373) := rfl
set_option maxRecDepth 100000 in
theorem mpr_27 : j_code jP 296 27 = some (.aload_n 0) := rfl
set_option maxRecDepth 100000 in
theorem mpr_28 : j_code jP 296 28 = some (.iload_n 1) := rfl
set_option maxRecDepth 100000 in
theorem mpr_29 : j_code jP 296 29 = some (.invokevirtual 377) := rfl
set_option maxRecDepth 100000 in
theorem mpr_32 : j_code jP 296 32 = some (.aload_n 0) := rfl
set_option maxRecDepth 100000 in
theorem mpr_33 : j_code jP 296 33 = some (.aload_n 0) := rfl
set_option maxRecDepth 100000 in
theorem mpr_34 : j_code jP 296 34 = some (.iload_n 1) := rfl
set_option maxRecDepth 100000 in
theorem mpr_35 : j_code jP 296 35 = some (.iconst 0) := rfl
set_option maxRecDepth 100000 in
theorem mpr_36 : j_code jP 296 36 = some (.invokevirtual 69) := rfl
set_option maxRecDepth 100000 in
theorem mpr_39 : j_code jP 296 39 = some (.invokevirtual 380) := rfl
set_option maxRecDepth 100000 in
theorem mpr_42 : j_code jP 296 42 = some (.iconst 0) := rfl
set_option maxRecDepth 100000 in
theorem mpr_43 : j_code jP 296 43 = some (.istore_n 2) := rfl
set_option maxRecDepth 100000 in
theorem mpr_44 : j_code jP 296 44 = some (.iload_n 2) := rfl
set_option maxRecDepth 100000 in
theorem mpr_45 : j_code jP 296 45 = some (.aload_n 0) := rfl
set_option maxRecDepth 100000 in
theorem mpr_46 : j_code jP 296 46 = some (.iload_n 1) := rfl
set_option maxRecDepth 100000 in
theorem mpr_47 : j_code jP 296 47 = some (.iconst 1) := rfl
set_option maxRecDepth 100000 in
theorem mpr_48 : j_code jP 296 48 = some (.invokevirtual 69) := rfl
set_option maxRecDepth 100000 in
theorem mpr_51 : j_code jP 296 51 = some (.if_icmp .ge 21) := rfl
set_option maxRecDepth 100000 in
theorem mpr_54 : j_code jP 296 54 = some (.aload_n 0) := rfl
set_option maxRecDepth 100000 in
theorem mpr_55 : j_code jP 296 55 = some (.aload_n 0) := rfl
set_option maxRecDepth 100000 in
theorem mpr_56 : j_code jP 296 56 = some (.iload_n 1) := rfl
set_option maxRecDepth 100000 in
theorem mpr_57 : j_code jP 296 57 = some (.iconst 2) := rfl
set_option maxRecDepth 100000 in
theorem mpr_58 : j_code jP 296 58 = some (.iload_n 2) := rfl
set_option maxRecDepth 100000 in
theorem mpr_59 : j_code jP 296 59 = some (.iadd) := rfl
set_option maxRecDepth 100000 in
theorem mpr_60 : j_code jP 296 60 = some (.invokevirtual 69) := rfl
set_option maxRecDepth 100000 in
theorem mpr_63 : j_code jP 296 63 = some (.invokevirtual 380) := rfl
set_option maxRecDepth 100000 in
theorem mpr_66 : j_code jP 296 66 = some (.iinc 2 1) := rfl
set_option maxRecDepth 100000 in
theorem mpr_69 : j_code jP 296 69 = some (.goto (-25)) := rfl
set_option maxRecDepth 100000 in
theorem mpr_72 : j_code jP 296 72 = some (.aload_n 0) := rfl
set_option maxRecDepth 100000 in
theorem mpr_73 : j_code jP 296 73 = some (.bipush 59) := rfl
set_option maxRecDepth 100000 in
theorem mpr_75 : j_code jP 296 75 = some (.invokevirtual 370) := rfl
set_option maxRecDepth 100000 in
theorem mpr_78 : j_code jP 296 78 = some (.iinc 1 1) := rfl
set_option maxRecDepth 100000 in
theorem mpr_81 : j_code jP 296 81 = some (.goto (-74)) := rfl
set_option maxRecDepth 100000 in
theorem mpr_84 : j_code jP 296 84 = some (.iconst 0) := rfl
set_option maxRecDepth 100000 in
theorem mpr_85 : j_code jP 296 85 = some (.istore_n 1) := rfl
set_option maxRecDepth 100000 in
theorem mpr_86 : j_code jP 296 86 = some (.iload_n 1) := rfl
set_option maxRecDepth 100000 in
theorem mpr_87 : j_code jP 296 87 = some (.aload_n 0) := rfl
set_option maxRecDepth 100000 in
theorem mpr_88 : j_code jP 296 88 = some (.getfield 7) := rfl
set_option maxRecDepth 100000 in
theorem mpr_91 : j_code jP 296 91 = some (.sipush 203) := rfl
set_option maxRecDepth 100000 in
theorem mpr_94 : j_code jP 296 94 = some (.iaload) := rfl
set_option maxRecDepth 100000 in
theorem mpr_95 : j_code jP 296 95 = some (.if_icmp .ge 14) := rfl
set_option maxRecDepth 100000 in
theorem mpr_98 : j_code jP 296 98 = some (.aload_n 0) := rfl
set_option maxRecDepth 100000 in
theorem mpr_99 : j_code jP 296 99 = some (.iload_n 1) := rfl
set_option maxRecDepth 100000 in
theorem mpr_100 : j_code jP 296 100 = some (.invokevirtual 383) := rfl
set_option maxRecDepth 100000 in
theorem mpr_103 : j_code jP 296 103 = some (.iinc 1 1) := rfl
set_option maxRecDepth 100000 in
theorem mpr_106 : j_code jP 296 106 = some (.goto (-20)) := rfl
set_option maxRecDepth 100000 in
theorem mpr_109 : j_code jP 296 109 = some (.aload_n 0) := rfl
set_option maxRecDepth 100000 in
theorem mpr_110 : j_code jP 296 110 = some (.aload_n 0) := rfl
set_option maxRecDepth 100000 in
theorem mpr_111 : j_code jP 296 111 = some (.getfield 365) := rfl
set_option maxRecDepth 100000 in
theorem mpr_114 : j_code jP 296 114 = some (.invokevirtual 195) := rfl
set_option maxRecDepth 100000 in
theorem mpr_117 : j_code jP 296 117 = some (.ireturn) := rfl
set_option maxRecDepth 100000 in
theorem mpa_M : j_meth jP 187 = some (yX10_wordOf, cX10_wordOf, 1, (some .long), 1, false, 10) := rfl
set_option maxRecDepth 100000 in
theorem mpb_M : j_meth jP 292 = some (yX10_printsWord, cX10_printsWord, 4, none, 1, false, 10) := rfl
set_option maxRecDepth 100000 in
theorem mpc_M : j_meth jP 293 = some (yX10_printsNamed, cX10_printsNamed, 2, none, 1, false, 10) := rfl
set_option maxRecDepth 100000 in
theorem mpd_M : j_meth jP 294 = some (yX10_printsNumber, cX10_printsNumber, 2, none, 1, false, 10) := rfl
set_option maxRecDepth 100000 in
theorem mpe_M : j_meth jP 291 = some (yX10_prints, cX10_prints, 2, none, 1, false, 10) := rfl
set_option maxRecDepth 100000 in
theorem mpf_M : j_meth jP 295 = some (yX10_printsTrain, cX10_printsTrain, 3, none, 1, false, 10) := rfl
set_option maxRecDepth 100000 in
theorem mpg_M : j_meth jP 170 = some (yX10_gives, cX10_gives, 2, (some .int), 1, false, 10) := rfl
set_option maxRecDepth 100000 in
theorem mph_M : j_meth jP 176 = some (yX10_st, cX10_st, 3, (some .int), 2, false, 10) := rfl
set_option maxRecDepth 1000000 in
theorem mpr_t {u : Nat → Value} {d : Nat} {w : List Int32} : ∀ (f : Nat) (v1 : Int32) (th sst om : Int32) (lv : J_L) (h h0 : J_H), lpN (gA w 203) v1 = f → LK lv [(0, .ref 359), (1, .int v1)] → KN h [(359, .inl (10, [.int th, .ref 360, .ref 361, .ref 362, .ref 363, .ref 364, .ref 365, .ref 366, .ref 367, (u 9), .int sst, (u 11), (u 12), (u 13), (u 14), (u 15), (u 16), (u 17), (u 18), (u 19), (u 20), (u 21), .ref 368, (u 23), .ref 369, .ref 370, .ref 371, .int om])), (360, .inr (.inl (0, w)))] h0 → j_V jP d 296 86 lv [] h (fun rv h' => (∃ v, rv = some (.int v)) ∧ ∃ om', h'[359]? = some (.inl (10, [.int 0, .ref 360, .ref 361, .ref 362, .ref 363, .ref 364, .ref 365, .ref 366, .ref 367, (u 9), .int 0, (u 11), (u 12), (u 13), (u 14), (u 15), (u 16), (u 17), (u 18), (u 19), (u 20), (u 21), .ref 368, (u 23), .ref 369, .ref 370, .ref 371, .int om']))) := by
  intro f
  induction f with
  | zero =>
    intro v1 th sst om lv h h0 e L K
    refine j_V.ldL mpr_M mpr_86 rfl (i := 1) (kd := 0) (v := .int v1) (pcJ := 87) rfl L rfl rfl rfl ?_
    refine j_V.ldL mpr_M mpr_87 rfl (i := 0) (kd := 2) (v := .ref 359) (pcJ := 88) rfl L rfl rfl rfl ?_
    refine j_V.getK mpr_M mpr_88 (ci := 10) (j := 1) rfl K rfl rfl ?_
    refine j_V.one mpr_M mpr_91 (by decide) (pcJ := 94) (stJ := [.int 203, .ref 360, .int v1]) rfl ?_
    refine j_V.iaA mpr_M mpr_94 K rfl ?_
    refine j_V.icmp mpr_M mpr_95 (t := 109) rfl (fun c95_0 => ?_) (fun c95_0 => ?_)
    · replace c95_0 : ¬ (v1 < (gA w 203)) := jd_ge c95_0
      refine j_V.ldL mpr_M mpr_109 rfl (i := 0) (kd := 2) (v := .ref 359) (pcJ := 110) rfl L rfl rfl rfl ?_
      refine j_V.ldL mpr_M mpr_110 rfl (i := 0) (kd := 2) (v := .ref 359) (pcJ := 111) rfl L rfl rfl rfl ?_
      refine j_V.getK mpr_M mpr_111 (ci := 10) (j := 27) rfl K rfl rfl ?_
      refine j_V.cl mpr_M mpr_114 rfl (md := 3) (mj := 170) rfl (by decide) mpg_M (As := [.ref 359, .int om]) (rest := []) (jk_spl3 (K.at rfl) rfl rfl rfl (Nat.le_of_ble_eq_true rfl) (Nat.le_of_ble_eq_true rfl)) (fun d => (ml_ok (v := fun j => ([.int th, .ref 360, .ref 361, .ref 362, .ref 363, .ref 364, .ref 365, .ref 366, .ref 367, (u 9), .int sst, (u 11), (u 12), (u 13), (u 14), (u 15), (u 16), (u 17), (u 18), (u 19), (u 20), (u 21), .ref 368, (u 23), .ref 369, .ref 370, .ref 371, .int om] : List Value).getD j .null) (K.fi [359] rfl rfl)).toV) ?_
      rintro r h8 ⟨rfl, K9⟩
      have K : KN h8 [(359, .inl (10, [.int 0, .ref 360, .ref 361, .ref 362, .ref 363, .ref 364, .ref 365, .ref 366, .ref 367, (u 9), .int 0, (u 11), (u 12), (u 13), (u 14), (u 15), (u 16), (u 17), (u 18), (u 19), (u 20), (u 21), .ref 368, (u 23), .ref 369, .ref 370, .ref 371, .int om])), (360, .inr (.inl (0, w)))] h0 := K.mg K9 rfl rfl
      show j_V jP _ 296 117 lv [.int om] h8 _
      exact j_V.ret mpr_M mpr_117 rfl rfl ⟨⟨_, rfl⟩, _, K.at (a := 359) rfl⟩
    · replace c95_0 : v1 < (gA w 203) := jd_gen c95_0
      exact absurd c95_0 (lpN_z e)
  | succ f ih =>
    intro v1 th sst om lv h h0 e L K
    refine j_V.ldL mpr_M mpr_86 rfl (i := 1) (kd := 0) (v := .int v1) (pcJ := 87) rfl L rfl rfl rfl ?_
    refine j_V.ldL mpr_M mpr_87 rfl (i := 0) (kd := 2) (v := .ref 359) (pcJ := 88) rfl L rfl rfl rfl ?_
    refine j_V.getK mpr_M mpr_88 (ci := 10) (j := 1) rfl K rfl rfl ?_
    refine j_V.one mpr_M mpr_91 (by decide) (pcJ := 94) (stJ := [.int 203, .ref 360, .int v1]) rfl ?_
    refine j_V.iaA mpr_M mpr_94 K rfl ?_
    refine j_V.icmp mpr_M mpr_95 (t := 109) rfl (fun c95_0 => ?_) (fun c95_0 => ?_)
    · replace c95_0 : ¬ (v1 < (gA w 203)) := jd_ge c95_0
      exact absurd (lpN_s e) c95_0
    · replace c95_0 : v1 < (gA w 203) := jd_gen c95_0
      refine j_V.ldL mpr_M mpr_98 rfl (i := 0) (kd := 2) (v := .ref 359) (pcJ := 99) rfl L rfl rfl rfl ?_
      refine j_V.ldL mpr_M mpr_99 rfl (i := 1) (kd := 0) (v := .int v1) (pcJ := 100) rfl L rfl rfl rfl ?_
      have K0 : kA h [(359, .inl (10, [.int th, .ref 360, .ref 361, .ref 362, .ref 363, .ref 364, .ref 365, .ref 366, .ref 367, (u 9), .int sst, (u 11), (u 12), (u 13), (u 14), (u 15), (u 16), (u 17), (u 18), (u 19), (u 20), (u 21), .ref 368, (u 23), .ref 369, .ref 370, .ref 371, .int om])), (360, .inr (.inl (0, w)))] := ⟨K.at (a := 359) rfl, K.at (a := 360) rfl, trivial⟩
      refine j_V.cl mpr_M mpr_100 rfl (md := 3) (mj := 295) rfl (by decide) mpf_M (As := [.ref 359, .int v1]) (rest := []) (jk_spl3 (K.at rfl) rfl rfl rfl (Nat.le_of_ble_eq_true rfl) (Nat.le_of_ble_eq_true rfl)) (fun d => jv9_void rfl rfl (nb_V nb_NM rfl)) ?_
      rintro r h9 ⟨R9, rfl⟩
      obtain ⟨th1, ss1, om1, K1⟩ := R9.mobj K0
      have K := K1.K
      clear K1 K0 R9
      show j_V jP _ 296 103 lv [] h9 _
      refine j_V.inL mpr_M mpr_103 (i := 1) (kl' := [(0, .ref 359), (1, .int (v1 + 1))]) (pcJ := 106) L rfl rfl rfl rfl (fun lv L => ?_)
      refine j_V.gto mpr_M mpr_106 (t := 86) rfl ?_
      exact ih _ _ _ _ _ _ _ (lpN_n e) L K
set_option maxRecDepth 1000000 in
theorem mpr_k {u : Nat → Value} {d : Nat} {w : List Int32} {v1 : Int32} : ∀ (f : Nat) (v2 : Int32) (th sst om : Int32) (lv : J_L) (h h0 : J_H), lpN (m_st w v1 1) v2 = f → LK lv [(0, .ref 359), (1, .int v1), (2, .int v2)] → KN h [(359, .inl (10, [.int th, .ref 360, .ref 361, .ref 362, .ref 363, .ref 364, .ref 365, .ref 366, .ref 367, (u 9), .int sst, (u 11), (u 12), (u 13), (u 14), (u 15), (u 16), (u 17), (u 18), (u 19), (u 20), (u 21), .ref 368, (u 23), .ref 369, .ref 370, .ref 371, .int om])), (360, .inr (.inl (0, w)))] h0 → (∀ (th sst om : Int32) (lv : J_L) (h h0 : J_H), LK lv [(0, .ref 359), (1, .int v1)] → KN h [(359, .inl (10, [.int th, .ref 360, .ref 361, .ref 362, .ref 363, .ref 364, .ref 365, .ref 366, .ref 367, (u 9), .int sst, (u 11), (u 12), (u 13), (u 14), (u 15), (u 16), (u 17), (u 18), (u 19), (u 20), (u 21), .ref 368, (u 23), .ref 369, .ref 370, .ref 371, .int om])), (360, .inr (.inl (0, w)))] h0 → j_V jP d 296 72 lv [] h (fun rv h' => (∃ v, rv = some (.int v)) ∧ ∃ om', h'[359]? = some (.inl (10, [.int 0, .ref 360, .ref 361, .ref 362, .ref 363, .ref 364, .ref 365, .ref 366, .ref 367, (u 9), .int 0, (u 11), (u 12), (u 13), (u 14), (u 15), (u 16), (u 17), (u 18), (u 19), (u 20), (u 21), .ref 368, (u 23), .ref 369, .ref 370, .ref 371, .int om'])))) → j_V jP d 296 44 lv [] h (fun rv h' => (∃ v, rv = some (.int v)) ∧ ∃ om', h'[359]? = some (.inl (10, [.int 0, .ref 360, .ref 361, .ref 362, .ref 363, .ref 364, .ref 365, .ref 366, .ref 367, (u 9), .int 0, (u 11), (u 12), (u 13), (u 14), (u 15), (u 16), (u 17), (u 18), (u 19), (u 20), (u 21), .ref 368, (u 23), .ref 369, .ref 370, .ref 371, .int om']))) := by
  intro f
  induction f with
  | zero =>
    intro v2 th sst om lv h h0 e L K kk
    refine j_V.ldL mpr_M mpr_44 rfl (i := 2) (kd := 0) (v := .int v2) (pcJ := 45) rfl L rfl rfl rfl ?_
    refine j_V.ldL mpr_M mpr_45 rfl (i := 0) (kd := 2) (v := .ref 359) (pcJ := 46) rfl L rfl rfl rfl ?_
    refine j_V.ldL mpr_M mpr_46 rfl (i := 1) (kd := 0) (v := .int v1) (pcJ := 47) rfl L rfl rfl rfl ?_
    refine j_V.one mpr_M mpr_47 (by decide) (pcJ := 48) (stJ := [.int 1, .int v1, .ref 359, .int v2]) rfl ?_
    refine j_V.cl mpr_M mpr_48 rfl (md := 3) (mj := 176) rfl (by decide) mph_M (As := [.ref 359, .int v1, .int 1]) (rest := [.int v2]) (jk_spl3 (K.at rfl) rfl rfl rfl (Nat.le_of_ble_eq_true rfl) (Nat.le_of_ble_eq_true rfl)) (fun d => ma1_ok (u := fun j => ([.int th, .ref 360, .ref 361, .ref 362, .ref 363, .ref 364, .ref 365, .ref 366, .ref 367, (u 9), .int sst, (u 11), (u 12), (u 13), (u 14), (u 15), (u 16), (u 17), (u 18), (u 19), (u 20), (u 21), .ref 368, (u 23), .ref 369, .ref 370, .ref 371, .int om] : List Value).getD j .null) K) ?_
    rintro r hz ⟨rfl, ez⟩
    rw [ez]
    clear ez
    show j_V jP _ 296 51 lv [.int (m_st w v1 1), .int v2] h _
    refine j_V.icmp mpr_M mpr_51 (t := 72) rfl (fun c51_0 => ?_) (fun c51_0 => ?_)
    · replace c51_0 : ¬ (v2 < (m_st w v1 1)) := jd_ge c51_0
      exact kk _ _ _ _ _ _ (L.sub ⟨rfl, rfl, trivial⟩) K
    · replace c51_0 : v2 < (m_st w v1 1) := jd_gen c51_0
      exact absurd c51_0 (lpN_z e)
  | succ f ih =>
    intro v2 th sst om lv h h0 e L K kk
    refine j_V.ldL mpr_M mpr_44 rfl (i := 2) (kd := 0) (v := .int v2) (pcJ := 45) rfl L rfl rfl rfl ?_
    refine j_V.ldL mpr_M mpr_45 rfl (i := 0) (kd := 2) (v := .ref 359) (pcJ := 46) rfl L rfl rfl rfl ?_
    refine j_V.ldL mpr_M mpr_46 rfl (i := 1) (kd := 0) (v := .int v1) (pcJ := 47) rfl L rfl rfl rfl ?_
    refine j_V.one mpr_M mpr_47 (by decide) (pcJ := 48) (stJ := [.int 1, .int v1, .ref 359, .int v2]) rfl ?_
    refine j_V.cl mpr_M mpr_48 rfl (md := 3) (mj := 176) rfl (by decide) mph_M (As := [.ref 359, .int v1, .int 1]) (rest := [.int v2]) (jk_spl3 (K.at rfl) rfl rfl rfl (Nat.le_of_ble_eq_true rfl) (Nat.le_of_ble_eq_true rfl)) (fun d => ma1_ok (u := fun j => ([.int th, .ref 360, .ref 361, .ref 362, .ref 363, .ref 364, .ref 365, .ref 366, .ref 367, (u 9), .int sst, (u 11), (u 12), (u 13), (u 14), (u 15), (u 16), (u 17), (u 18), (u 19), (u 20), (u 21), .ref 368, (u 23), .ref 369, .ref 370, .ref 371, .int om] : List Value).getD j .null) K) ?_
    rintro r hz ⟨rfl, ez⟩
    rw [ez]
    clear ez
    show j_V jP _ 296 51 lv [.int (m_st w v1 1), .int v2] h _
    refine j_V.icmp mpr_M mpr_51 (t := 72) rfl (fun c51_0 => ?_) (fun c51_0 => ?_)
    · replace c51_0 : ¬ (v2 < (m_st w v1 1)) := jd_ge c51_0
      exact absurd (lpN_s e) c51_0
    · replace c51_0 : v2 < (m_st w v1 1) := jd_gen c51_0
      refine j_V.ldL mpr_M mpr_54 rfl (i := 0) (kd := 2) (v := .ref 359) (pcJ := 55) rfl L rfl rfl rfl ?_
      refine j_V.ldL mpr_M mpr_55 rfl (i := 0) (kd := 2) (v := .ref 359) (pcJ := 56) rfl L rfl rfl rfl ?_
      refine j_V.ldL mpr_M mpr_56 rfl (i := 1) (kd := 0) (v := .int v1) (pcJ := 57) rfl L rfl rfl rfl ?_
      refine j_V.one mpr_M mpr_57 (by decide) (pcJ := 58) (stJ := [.int 2, .int v1, .ref 359, .ref 359]) rfl ?_
      refine j_V.ldL mpr_M mpr_58 rfl (i := 2) (kd := 0) (v := .int v2) (pcJ := 59) rfl L rfl rfl rfl ?_
      refine j_V.one mpr_M mpr_59 (by decide) (pcJ := 60) (stJ := [.int (2 + v2), .int v1, .ref 359, .ref 359]) rfl ?_
      refine j_V.cl mpr_M mpr_60 rfl (md := 3) (mj := 176) rfl (by decide) mph_M (As := [.ref 359, .int v1, .int (2 + v2)]) (rest := [.ref 359]) (jk_spl3 (K.at rfl) rfl rfl rfl (Nat.le_of_ble_eq_true rfl) (Nat.le_of_ble_eq_true rfl)) (fun d => ma1_ok (u := fun j => ([.int th, .ref 360, .ref 361, .ref 362, .ref 363, .ref 364, .ref 365, .ref 366, .ref 367, (u 9), .int sst, (u 11), (u 12), (u 13), (u 14), (u 15), (u 16), (u 17), (u 18), (u 19), (u 20), (u 21), .ref 368, (u 23), .ref 369, .ref 370, .ref 371, .int om] : List Value).getD j .null) K) ?_
      rintro r hz ⟨rfl, ez⟩
      rw [ez]
      clear ez
      show j_V jP _ 296 63 lv [.int (m_st w v1 (2 + v2)), .ref 359] h _
      have K0 : kA h [(359, .inl (10, [.int th, .ref 360, .ref 361, .ref 362, .ref 363, .ref 364, .ref 365, .ref 366, .ref 367, (u 9), .int sst, (u 11), (u 12), (u 13), (u 14), (u 15), (u 16), (u 17), (u 18), (u 19), (u 20), (u 21), .ref 368, (u 23), .ref 369, .ref 370, .ref 371, .int om])), (360, .inr (.inl (0, w)))] := ⟨K.at (a := 359) rfl, K.at (a := 360) rfl, trivial⟩
      refine j_V.cl mpr_M mpr_63 rfl (md := 3) (mj := 294) rfl (by decide) mpd_M (As := [.ref 359, .int (m_st w v1 (2 + v2))]) (rest := []) (jk_spl3 (K.at rfl) rfl rfl rfl (Nat.le_of_ble_eq_true rfl) (Nat.le_of_ble_eq_true rfl)) (fun d => jv9_void rfl rfl (nb_V nb_NM rfl)) ?_
      rintro r h9 ⟨R9, rfl⟩
      obtain ⟨th2, ss2, om2, K1⟩ := R9.mobj K0
      have K := K1.K
      clear K1 K0 R9
      show j_V jP _ 296 66 lv [] h9 _
      refine j_V.inL mpr_M mpr_66 (i := 2) (kl' := [(0, .ref 359), (1, .int v1), (2, .int (v2 + 1))]) (pcJ := 69) L rfl rfl rfl rfl (fun lv L => ?_)
      refine j_V.gto mpr_M mpr_69 (t := 44) rfl ?_
      exact ih _ _ _ _ _ _ _ (lpN_n e) L K kk
set_option maxRecDepth 1000000 in
theorem mpr_s {u : Nat → Value} {d : Nat} {w : List Int32} : ∀ (f : Nat) (v1 : Int32) (th sst om : Int32) (lv : J_L) (h h0 : J_H), lpN (gA w 202) v1 = f → LK lv [(0, .ref 359), (1, .int v1)] → KN h [(359, .inl (10, [.int th, .ref 360, .ref 361, .ref 362, .ref 363, .ref 364, .ref 365, .ref 366, .ref 367, (u 9), .int sst, (u 11), (u 12), (u 13), (u 14), (u 15), (u 16), (u 17), (u 18), (u 19), (u 20), (u 21), .ref 368, (u 23), .ref 369, .ref 370, .ref 371, .int om])), (360, .inr (.inl (0, w)))] h0 → j_V jP d 296 7 lv [] h (fun rv h' => (∃ v, rv = some (.int v)) ∧ ∃ om', h'[359]? = some (.inl (10, [.int 0, .ref 360, .ref 361, .ref 362, .ref 363, .ref 364, .ref 365, .ref 366, .ref 367, (u 9), .int 0, (u 11), (u 12), (u 13), (u 14), (u 15), (u 16), (u 17), (u 18), (u 19), (u 20), (u 21), .ref 368, (u 23), .ref 369, .ref 370, .ref 371, .int om']))) := by
  intro f
  induction f with
  | zero =>
    intro v1 th sst om lv h h0 e L K
    refine j_V.ldL mpr_M mpr_7 rfl (i := 1) (kd := 0) (v := .int v1) (pcJ := 8) rfl L rfl rfl rfl ?_
    refine j_V.ldL mpr_M mpr_8 rfl (i := 0) (kd := 2) (v := .ref 359) (pcJ := 9) rfl L rfl rfl rfl ?_
    refine j_V.getK mpr_M mpr_9 (ci := 10) (j := 1) rfl K rfl rfl ?_
    refine j_V.one mpr_M mpr_12 (by decide) (pcJ := 15) (stJ := [.int 202, .ref 360, .int v1]) rfl ?_
    refine j_V.iaA mpr_M mpr_15 K rfl ?_
    refine j_V.icmp mpr_M mpr_16 (t := 84) rfl (fun c16_0 => ?_) (fun c16_0 => ?_)
    · replace c16_0 : ¬ (v1 < (gA w 202)) := jd_ge c16_0
      refine j_V.one mpr_M mpr_84 (by decide) (pcJ := 85) (stJ := [.int 0]) rfl ?_
      refine j_V.stL mpr_M mpr_85 rfl (i := 1) (kd := 0) (kl' := [(0, .ref 359), (1, .int 0)]) (pcJ := 86) rfl L rfl (by decide) rfl rfl rfl (fun lv L => ?_)
      exact mpr_t _ _ _ _ _ _ _ _ rfl L K
    · replace c16_0 : v1 < (gA w 202) := jd_gen c16_0
      exact absurd c16_0 (lpN_z e)
  | succ f ih =>
    intro v1 th sst om lv h h0 e L K
    refine j_V.ldL mpr_M mpr_7 rfl (i := 1) (kd := 0) (v := .int v1) (pcJ := 8) rfl L rfl rfl rfl ?_
    refine j_V.ldL mpr_M mpr_8 rfl (i := 0) (kd := 2) (v := .ref 359) (pcJ := 9) rfl L rfl rfl rfl ?_
    refine j_V.getK mpr_M mpr_9 (ci := 10) (j := 1) rfl K rfl rfl ?_
    refine j_V.one mpr_M mpr_12 (by decide) (pcJ := 15) (stJ := [.int 202, .ref 360, .int v1]) rfl ?_
    refine j_V.iaA mpr_M mpr_15 K rfl ?_
    refine j_V.icmp mpr_M mpr_16 (t := 84) rfl (fun c16_0 => ?_) (fun c16_0 => ?_)
    · replace c16_0 : ¬ (v1 < (gA w 202)) := jd_ge c16_0
      exact absurd (lpN_s e) c16_0
    · replace c16_0 : v1 < (gA w 202) := jd_gen c16_0
      refine j_V.ldL mpr_M mpr_19 rfl (i := 0) (kd := 2) (v := .ref 359) (pcJ := 20) rfl L rfl rfl rfl ?_
      refine j_V.one mpr_M mpr_20 (by decide) (pcJ := 21) (stJ := [.int 0, .ref 359]) rfl ?_
      have K0 : kA h [(359, .inl (10, [.int th, .ref 360, .ref 361, .ref 362, .ref 363, .ref 364, .ref 365, .ref 366, .ref 367, (u 9), .int sst, (u 11), (u 12), (u 13), (u 14), (u 15), (u 16), (u 17), (u 18), (u 19), (u 20), (u 21), .ref 368, (u 23), .ref 369, .ref 370, .ref 371, .int om])), (360, .inr (.inl (0, w)))] := ⟨K.at (a := 359) rfl, K.at (a := 360) rfl, trivial⟩
      refine j_V.cl mpr_M mpr_21 rfl (md := 2) (mj := 187) rfl (by decide) mpa_M (As := [.int 0]) (rest := [.ref 359]) (jk_spl2 rfl rfl (Nat.le_of_ble_eq_true rfl) (Nat.le_of_ble_eq_true rfl)) (fun d => jv9_lng rfl rfl (nb_V nb_NM rfl)) ?_
      rintro r h9 ⟨R9, v3, rfl⟩
      obtain ⟨th3, ss3, om3, K1⟩ := R9.mobj K0
      have K := K1.K
      clear K1 K0 R9
      show j_V jP _ 296 24 lv [.long v3, .ref 359] h9 _
      have K0 : kA h9 [(359, .inl (10, [.int th3, .ref 360, .ref 361, .ref 362, .ref 363, .ref 364, .ref 365, .ref 366, .ref 367, (u 9), .int ss3, (u 11), (u 12), (u 13), (u 14), (u 15), (u 16), (u 17), (u 18), (u 19), (u 20), (u 21), .ref 368, (u 23), .ref 369, .ref 370, .ref 371, .int om3])), (360, .inr (.inl (0, w)))] := ⟨K.at (a := 359) rfl, K.at (a := 360) rfl, trivial⟩
      refine j_V.cl mpr_M mpr_24 rfl (md := 3) (mj := 292) rfl (by decide) mpb_M (As := [.ref 359, .long v3]) (rest := []) (jk_spl3 (K.at rfl) rfl rfl rfl (Nat.le_of_ble_eq_true rfl) (Nat.le_of_ble_eq_true rfl)) (fun d => jv9_void rfl rfl (nb_V nb_NM rfl)) ?_
      rintro r h9 ⟨R9, rfl⟩
      obtain ⟨th4, ss4, om4, K1⟩ := R9.mobj K0
      have K := K1.K
      clear K1 K0 R9
      show j_V jP _ 296 27 lv [] h9 _
      refine j_V.ldL mpr_M mpr_27 rfl (i := 0) (kd := 2) (v := .ref 359) (pcJ := 28) rfl L rfl rfl rfl ?_
      refine j_V.ldL mpr_M mpr_28 rfl (i := 1) (kd := 0) (v := .int v1) (pcJ := 29) rfl L rfl rfl rfl ?_
      have K0 : kA h9 [(359, .inl (10, [.int th4, .ref 360, .ref 361, .ref 362, .ref 363, .ref 364, .ref 365, .ref 366, .ref 367, (u 9), .int ss4, (u 11), (u 12), (u 13), (u 14), (u 15), (u 16), (u 17), (u 18), (u 19), (u 20), (u 21), .ref 368, (u 23), .ref 369, .ref 370, .ref 371, .int om4])), (360, .inr (.inl (0, w)))] := ⟨K.at (a := 359) rfl, K.at (a := 360) rfl, trivial⟩
      refine j_V.cl mpr_M mpr_29 rfl (md := 3) (mj := 293) rfl (by decide) mpc_M (As := [.ref 359, .int v1]) (rest := []) (jk_spl3 (K.at rfl) rfl rfl rfl (Nat.le_of_ble_eq_true rfl) (Nat.le_of_ble_eq_true rfl)) (fun d => jv9_void rfl rfl (nb_V nb_NM rfl)) ?_
      rintro r h9 ⟨R9, rfl⟩
      obtain ⟨th5, ss5, om5, K1⟩ := R9.mobj K0
      have K := K1.K
      clear K1 K0 R9
      show j_V jP _ 296 32 lv [] h9 _
      refine j_V.ldL mpr_M mpr_32 rfl (i := 0) (kd := 2) (v := .ref 359) (pcJ := 33) rfl L rfl rfl rfl ?_
      refine j_V.ldL mpr_M mpr_33 rfl (i := 0) (kd := 2) (v := .ref 359) (pcJ := 34) rfl L rfl rfl rfl ?_
      refine j_V.ldL mpr_M mpr_34 rfl (i := 1) (kd := 0) (v := .int v1) (pcJ := 35) rfl L rfl rfl rfl ?_
      refine j_V.one mpr_M mpr_35 (by decide) (pcJ := 36) (stJ := [.int 0, .int v1, .ref 359, .ref 359]) rfl ?_
      refine j_V.cl mpr_M mpr_36 rfl (md := 3) (mj := 176) rfl (by decide) mph_M (As := [.ref 359, .int v1, .int 0]) (rest := [.ref 359]) (jk_spl3 (K.at rfl) rfl rfl rfl (Nat.le_of_ble_eq_true rfl) (Nat.le_of_ble_eq_true rfl)) (fun d => ma1_ok (u := fun j => ([.int th5, .ref 360, .ref 361, .ref 362, .ref 363, .ref 364, .ref 365, .ref 366, .ref 367, (u 9), .int ss5, (u 11), (u 12), (u 13), (u 14), (u 15), (u 16), (u 17), (u 18), (u 19), (u 20), (u 21), .ref 368, (u 23), .ref 369, .ref 370, .ref 371, .int om5] : List Value).getD j .null) K) ?_
      rintro r hz ⟨rfl, ez⟩
      rw [ez]
      clear ez
      show j_V jP _ 296 39 lv [.int (m_st w v1 0), .ref 359] h9 _
      have K0 : kA h9 [(359, .inl (10, [.int th5, .ref 360, .ref 361, .ref 362, .ref 363, .ref 364, .ref 365, .ref 366, .ref 367, (u 9), .int ss5, (u 11), (u 12), (u 13), (u 14), (u 15), (u 16), (u 17), (u 18), (u 19), (u 20), (u 21), .ref 368, (u 23), .ref 369, .ref 370, .ref 371, .int om5])), (360, .inr (.inl (0, w)))] := ⟨K.at (a := 359) rfl, K.at (a := 360) rfl, trivial⟩
      refine j_V.cl mpr_M mpr_39 rfl (md := 3) (mj := 294) rfl (by decide) mpd_M (As := [.ref 359, .int (m_st w v1 0)]) (rest := []) (jk_spl3 (K.at rfl) rfl rfl rfl (Nat.le_of_ble_eq_true rfl) (Nat.le_of_ble_eq_true rfl)) (fun d => jv9_void rfl rfl (nb_V nb_NM rfl)) ?_
      rintro r h9 ⟨R9, rfl⟩
      obtain ⟨th6, ss6, om6, K1⟩ := R9.mobj K0
      have K := K1.K
      clear K1 K0 R9
      show j_V jP _ 296 42 lv [] h9 _
      refine j_V.one mpr_M mpr_42 (by decide) (pcJ := 43) (stJ := [.int 0]) rfl ?_
      refine j_V.stL mpr_M mpr_43 rfl (i := 2) (kd := 0) (kl' := [(0, .ref 359), (1, .int v1), (2, .int 0)]) (pcJ := 44) rfl L rfl (by decide) rfl rfl rfl (fun lv L => ?_)
      refine mpr_k _ _ _ _ _ _ _ _ rfl L K (fun th sst om lv h h0 L K => ?_)
      refine j_V.ldL mpr_M mpr_72 rfl (i := 0) (kd := 2) (v := .ref 359) (pcJ := 73) rfl L rfl rfl rfl ?_
      refine j_V.one mpr_M mpr_73 (by decide) (pcJ := 75) (stJ := [.int 59, .ref 359]) rfl ?_
      have K0 : kA h [(359, .inl (10, [.int th, .ref 360, .ref 361, .ref 362, .ref 363, .ref 364, .ref 365, .ref 366, .ref 367, (u 9), .int sst, (u 11), (u 12), (u 13), (u 14), (u 15), (u 16), (u 17), (u 18), (u 19), (u 20), (u 21), .ref 368, (u 23), .ref 369, .ref 370, .ref 371, .int om])), (360, .inr (.inl (0, w)))] := ⟨K.at (a := 359) rfl, K.at (a := 360) rfl, trivial⟩
      refine j_V.cl mpr_M mpr_75 rfl (md := 3) (mj := 291) rfl (by decide) mpe_M (As := [.ref 359, .int 59]) (rest := []) (jk_spl3 (K.at rfl) rfl rfl rfl (Nat.le_of_ble_eq_true rfl) (Nat.le_of_ble_eq_true rfl)) (fun d => jv9_void rfl rfl (nb_V nb_NM rfl)) ?_
      rintro r h9 ⟨R9, rfl⟩
      obtain ⟨th7, ss7, om7, K1⟩ := R9.mobj K0
      have K := K1.K
      clear K1 K0 R9
      show j_V jP _ 296 78 lv [] h9 _
      refine j_V.inL mpr_M mpr_78 (i := 1) (kl' := [(0, .ref 359), (1, .int (v1 + 1))]) (pcJ := 81) L rfl rfl rfl rfl (fun lv L => ?_)
      refine j_V.gto mpr_M mpr_81 (t := 7) rfl ?_
      exact ih _ _ _ _ _ _ _ (lpN_n e) L K
theorem mpr_ok {u : Nat → Value} {d : Nat} {h h0 : J_H} {th sst om : Int32} {w : List Int32} (K : KN h [(359, .inl (10, [.int th, .ref 360, .ref 361, .ref 362, .ref 363, .ref 364, .ref 365, .ref 366, .ref 367, (u 9), .int sst, (u 11), (u 12), (u 13), (u 14), (u 15), (u 16), (u 17), (u 18), (u 19), (u 20), (u 21), .ref 368, (u 23), .ref 369, .ref 370, .ref 371, .int om])), (360, .inr (.inl (0, w)))] h0) : j_V jP d 296 0 (lv_args 0 [.ref 359]) [] h (fun rv h' => (∃ v, rv = some (.int v)) ∧ ∃ om', h'[359]? = some (.inl (10, [.int 0, .ref 360, .ref 361, .ref 362, .ref 363, .ref 364, .ref 365, .ref 366, .ref 367, (u 9), .int 0, (u 11), (u 12), (u 13), (u 14), (u 15), (u 16), (u 17), (u 18), (u 19), (u 20), (u 21), .ref 368, (u 23), .ref 369, .ref 370, .ref 371, .int om']))) := by
  show j_V jP d 296 0 [(0, .ref 359)] [] h _
  obtain ⟨lv, elv, L⟩ : ∃ lv, lv = [(0, .ref 359)] ∧ LK lv [(0, .ref 359)] := ⟨_, rfl, LK.rf⟩
  rw [← elv]
  clear elv
  refine j_V.ldL mpr_M mpr_0 rfl (i := 0) (kd := 2) (v := .ref 359) (pcJ := 1) rfl L rfl rfl rfl ?_
  refine j_V.one mpr_M mpr_1 (by decide) (pcJ := 2) (stJ := [.int 0, .ref 359]) rfl ?_
  refine j_V.putK mpr_M mpr_2 (ci := 10) (j := 27) (k' := [(359, .inl (10, [.int th, .ref 360, .ref 361, .ref 362, .ref 363, .ref 364, .ref 365, .ref 366, .ref 367, (u 9), .int sst, (u 11), (u 12), (u 13), (u 14), (u 15), (u 16), (u 17), (u 18), (u 19), (u 20), (u 21), .ref 368, (u 23), .ref 369, .ref 370, .ref 371, .int 0])), (360, .inr (.inl (0, w)))]) rfl K rfl (Nat.le_of_ble_eq_true rfl) rfl (Or.inl rfl) rfl rfl (fun h K => ?_)
  refine j_V.one mpr_M mpr_5 (by decide) (pcJ := 6) (stJ := [.int 0]) rfl ?_
  refine j_V.stL mpr_M mpr_6 rfl (i := 1) (kd := 0) (kl' := [(0, .ref 359), (1, .int 0)]) (pcJ := 7) rfl L rfl (by decide) rfl rfl rfl (fun lv L => ?_)
  exact mpr_s _ _ _ _ _ _ _ _ rfl L K
set_option maxRecDepth 100000 in
theorem mou_M : j_meth jP 297 = some (yX10_out, cX10_out, 2, (some .int), 1, false, 10) := rfl
set_option maxRecDepth 100000 in
theorem mou_0 : j_code jP 297 0 = some (.aload_n 0) := rfl
set_option maxRecDepth 100000 in
theorem mou_1 : j_code jP 297 1 = some (.iload_n 1) := rfl
set_option maxRecDepth 100000 in
theorem mou_2 : j_code jP 297 2 = some (.ifCond .lt 11) := rfl
set_option maxRecDepth 100000 in
theorem mou_5 : j_code jP 297 5 = some (.iload_n 1) := rfl
set_option maxRecDepth 100000 in
theorem mou_6 : j_code jP 297 6 = some (.aload_n 0) := rfl
set_option maxRecDepth 100000 in
theorem mou_7 : j_code jP 297 7 = some (.getfield 365) := rfl
set_option maxRecDepth 100000 in
theorem mou_10 : j_code jP 297 10 = some (.if_icmp .lt 7) := rfl
set_option maxRecDepth 100000 in
theorem mou_13 : j_code jP 297 13 = some (.iconst 1) := rfl
set_option maxRecDepth 100000 in
theorem mou_14 : j_code jP 297 14 = some (.goto 4) := rfl
set_option maxRecDepth 100000 in
theorem mou_17 : j_code jP 297 17 = some (.iconst 0) := rfl
set_option maxRecDepth 100000 in
theorem mou_18 : j_code jP 297 18 = some (.putfield 55) := rfl
set_option maxRecDepth 100000 in
theorem mou_21 : j_code jP 297 21 = some (.aload_n 0) := rfl
set_option maxRecDepth 100000 in
theorem mou_22 : j_code jP 297 22 = some (.getfield 55) := rfl
set_option maxRecDepth 100000 in
theorem mou_25 : j_code jP 297 25 = some (.iconst 1) := rfl
set_option maxRecDepth 100000 in
theorem mou_26 : j_code jP 297 26 = some (.if_icmp .ne 7) := rfl
set_option maxRecDepth 100000 in
theorem mou_29 : j_code jP 297 29 = some (.iconst 0) := rfl
set_option maxRecDepth 100000 in
theorem mou_30 : j_code jP 297 30 = some (.goto 9) := rfl
set_option maxRecDepth 100000 in
theorem mou_33 : j_code jP 297 33 = some (.aload_n 0) := rfl
set_option maxRecDepth 100000 in
theorem mou_34 : j_code jP 297 34 = some (.getfield 51) := rfl
set_option maxRecDepth 100000 in
theorem mou_37 : j_code jP 297 37 = some (.iload_n 1) := rfl
set_option maxRecDepth 100000 in
theorem mou_38 : j_code jP 297 38 = some (.baload) := rfl
set_option maxRecDepth 100000 in
theorem mou_39 : j_code jP 297 39 = some (.ireturn) := rfl

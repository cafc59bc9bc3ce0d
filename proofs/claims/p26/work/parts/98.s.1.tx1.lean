/-! the class's methods that write nothing (state 282, layout 327), by wip/px/gen_x1.py -/
set_option maxRecDepth 100000 in
theorem xc00_M : j_meth jP 23 = some (yX2_cellsOf, cX2_cellsOf, 2, (some .int), 1, false, 2) := rfl
set_option maxRecDepth 100000 in
theorem xc00_0 : j_code jP 23 0 = some (.iconst 1) := rfl
set_option maxRecDepth 100000 in
theorem xc00_1 : j_code jP 23 1 = some (.aload_n 0) := rfl
set_option maxRecDepth 100000 in
theorem xc00_2 : j_code jP 23 2 = some (.getfield 19) := rfl
set_option maxRecDepth 100000 in
theorem xc00_5 : j_code jP 23 5 = some (.iload_n 1) := rfl
set_option maxRecDepth 100000 in
theorem xc00_6 : j_code jP 23 6 = some (.iaload) := rfl
set_option maxRecDepth 100000 in
theorem xc00_7 : j_code jP 23 7 = some (.ishl) := rfl
set_option maxRecDepth 100000 in
theorem xc00_8 : j_code jP 23 8 = some (.iconst 1) := rfl
set_option maxRecDepth 100000 in
theorem xc00_9 : j_code jP 23 9 = some (.isub) := rfl
set_option maxRecDepth 100000 in
theorem xc00_10 : j_code jP 23 10 = some (.iload_n 1) := rfl
set_option maxRecDepth 100000 in
theorem xc00_11 : j_code jP 23 11 = some (.iconst 3) := rfl
set_option maxRecDepth 100000 in
theorem xc00_12 : j_code jP 23 12 = some (.imul) := rfl
set_option maxRecDepth 100000 in
theorem xc00_13 : j_code jP 23 13 = some (.ishl) := rfl
set_option maxRecDepth 100000 in
theorem xc00_14 : j_code jP 23 14 = some (.ireturn) := rfl
set_option maxRecDepth 1000000 in
theorem xc00_ok {ns : Int32} {nt : Int32} {cel : Int32} {tra : List Int32} {x1 : Int32} {d : Nat} {h h0 : J_H} (K : KN h [(327, .inl (2, [.int ns, .ref 328, .ref 329, .ref 330, .ref 331, .int nt, .ref 332, .ref 333, .ref 334, .ref 335, .ref 336, .ref 337, .ref 338, .int cel, .ref 339, .ref 340, .ref 341, .ref 342])), (330, .inr (.inl (0, tra)))] h0) : j_V jP d 23 0 (lv_args 0 [.ref 327, .int x1]) [] h (fun rv h' => rv = some (.int (x_cellsOf tra x1)) ∧ h' = h) := by
  show j_V jP d 23 0 [(0, .ref 327), (1, .int x1)] [] h _
  obtain ⟨lv, elv, L⟩ : ∃ lv, lv = [(0, .ref 327), (1, .int x1)] ∧ LK lv [(0, .ref 327), (1, .int x1)] := ⟨_, rfl, LK.rf⟩
  rw [← elv]
  clear elv
  refine j_V.one xc00_M xc00_0 (by decide) (pcJ := 1) (stJ := [.int 1]) rfl ?_
  refine j_V.ldL xc00_M xc00_1 rfl (i := 0) (kd := 2) (v := .ref 327) (pcJ := 2) rfl L rfl rfl rfl ?_
  refine j_V.getK xc00_M xc00_2 (ci := 2) (j := 3) rfl K rfl rfl ?_
  refine j_V.ldL xc00_M xc00_5 rfl (i := 1) (kd := 0) (v := .int x1) (pcJ := 6) rfl L rfl rfl rfl ?_
  refine j_V.iaA xc00_M xc00_6 K rfl ?_
  refine j_V.one xc00_M xc00_7 (by decide) (pcJ := 8) (stJ := [.int (1 <<< ((gA tra x1) &&& 31))]) rfl ?_
  refine j_V.one xc00_M xc00_8 (by decide) (pcJ := 9) (stJ := [.int 1, .int (1 <<< ((gA tra x1) &&& 31))]) rfl ?_
  refine j_V.one xc00_M xc00_9 (by decide) (pcJ := 10) (stJ := [.int ((1 <<< ((gA tra x1) &&& 31)) - 1)]) rfl ?_
  refine j_V.ldL xc00_M xc00_10 rfl (i := 1) (kd := 0) (v := .int x1) (pcJ := 11) rfl L rfl rfl rfl ?_
  refine j_V.one xc00_M xc00_11 (by decide) (pcJ := 12) (stJ := [.int 3, .int x1, .int ((1 <<< ((gA tra x1) &&& 31)) - 1)]) rfl ?_
  refine j_V.one xc00_M xc00_12 (by decide) (pcJ := 13) (stJ := [.int (x1 * 3), .int ((1 <<< ((gA tra x1) &&& 31)) - 1)]) rfl ?_
  refine j_V.one xc00_M xc00_13 (by decide) (pcJ := 14) (stJ := [.int (((1 <<< ((gA tra x1) &&& 31)) - 1) <<< ((x1 * 3) &&& 31))]) rfl ?_
  exact j_V.ri xc00_M xc00_14 ⟨congrArg (fun z => some (Value.int z)) (Eq.symm (show (x_cellsOf tra x1) = (((1 <<< ((gA tra x1) &&& 31)) - 1) <<< ((x1 * 3) &&& 31)) from rfl)), rfl⟩
set_option maxRecDepth 100000 in
theorem xc01_M : j_meth jP 22 = some (yX2_rideTo, cX2_rideTo, 5, (some .int), 2, false, 2) := rfl
set_option maxRecDepth 100000 in
theorem xc01_0 : j_code jP 22 0 = some (.iconst 0) := rfl
set_option maxRecDepth 100000 in
theorem xc01_1 : j_code jP 22 1 = some (.istore_n 3) := rfl
set_option maxRecDepth 100000 in
theorem xc01_2 : j_code jP 22 2 = some (.aload_n 0) := rfl
set_option maxRecDepth 100000 in
theorem xc01_3 : j_code jP 22 3 = some (.getfield 31) := rfl
set_option maxRecDepth 100000 in
theorem xc01_6 : j_code jP 22 6 = some (.iload_n 1) := rfl
set_option maxRecDepth 100000 in
theorem xc01_7 : j_code jP 22 7 = some (.iaload) := rfl
set_option maxRecDepth 100000 in
theorem xc01_8 : j_code jP 22 8 = some (.iload_n 2) := rfl
set_option maxRecDepth 100000 in
theorem xc01_9 : j_code jP 22 9 = some (.invokestatic 83) := rfl
set_option maxRecDepth 100000 in
theorem xc01_12 : j_code jP 22 12 = some (.istore 4) := rfl
set_option maxRecDepth 100000 in
theorem xc01_14 : j_code jP 22 14 = some (.iload 4) := rfl
set_option maxRecDepth 100000 in
theorem xc01_16 : j_code jP 22 16 = some (.aload_n 0) := rfl
set_option maxRecDepth 100000 in
theorem xc01_17 : j_code jP 22 17 = some (.getfield 31) := rfl
set_option maxRecDepth 100000 in
theorem xc01_20 : j_code jP 22 20 = some (.iload_n 1) := rfl
set_option maxRecDepth 100000 in
theorem xc01_21 : j_code jP 22 21 = some (.iaload) := rfl
set_option maxRecDepth 100000 in
theorem xc01_22 : j_code jP 22 22 = some (.iload_n 2) := rfl
set_option maxRecDepth 100000 in
theorem xc01_23 : j_code jP 22 23 = some (.invokestatic 88) := rfl
set_option maxRecDepth 100000 in
theorem xc01_26 : j_code jP 22 26 = some (.if_icmp .ge 24) := rfl
set_option maxRecDepth 100000 in
theorem xc01_29 : j_code jP 22 29 = some (.iload_n 3) := rfl
set_option maxRecDepth 100000 in
theorem xc01_30 : j_code jP 22 30 = some (.aload_n 0) := rfl
set_option maxRecDepth 100000 in
theorem xc01_31 : j_code jP 22 31 = some (.getfield 52) := rfl
set_option maxRecDepth 100000 in
theorem xc01_34 : j_code jP 22 34 = some (.iload_n 1) := rfl
set_option maxRecDepth 100000 in
theorem xc01_35 : j_code jP 22 35 = some (.bipush 6) := rfl
set_option maxRecDepth 100000 in
theorem xc01_37 : j_code jP 22 37 = some (.imul) := rfl
set_option maxRecDepth 100000 in
theorem xc01_38 : j_code jP 22 38 = some (.iload 4) := rfl
set_option maxRecDepth 100000 in
theorem xc01_40 : j_code jP 22 40 = some (.iadd) := rfl
set_option maxRecDepth 100000 in
theorem xc01_41 : j_code jP 22 41 = some (.iaload) := rfl
set_option maxRecDepth 100000 in
theorem xc01_42 : j_code jP 22 42 = some (.iadd) := rfl
set_option maxRecDepth 100000 in
theorem xc01_43 : j_code jP 22 43 = some (.istore_n 3) := rfl
set_option maxRecDepth 100000 in
theorem xc01_44 : j_code jP 22 44 = some (.iinc 4 1) := rfl
set_option maxRecDepth 100000 in
theorem xc01_47 : j_code jP 22 47 = some (.goto (-33)) := rfl
set_option maxRecDepth 100000 in
theorem xc01_50 : j_code jP 22 50 = some (.iload_n 3) := rfl
set_option maxRecDepth 100000 in
theorem xc01_51 : j_code jP 22 51 = some (.ireturn) := rfl
set_option maxRecDepth 1000000 in
theorem xc01_ok_l14 {ns : Int32} {nt : Int32} {cel : Int32} {frm : List Int32} {rid : List Int32} {v1 v2 : Int32} {d : Nat} {h h0 : J_H} : ∀ (f : Nat) (v4 v3 : Int32) {lv : J_L}, lpN (iMx (gA frm v1) v2) v4 = f → LK lv [(0, .ref 327), (1, .int v1), (2, .int v2), (3, .int v3), (4, .int v4)] → KN h [(327, .inl (2, [.int ns, .ref 328, .ref 329, .ref 330, .ref 331, .int nt, .ref 332, .ref 333, .ref 334, .ref 335, .ref 336, .ref 337, .ref 338, .int cel, .ref 339, .ref 340, .ref 341, .ref 342])), (334, .inr (.inl (0, frm))), (341, .inr (.inl (0, rid)))] h0 → j_V jP d 22 14 lv [] h (fun rv h' => rv = some (.int (x_rideTo_l14 rid v1 v2 f v4 v3)) ∧ h' = h) := by
  intro f
  induction f with
  | zero =>
    intro v4 v3 lv e L K
    refine j_V.ldL xc01_M xc01_14 rfl (i := 4) (kd := 0) (v := .int v4) (pcJ := 16) rfl L rfl rfl rfl ?_
    refine j_V.ldL xc01_M xc01_16 rfl (i := 0) (kd := 2) (v := .ref 327) (pcJ := 17) rfl L rfl rfl rfl ?_
    refine j_V.getK xc01_M xc01_17 (ci := 2) (j := 8) rfl K rfl rfl ?_
    refine j_V.ldL xc01_M xc01_20 rfl (i := 1) (kd := 0) (v := .int v1) (pcJ := 21) rfl L rfl rfl rfl ?_
    refine j_V.iaA xc01_M xc01_21 K rfl ?_
    refine j_V.ldL xc01_M xc01_22 rfl (i := 2) (kd := 0) (v := .int v2) (pcJ := 23) rfl L rfl rfl rfl ?_
    refine j_V.mx xc01_M xc01_23 rfl rfl (Nat.le_of_ble_eq_true rfl) ?_
    refine j_V.icmp xc01_M xc01_26 (t := 50) rfl (fun c26_0 => ?_) (fun c26_0 => ?_)
    · replace c26_0 : ¬ (v4 < (iMx (gA frm v1) v2)) := jd_ge c26_0
      refine j_V.ldL xc01_M xc01_50 rfl (i := 3) (kd := 0) (v := .int v3) (pcJ := 51) rfl L rfl rfl rfl ?_
      exact j_V.ri xc01_M xc01_51 ⟨congrArg (fun z => some (Value.int z)) (Eq.symm (show (x_rideTo_l14 rid v1 v2 0 v4 v3) = v3 from rfl)), rfl⟩
    · replace c26_0 : v4 < (iMx (gA frm v1) v2) := jd_gen c26_0
      exact absurd c26_0 (lpN_z e)
  | succ f ih =>
    intro v4 v3 lv e L K
    refine j_V.ldL xc01_M xc01_14 rfl (i := 4) (kd := 0) (v := .int v4) (pcJ := 16) rfl L rfl rfl rfl ?_
    refine j_V.ldL xc01_M xc01_16 rfl (i := 0) (kd := 2) (v := .ref 327) (pcJ := 17) rfl L rfl rfl rfl ?_
    refine j_V.getK xc01_M xc01_17 (ci := 2) (j := 8) rfl K rfl rfl ?_
    refine j_V.ldL xc01_M xc01_20 rfl (i := 1) (kd := 0) (v := .int v1) (pcJ := 21) rfl L rfl rfl rfl ?_
    refine j_V.iaA xc01_M xc01_21 K rfl ?_
    refine j_V.ldL xc01_M xc01_22 rfl (i := 2) (kd := 0) (v := .int v2) (pcJ := 23) rfl L rfl rfl rfl ?_
    refine j_V.mx xc01_M xc01_23 rfl rfl (Nat.le_of_ble_eq_true rfl) ?_
    refine j_V.icmp xc01_M xc01_26 (t := 50) rfl (fun c26_0 => ?_) (fun c26_0 => ?_)
    · replace c26_0 : ¬ (v4 < (iMx (gA frm v1) v2)) := jd_ge c26_0
      exact absurd (lpN_s e) c26_0
    · replace c26_0 : v4 < (iMx (gA frm v1) v2) := jd_gen c26_0
      refine j_V.ldL xc01_M xc01_29 rfl (i := 3) (kd := 0) (v := .int v3) (pcJ := 30) rfl L rfl rfl rfl ?_
      refine j_V.ldL xc01_M xc01_30 rfl (i := 0) (kd := 2) (v := .ref 327) (pcJ := 31) rfl L rfl rfl rfl ?_
      refine j_V.getK xc01_M xc01_31 (ci := 2) (j := 16) rfl K rfl rfl ?_
      refine j_V.ldL xc01_M xc01_34 rfl (i := 1) (kd := 0) (v := .int v1) (pcJ := 35) rfl L rfl rfl rfl ?_
      refine j_V.one xc01_M xc01_35 (by decide) (pcJ := 37) (stJ := [.int 6, .int v1, .ref 341, .int v3]) rfl ?_
      refine j_V.one xc01_M xc01_37 (by decide) (pcJ := 38) (stJ := [.int (v1 * 6), .ref 341, .int v3]) rfl ?_
      refine j_V.ldL xc01_M xc01_38 rfl (i := 4) (kd := 0) (v := .int v4) (pcJ := 40) rfl L rfl rfl rfl ?_
      refine j_V.one xc01_M xc01_40 (by decide) (pcJ := 41) (stJ := [.int ((v1 * 6) + v4), .ref 341, .int v3]) rfl ?_
      refine j_V.iaA xc01_M xc01_41 K rfl ?_
      refine j_V.one xc01_M xc01_42 (by decide) (pcJ := 43) (stJ := [.int (v3 + (gA rid ((v1 * 6) + v4)))]) rfl ?_
      refine j_V.stL xc01_M xc01_43 rfl (i := 3) (kd := 0) (kl' := [(0, .ref 327), (1, .int v1), (2, .int v2), (3, .int (v3 + (gA rid ((v1 * 6) + v4)))), (4, .int v4)]) (pcJ := 44) rfl L rfl (by decide) rfl rfl rfl (fun lv L => ?_)
      refine j_V.inL xc01_M xc01_44 (i := 4) (kl' := [(0, .ref 327), (1, .int v1), (2, .int v2), (3, .int (v3 + (gA rid ((v1 * 6) + v4)))), (4, .int (v4 + 1))]) (pcJ := 47) L rfl rfl rfl rfl (fun lv L => ?_)
      refine j_V.gto xc01_M xc01_47 (t := 14) rfl ?_
      refine j_V.mono (ih ((v4 + 1)) ((v3 + (gA rid ((v1 * 6) + v4)))) (lpN_n e) L K) ?_
      rintro r hz ⟨rfl, rfl⟩
      exact ⟨congrArg (fun z => some (Value.int z)) (Eq.symm (show (x_rideTo_l14 rid v1 v2 (f + 1) v4 v3) = (x_rideTo_l14 rid v1 v2 f ((v4 + 1)) ((v3 + (gA rid ((v1 * 6) + v4))))) from rfl)), rfl⟩
set_option maxRecDepth 1000000 in
theorem xc01_ok {ns : Int32} {nt : Int32} {cel : Int32} {frm : List Int32} {rid : List Int32} {x1 x2 : Int32} {d : Nat} {h h0 : J_H} (K : KN h [(327, .inl (2, [.int ns, .ref 328, .ref 329, .ref 330, .ref 331, .int nt, .ref 332, .ref 333, .ref 334, .ref 335, .ref 336, .ref 337, .ref 338, .int cel, .ref 339, .ref 340, .ref 341, .ref 342])), (334, .inr (.inl (0, frm))), (341, .inr (.inl (0, rid)))] h0) : j_V jP d 22 0 (lv_args 0 [.ref 327, .int x1, .int x2]) [] h (fun rv h' => rv = some (.int (x_rideTo frm rid x1 x2)) ∧ h' = h) := by
  show j_V jP d 22 0 [(0, .ref 327), (1, .int x1), (2, .int x2)] [] h _
  obtain ⟨lv, elv, L⟩ : ∃ lv, lv = [(0, .ref 327), (1, .int x1), (2, .int x2)] ∧ LK lv [(0, .ref 327), (1, .int x1), (2, .int x2)] := ⟨_, rfl, LK.rf⟩
  rw [← elv]
  clear elv
  refine j_V.one xc01_M xc01_0 (by decide) (pcJ := 1) (stJ := [.int 0]) rfl ?_
  refine j_V.stL xc01_M xc01_1 rfl (i := 3) (kd := 0) (kl' := [(0, .ref 327), (1, .int x1), (2, .int x2), (3, .int 0)]) (pcJ := 2) rfl L rfl (by decide) rfl rfl rfl (fun lv L => ?_)
  refine j_V.ldL xc01_M xc01_2 rfl (i := 0) (kd := 2) (v := .ref 327) (pcJ := 3) rfl L rfl rfl rfl ?_
  refine j_V.getK xc01_M xc01_3 (ci := 2) (j := 8) rfl K rfl rfl ?_
  refine j_V.ldL xc01_M xc01_6 rfl (i := 1) (kd := 0) (v := .int x1) (pcJ := 7) rfl L rfl rfl rfl ?_
  refine j_V.iaA xc01_M xc01_7 K rfl ?_
  refine j_V.ldL xc01_M xc01_8 rfl (i := 2) (kd := 0) (v := .int x2) (pcJ := 9) rfl L rfl rfl rfl ?_
  refine j_V.mn xc01_M xc01_9 rfl rfl (Nat.le_of_ble_eq_true rfl) ?_
  refine j_V.stL xc01_M xc01_12 rfl (i := 4) (kd := 0) (kl' := [(0, .ref 327), (1, .int x1), (2, .int x2), (3, .int 0), (4, .int (iMn (gA frm x1) x2))]) (pcJ := 14) rfl L rfl (by decide) rfl rfl rfl (fun lv L => ?_)
  refine j_V.mono (xc01_ok_l14 _ ((iMn (gA frm x1) x2)) (0) rfl L K) ?_
  rintro r hz ⟨rfl, rfl⟩
  exact ⟨congrArg (fun z => some (Value.int z)) (Eq.symm (show (x_rideTo frm rid x1 x2) = (x_rideTo_l14 rid x1 x2 (lpN (iMx (gA frm x1) x2) ((iMn (gA frm x1) x2))) ((iMn (gA frm x1) x2)) 0) from rfl)), rfl⟩
set_option maxRecDepth 100000 in
theorem xc02_M : j_meth jP 24 = some (yX2_longest, cX2_longest, 4, (some .int), 1, false, 2) := rfl
set_option maxRecDepth 100000 in
theorem xc02_0 : j_code jP 24 0 = some (.iconst 0) := rfl
set_option maxRecDepth 100000 in
theorem xc02_1 : j_code jP 24 1 = some (.istore_n 2) := rfl
set_option maxRecDepth 100000 in
theorem xc02_2 : j_code jP 24 2 = some (.iconst 0) := rfl
set_option maxRecDepth 100000 in
theorem xc02_3 : j_code jP 24 3 = some (.istore_n 3) := rfl
set_option maxRecDepth 100000 in
theorem xc02_4 : j_code jP 24 4 = some (.iload_n 3) := rfl
set_option maxRecDepth 100000 in
theorem xc02_5 : j_code jP 24 5 = some (.aload_n 0) := rfl
set_option maxRecDepth 100000 in
theorem xc02_6 : j_code jP 24 6 = some (.getfield 19) := rfl
set_option maxRecDepth 100000 in
theorem xc02_9 : j_code jP 24 9 = some (.iload_n 1) := rfl
set_option maxRecDepth 100000 in
theorem xc02_10 : j_code jP 24 10 = some (.iaload) := rfl
set_option maxRecDepth 100000 in
theorem xc02_11 : j_code jP 24 11 = some (.if_icmp .ge 24) := rfl
set_option maxRecDepth 100000 in
theorem xc02_14 : j_code jP 24 14 = some (.iload_n 2) := rfl
set_option maxRecDepth 100000 in
theorem xc02_15 : j_code jP 24 15 = some (.aload_n 0) := rfl
set_option maxRecDepth 100000 in
theorem xc02_16 : j_code jP 24 16 = some (.getfield 22) := rfl
set_option maxRecDepth 100000 in
theorem xc02_19 : j_code jP 24 19 = some (.iload_n 1) := rfl
set_option maxRecDepth 100000 in
theorem xc02_20 : j_code jP 24 20 = some (.iconst 3) := rfl
set_option maxRecDepth 100000 in
theorem xc02_21 : j_code jP 24 21 = some (.imul) := rfl
set_option maxRecDepth 100000 in
theorem xc02_22 : j_code jP 24 22 = some (.iload_n 3) := rfl
set_option maxRecDepth 100000 in
theorem xc02_23 : j_code jP 24 23 = some (.iadd) := rfl
set_option maxRecDepth 100000 in
theorem xc02_24 : j_code jP 24 24 = some (.iaload) := rfl
set_option maxRecDepth 100000 in
theorem xc02_25 : j_code jP 24 25 = some (.invokestatic 88) := rfl
set_option maxRecDepth 100000 in
theorem xc02_28 : j_code jP 24 28 = some (.istore_n 2) := rfl
set_option maxRecDepth 100000 in
theorem xc02_29 : j_code jP 24 29 = some (.iinc 3 1) := rfl
set_option maxRecDepth 100000 in
theorem xc02_32 : j_code jP 24 32 = some (.goto (-28)) := rfl
set_option maxRecDepth 100000 in
theorem xc02_35 : j_code jP 24 35 = some (.iload_n 2) := rfl
set_option maxRecDepth 100000 in
theorem xc02_36 : j_code jP 24 36 = some (.ireturn) := rfl
set_option maxRecDepth 1000000 in
theorem xc02_ok_l4 {ns : Int32} {nt : Int32} {cel : Int32} {tra : List Int32} {len : List Int32} {v1 : Int32} {d : Nat} {h h0 : J_H} : ∀ (f : Nat) (v3 v2 : Int32) {lv : J_L}, lpN (gA tra v1) v3 = f → LK lv [(0, .ref 327), (1, .int v1), (2, .int v2), (3, .int v3)] → KN h [(327, .inl (2, [.int ns, .ref 328, .ref 329, .ref 330, .ref 331, .int nt, .ref 332, .ref 333, .ref 334, .ref 335, .ref 336, .ref 337, .ref 338, .int cel, .ref 339, .ref 340, .ref 341, .ref 342])), (330, .inr (.inl (0, tra))), (331, .inr (.inl (0, len)))] h0 → j_V jP d 24 4 lv [] h (fun rv h' => rv = some (.int (x_longest_l4 len v1 f v3 v2)) ∧ h' = h) := by
  intro f
  induction f with
  | zero =>
    intro v3 v2 lv e L K
    refine j_V.ldL xc02_M xc02_4 rfl (i := 3) (kd := 0) (v := .int v3) (pcJ := 5) rfl L rfl rfl rfl ?_
    refine j_V.ldL xc02_M xc02_5 rfl (i := 0) (kd := 2) (v := .ref 327) (pcJ := 6) rfl L rfl rfl rfl ?_
    refine j_V.getK xc02_M xc02_6 (ci := 2) (j := 3) rfl K rfl rfl ?_
    refine j_V.ldL xc02_M xc02_9 rfl (i := 1) (kd := 0) (v := .int v1) (pcJ := 10) rfl L rfl rfl rfl ?_
    refine j_V.iaA xc02_M xc02_10 K rfl ?_
    refine j_V.icmp xc02_M xc02_11 (t := 35) rfl (fun c11_0 => ?_) (fun c11_0 => ?_)
    · replace c11_0 : ¬ (v3 < (gA tra v1)) := jd_ge c11_0
      refine j_V.ldL xc02_M xc02_35 rfl (i := 2) (kd := 0) (v := .int v2) (pcJ := 36) rfl L rfl rfl rfl ?_
      exact j_V.ri xc02_M xc02_36 ⟨congrArg (fun z => some (Value.int z)) (Eq.symm (show (x_longest_l4 len v1 0 v3 v2) = v2 from rfl)), rfl⟩
    · replace c11_0 : v3 < (gA tra v1) := jd_gen c11_0
      exact absurd c11_0 (lpN_z e)
  | succ f ih =>
    intro v3 v2 lv e L K
    refine j_V.ldL xc02_M xc02_4 rfl (i := 3) (kd := 0) (v := .int v3) (pcJ := 5) rfl L rfl rfl rfl ?_
    refine j_V.ldL xc02_M xc02_5 rfl (i := 0) (kd := 2) (v := .ref 327) (pcJ := 6) rfl L rfl rfl rfl ?_
    refine j_V.getK xc02_M xc02_6 (ci := 2) (j := 3) rfl K rfl rfl ?_
    refine j_V.ldL xc02_M xc02_9 rfl (i := 1) (kd := 0) (v := .int v1) (pcJ := 10) rfl L rfl rfl rfl ?_
    refine j_V.iaA xc02_M xc02_10 K rfl ?_
    refine j_V.icmp xc02_M xc02_11 (t := 35) rfl (fun c11_0 => ?_) (fun c11_0 => ?_)
    · replace c11_0 : ¬ (v3 < (gA tra v1)) := jd_ge c11_0
      exact absurd (lpN_s e) c11_0
    · replace c11_0 : v3 < (gA tra v1) := jd_gen c11_0
      refine j_V.ldL xc02_M xc02_14 rfl (i := 2) (kd := 0) (v := .int v2) (pcJ := 15) rfl L rfl rfl rfl ?_
      refine j_V.ldL xc02_M xc02_15 rfl (i := 0) (kd := 2) (v := .ref 327) (pcJ := 16) rfl L rfl rfl rfl ?_
      refine j_V.getK xc02_M xc02_16 (ci := 2) (j := 4) rfl K rfl rfl ?_
      refine j_V.ldL xc02_M xc02_19 rfl (i := 1) (kd := 0) (v := .int v1) (pcJ := 20) rfl L rfl rfl rfl ?_
      refine j_V.one xc02_M xc02_20 (by decide) (pcJ := 21) (stJ := [.int 3, .int v1, .ref 331, .int v2]) rfl ?_
      refine j_V.one xc02_M xc02_21 (by decide) (pcJ := 22) (stJ := [.int (v1 * 3), .ref 331, .int v2]) rfl ?_
      refine j_V.ldL xc02_M xc02_22 rfl (i := 3) (kd := 0) (v := .int v3) (pcJ := 23) rfl L rfl rfl rfl ?_
      refine j_V.one xc02_M xc02_23 (by decide) (pcJ := 24) (stJ := [.int ((v1 * 3) + v3), .ref 331, .int v2]) rfl ?_
      refine j_V.iaA xc02_M xc02_24 K rfl ?_
      refine j_V.mx xc02_M xc02_25 rfl rfl (Nat.le_of_ble_eq_true rfl) ?_
      refine j_V.stL xc02_M xc02_28 rfl (i := 2) (kd := 0) (kl' := [(0, .ref 327), (1, .int v1), (2, .int (iMx v2 (gA len ((v1 * 3) + v3)))), (3, .int v3)]) (pcJ := 29) rfl L rfl (by decide) rfl rfl rfl (fun lv L => ?_)
      refine j_V.inL xc02_M xc02_29 (i := 3) (kl' := [(0, .ref 327), (1, .int v1), (2, .int (iMx v2 (gA len ((v1 * 3) + v3)))), (3, .int (v3 + 1))]) (pcJ := 32) L rfl rfl rfl rfl (fun lv L => ?_)
      refine j_V.gto xc02_M xc02_32 (t := 4) rfl ?_
      refine j_V.mono (ih ((v3 + 1)) ((iMx v2 (gA len ((v1 * 3) + v3)))) (lpN_n e) L K) ?_
      rintro r hz ⟨rfl, rfl⟩
      exact ⟨congrArg (fun z => some (Value.int z)) (Eq.symm (show (x_longest_l4 len v1 (f + 1) v3 v2) = (x_longest_l4 len v1 f ((v3 + 1)) ((iMx v2 (gA len ((v1 * 3) + v3))))) from rfl)), rfl⟩
set_option maxRecDepth 1000000 in
theorem xc02_ok {ns : Int32} {nt : Int32} {cel : Int32} {tra : List Int32} {len : List Int32} {x1 : Int32} {d : Nat} {h h0 : J_H} (K : KN h [(327, .inl (2, [.int ns, .ref 328, .ref 329, .ref 330, .ref 331, .int nt, .ref 332, .ref 333, .ref 334, .ref 335, .ref 336, .ref 337, .ref 338, .int cel, .ref 339, .ref 340, .ref 341, .ref 342])), (330, .inr (.inl (0, tra))), (331, .inr (.inl (0, len)))] h0) : j_V jP d 24 0 (lv_args 0 [.ref 327, .int x1]) [] h (fun rv h' => rv = some (.int (x_longest tra len x1)) ∧ h' = h) := by
  show j_V jP d 24 0 [(0, .ref 327), (1, .int x1)] [] h _
  obtain ⟨lv, elv, L⟩ : ∃ lv, lv = [(0, .ref 327), (1, .int x1)] ∧ LK lv [(0, .ref 327), (1, .int x1)] := ⟨_, rfl, LK.rf⟩
  rw [← elv]
  clear elv
  refine j_V.one xc02_M xc02_0 (by decide) (pcJ := 1) (stJ := [.int 0]) rfl ?_
  refine j_V.stL xc02_M xc02_1 rfl (i := 2) (kd := 0) (kl' := [(0, .ref 327), (1, .int x1), (2, .int 0)]) (pcJ := 2) rfl L rfl (by decide) rfl rfl rfl (fun lv L => ?_)
  refine j_V.one xc02_M xc02_2 (by decide) (pcJ := 3) (stJ := [.int 0]) rfl ?_
  refine j_V.stL xc02_M xc02_3 rfl (i := 3) (kd := 0) (kl' := [(0, .ref 327), (1, .int x1), (2, .int 0), (3, .int 0)]) (pcJ := 4) rfl L rfl (by decide) rfl rfl rfl (fun lv L => ?_)
  refine j_V.mono (xc02_ok_l4 _ (0) (0) rfl L K) ?_
  rintro r hz ⟨rfl, rfl⟩
  exact ⟨congrArg (fun z => some (Value.int z)) (Eq.symm (show (x_longest tra len x1) = (x_longest_l4 len x1 (lpN (gA tra x1) 0) 0 0) from rfl)), rfl⟩
set_option maxRecDepth 100000 in
theorem xc03_M : j_meth jP 62 = some (yX7_count, cX7_count, 4, (some .int), 1, false, 7) := rfl
set_option maxRecDepth 100000 in
theorem xc03_0 : j_code jP 62 0 = some (.iconst 0) := rfl
set_option maxRecDepth 100000 in
theorem xc03_1 : j_code jP 62 1 = some (.istore_n 2) := rfl
set_option maxRecDepth 100000 in
theorem xc03_2 : j_code jP 62 2 = some (.iconst 0) := rfl
set_option maxRecDepth 100000 in
theorem xc03_3 : j_code jP 62 3 = some (.istore_n 3) := rfl
set_option maxRecDepth 100000 in
theorem xc03_4 : j_code jP 62 4 = some (.iload_n 3) := rfl
set_option maxRecDepth 100000 in
theorem xc03_5 : j_code jP 62 5 = some (.aload_n 0) := rfl
set_option maxRecDepth 100000 in
theorem xc03_6 : j_code jP 62 6 = some (.getfield 64) := rfl
set_option maxRecDepth 100000 in
theorem xc03_9 : j_code jP 62 9 = some (.getfield 102) := rfl
set_option maxRecDepth 100000 in
theorem xc03_12 : j_code jP 62 12 = some (.if_icmp .ge 22) := rfl
set_option maxRecDepth 100000 in
theorem xc03_15 : j_code jP 62 15 = some (.aload_n 0) := rfl
set_option maxRecDepth 100000 in
theorem xc03_16 : j_code jP 62 16 = some (.getfield 18) := rfl
set_option maxRecDepth 100000 in
theorem xc03_19 : j_code jP 62 19 = some (.iload_n 3) := rfl
set_option maxRecDepth 100000 in
theorem xc03_20 : j_code jP 62 20 = some (.iaload) := rfl
set_option maxRecDepth 100000 in
theorem xc03_21 : j_code jP 62 21 = some (.iload_n 1) := rfl
set_option maxRecDepth 100000 in
theorem xc03_22 : j_code jP 62 22 = some (.if_icmp .ne 6) := rfl
set_option maxRecDepth 100000 in
theorem xc03_25 : j_code jP 62 25 = some (.iinc 2 1) := rfl
set_option maxRecDepth 100000 in
theorem xc03_28 : j_code jP 62 28 = some (.iinc 3 1) := rfl
set_option maxRecDepth 100000 in
theorem xc03_31 : j_code jP 62 31 = some (.goto (-27)) := rfl
set_option maxRecDepth 100000 in
theorem xc03_34 : j_code jP 62 34 = some (.iload_n 2) := rfl
set_option maxRecDepth 100000 in
theorem xc03_35 : j_code jP 62 35 = some (.ireturn) := rfl
set_option maxRecDepth 1000000 in
theorem xc03_ok_l4 {mi : Int32} {shu : Int32} {bus : Int32} {lks : Int32} {ph : List Int32} {ns : Int32} {nt : Int32} {cel : Int32} {v1 : Int32} {d : Nat} {h h0 : J_H} : ∀ (f : Nat) (v3 v2 : Int32) {lv : J_L}, lpN nt v3 = f → LK lv [(0, .ref 282), (1, .int v1), (2, .int v2), (3, .int v3)] → KN h [(282, .inl (7, [.ref 327, .int mi, .int shu, .int bus, .ref 283, .ref 284, .ref 285, .ref 286, .ref 287, .ref 288, .ref 289, .ref 290, .ref 291, .ref 292, .ref 293, .int lks, .ref 294, .ref 295, .ref 298])), (285, .inr (.inl (0, ph))), (327, .inl (2, [.int ns, .ref 328, .ref 329, .ref 330, .ref 331, .int nt, .ref 332, .ref 333, .ref 334, .ref 335, .ref 336, .ref 337, .ref 338, .int cel, .ref 339, .ref 340, .ref 341, .ref 342]))] h0 → j_V jP d 62 4 lv [] h (fun rv h' => rv = some (.int (x_count_l4 ph v1 f v3 v2)) ∧ h' = h) := by
  intro f
  induction f with
  | zero =>
    intro v3 v2 lv e L K
    refine j_V.ldL xc03_M xc03_4 rfl (i := 3) (kd := 0) (v := .int v3) (pcJ := 5) rfl L rfl rfl rfl ?_
    refine j_V.ldL xc03_M xc03_5 rfl (i := 0) (kd := 2) (v := .ref 282) (pcJ := 6) rfl L rfl rfl rfl ?_
    refine j_V.getK xc03_M xc03_6 (ci := 7) (j := 0) rfl K rfl rfl ?_
    refine j_V.getK xc03_M xc03_9 (ci := 2) (j := 5) rfl K rfl rfl ?_
    refine j_V.icmp xc03_M xc03_12 (t := 34) rfl (fun c12_0 => ?_) (fun c12_0 => ?_)
    · replace c12_0 : ¬ (v3 < nt) := jd_ge c12_0
      refine j_V.ldL xc03_M xc03_34 rfl (i := 2) (kd := 0) (v := .int v2) (pcJ := 35) rfl L rfl rfl rfl ?_
      exact j_V.ri xc03_M xc03_35 ⟨congrArg (fun z => some (Value.int z)) (Eq.symm (show (x_count_l4 ph v1 0 v3 v2) = v2 from rfl)), rfl⟩
    · replace c12_0 : v3 < nt := jd_gen c12_0
      exact absurd c12_0 (lpN_z e)
  | succ f ih =>
    intro v3 v2 lv e L K
    refine j_V.ldL xc03_M xc03_4 rfl (i := 3) (kd := 0) (v := .int v3) (pcJ := 5) rfl L rfl rfl rfl ?_
    refine j_V.ldL xc03_M xc03_5 rfl (i := 0) (kd := 2) (v := .ref 282) (pcJ := 6) rfl L rfl rfl rfl ?_
    refine j_V.getK xc03_M xc03_6 (ci := 7) (j := 0) rfl K rfl rfl ?_
    refine j_V.getK xc03_M xc03_9 (ci := 2) (j := 5) rfl K rfl rfl ?_
    refine j_V.icmp xc03_M xc03_12 (t := 34) rfl (fun c12_0 => ?_) (fun c12_0 => ?_)
    · replace c12_0 : ¬ (v3 < nt) := jd_ge c12_0
      exact absurd (lpN_s e) c12_0
    · replace c12_0 : v3 < nt := jd_gen c12_0
      refine j_V.ldL xc03_M xc03_15 rfl (i := 0) (kd := 2) (v := .ref 282) (pcJ := 16) rfl L rfl rfl rfl ?_
      refine j_V.getK xc03_M xc03_16 (ci := 7) (j := 6) rfl K rfl rfl ?_
      refine j_V.ldL xc03_M xc03_19 rfl (i := 3) (kd := 0) (v := .int v3) (pcJ := 20) rfl L rfl rfl rfl ?_
      refine j_V.iaA xc03_M xc03_20 K rfl ?_
      refine j_V.ldL xc03_M xc03_21 rfl (i := 1) (kd := 0) (v := .int v1) (pcJ := 22) rfl L rfl rfl rfl ?_
      refine j_V.cut (b := 28) (stJ := []) (fun v => [(0, .ref 282), (1, .int v1), (2, .int v), (3, .int v3)]) ((if (gA ph v3) = v1 then (v2 + 1) else v2) : Int32) (fun Q kk => ?_) (fun lv L => ?_)
      · refine j_V.icmp xc03_M xc03_22 (t := 28) rfl (fun c22_0 => ?_) (fun c22_0 => ?_)
        · replace c22_0 : ¬ ((gA ph v3) = v1) := jd_ne c22_0
          exact kk _ (Eq.subst (motive := fun z => LK _ ((fun v => [(0, .ref 282), (1, .int v1), (2, .int v), (3, .int v3)]) z)) (show v2 = ((if (gA ph v3) = v1 then (v2 + 1) else v2) : Int32) from Eq.symm ((if_neg c22_0).trans (rfl))) L)
        · replace c22_0 : (gA ph v3) = v1 := jd_nen c22_0
          refine j_V.inL xc03_M xc03_25 (i := 2) (kl' := [(0, .ref 282), (1, .int v1), (2, .int (v2 + 1)), (3, .int v3)]) (pcJ := 28) L rfl rfl rfl rfl (fun lv L => ?_)
          exact kk _ (Eq.subst (motive := fun z => LK _ ((fun v => [(0, .ref 282), (1, .int v1), (2, .int v), (3, .int v3)]) z)) (show (v2 + 1) = ((if (gA ph v3) = v1 then (v2 + 1) else v2) : Int32) from Eq.symm ((if_pos c22_0).trans (rfl))) L)
      refine j_V.inL xc03_M xc03_28 (i := 3) (kl' := [(0, .ref 282), (1, .int v1), (2, .int ((if (gA ph v3) = v1 then (v2 + 1) else v2) : Int32)), (3, .int (v3 + 1))]) (pcJ := 31) L rfl rfl rfl rfl (fun lv L => ?_)
      refine j_V.gto xc03_M xc03_31 (t := 4) rfl ?_
      refine j_V.mono (ih ((v3 + 1)) (((if (gA ph v3) = v1 then (v2 + 1) else v2) : Int32)) (lpN_n e) L K) ?_
      rintro r hz ⟨rfl, rfl⟩
      exact ⟨congrArg (fun z => some (Value.int z)) (Eq.symm (show (x_count_l4 ph v1 (f + 1) v3 v2) = (x_count_l4 ph v1 f ((v3 + 1)) (((if (gA ph v3) = v1 then (v2 + 1) else v2) : Int32))) from rfl)), rfl⟩
set_option maxRecDepth 1000000 in
theorem xc03_ok {mi : Int32} {shu : Int32} {bus : Int32} {lks : Int32} {ph : List Int32} {ns : Int32} {nt : Int32} {cel : Int32} {x1 : Int32} {d : Nat} {h h0 : J_H} (K : KN h [(282, .inl (7, [.ref 327, .int mi, .int shu, .int bus, .ref 283, .ref 284, .ref 285, .ref 286, .ref 287, .ref 288, .ref 289, .ref 290, .ref 291, .ref 292, .ref 293, .int lks, .ref 294, .ref 295, .ref 298])), (285, .inr (.inl (0, ph))), (327, .inl (2, [.int ns, .ref 328, .ref 329, .ref 330, .ref 331, .int nt, .ref 332, .ref 333, .ref 334, .ref 335, .ref 336, .ref 337, .ref 338, .int cel, .ref 339, .ref 340, .ref 341, .ref 342]))] h0) : j_V jP d 62 0 (lv_args 0 [.ref 282, .int x1]) [] h (fun rv h' => rv = some (.int (x_count ph nt x1)) ∧ h' = h) := by
  show j_V jP d 62 0 [(0, .ref 282), (1, .int x1)] [] h _
  obtain ⟨lv, elv, L⟩ : ∃ lv, lv = [(0, .ref 282), (1, .int x1)] ∧ LK lv [(0, .ref 282), (1, .int x1)] := ⟨_, rfl, LK.rf⟩
  rw [← elv]
  clear elv
  refine j_V.one xc03_M xc03_0 (by decide) (pcJ := 1) (stJ := [.int 0]) rfl ?_
  refine j_V.stL xc03_M xc03_1 rfl (i := 2) (kd := 0) (kl' := [(0, .ref 282), (1, .int x1), (2, .int 0)]) (pcJ := 2) rfl L rfl (by decide) rfl rfl rfl (fun lv L => ?_)
  refine j_V.one xc03_M xc03_2 (by decide) (pcJ := 3) (stJ := [.int 0]) rfl ?_
  refine j_V.stL xc03_M xc03_3 rfl (i := 3) (kd := 0) (kl' := [(0, .ref 282), (1, .int x1), (2, .int 0), (3, .int 0)]) (pcJ := 4) rfl L rfl (by decide) rfl rfl rfl (fun lv L => ?_)
  refine j_V.mono (xc03_ok_l4 _ (0) (0) rfl L K) ?_
  rintro r hz ⟨rfl, rfl⟩
  exact ⟨congrArg (fun z => some (Value.int z)) (Eq.symm (show (x_count ph nt x1) = (x_count_l4 ph x1 (lpN nt 0) 0 0) from rfl)), rfl⟩
set_option maxRecDepth 100000 in
theorem xc04_M : j_meth jP 63 = some (yX7_delay, cX7_delay, 2, (some .int), 1, false, 7) := rfl
set_option maxRecDepth 100000 in
theorem xc04_0 : j_code jP 63 0 = some (.aload_n 0) := rfl
set_option maxRecDepth 100000 in
theorem xc04_1 : j_code jP 63 1 = some (.getfield 18) := rfl
set_option maxRecDepth 100000 in
theorem xc04_4 : j_code jP 63 4 = some (.iload_n 1) := rfl
set_option maxRecDepth 100000 in
theorem xc04_5 : j_code jP 63 5 = some (.iaload) := rfl
set_option maxRecDepth 100000 in
theorem xc04_6 : j_code jP 63 6 = some (.iconst 3) := rfl
set_option maxRecDepth 100000 in
theorem xc04_7 : j_code jP 63 7 = some (.if_icmp .eq 5) := rfl
set_option maxRecDepth 100000 in
theorem xc04_10 : j_code jP 63 10 = some (.iconst (-1)) := rfl
set_option maxRecDepth 100000 in
theorem xc04_11 : j_code jP 63 11 = some (.ireturn) := rfl
set_option maxRecDepth 100000 in
theorem xc04_12 : j_code jP 63 12 = some (.aload_n 0) := rfl
set_option maxRecDepth 100000 in
theorem xc04_13 : j_code jP 63 13 = some (.getfield 39) := rfl
set_option maxRecDepth 100000 in
theorem xc04_16 : j_code jP 63 16 = some (.iload_n 1) := rfl
set_option maxRecDepth 100000 in
theorem xc04_17 : j_code jP 63 17 = some (.bipush 7) := rfl
set_option maxRecDepth 100000 in
theorem xc04_19 : j_code jP 63 19 = some (.imul) := rfl
set_option maxRecDepth 100000 in
theorem xc04_20 : j_code jP 63 20 = some (.aload_n 0) := rfl
set_option maxRecDepth 100000 in
theorem xc04_21 : j_code jP 63 21 = some (.getfield 64) := rfl
set_option maxRecDepth 100000 in
theorem xc04_24 : j_code jP 63 24 = some (.getfield 112) := rfl
set_option maxRecDepth 100000 in
theorem xc04_27 : j_code jP 63 27 = some (.iload_n 1) := rfl
set_option maxRecDepth 100000 in
theorem xc04_28 : j_code jP 63 28 = some (.iaload) := rfl
set_option maxRecDepth 100000 in
theorem xc04_29 : j_code jP 63 29 = some (.iadd) := rfl
set_option maxRecDepth 100000 in
theorem xc04_30 : j_code jP 63 30 = some (.iaload) := rfl
set_option maxRecDepth 100000 in
theorem xc04_31 : j_code jP 63 31 = some (.aload_n 0) := rfl
set_option maxRecDepth 100000 in
theorem xc04_32 : j_code jP 63 32 = some (.getfield 15) := rfl
set_option maxRecDepth 100000 in
theorem xc04_35 : j_code jP 63 35 = some (.iload_n 1) := rfl
set_option maxRecDepth 100000 in
theorem xc04_36 : j_code jP 63 36 = some (.iaload) := rfl
set_option maxRecDepth 100000 in
theorem xc04_37 : j_code jP 63 37 = some (.isub) := rfl
set_option maxRecDepth 100000 in
theorem xc04_38 : j_code jP 63 38 = some (.aload_n 0) := rfl
set_option maxRecDepth 100000 in
theorem xc04_39 : j_code jP 63 39 = some (.getfield 64) := rfl
set_option maxRecDepth 100000 in
theorem xc04_42 : j_code jP 63 42 = some (.getfield 115) := rfl
set_option maxRecDepth 100000 in
theorem xc04_45 : j_code jP 63 45 = some (.iload_n 1) := rfl
set_option maxRecDepth 100000 in
theorem xc04_46 : j_code jP 63 46 = some (.iaload) := rfl
set_option maxRecDepth 100000 in
theorem xc04_47 : j_code jP 63 47 = some (.isub) := rfl
set_option maxRecDepth 100000 in
theorem xc04_48 : j_code jP 63 48 = some (.ireturn) := rfl
set_option maxRecDepth 1000000 in
theorem xc04_ok {mi : Int32} {shu : Int32} {bus : Int32} {lks : Int32} {sta : List Int32} {ph : List Int32} {cm : List Int32} {ns : Int32} {nt : Int32} {cel : Int32} {tto : List Int32} {lon : List Int32} {x1 : Int32} {d : Nat} {h h0 : J_H} (K : KN h [(282, .inl (7, [.ref 327, .int mi, .int shu, .int bus, .ref 283, .ref 284, .ref 285, .ref 286, .ref 287, .ref 288, .ref 289, .ref 290, .ref 291, .ref 292, .ref 293, .int lks, .ref 294, .ref 295, .ref 298])), (284, .inr (.inl (0, sta))), (285, .inr (.inl (0, ph))), (292, .inr (.inl (0, cm))), (327, .inl (2, [.int ns, .ref 328, .ref 329, .ref 330, .ref 331, .int nt, .ref 332, .ref 333, .ref 334, .ref 335, .ref 336, .ref 337, .ref 338, .int cel, .ref 339, .ref 340, .ref 341, .ref 342])), (335, .inr (.inl (0, tto))), (342, .inr (.inl (0, lon)))] h0) : j_V jP d 63 0 (lv_args 0 [.ref 282, .int x1]) [] h (fun rv h' => rv = some (.int (x_delay sta ph cm tto lon x1)) ∧ h' = h) := by
  show j_V jP d 63 0 [(0, .ref 282), (1, .int x1)] [] h _
  obtain ⟨lv, elv, L⟩ : ∃ lv, lv = [(0, .ref 282), (1, .int x1)] ∧ LK lv [(0, .ref 282), (1, .int x1)] := ⟨_, rfl, LK.rf⟩
  rw [← elv]
  clear elv
  refine j_V.ldL xc04_M xc04_0 rfl (i := 0) (kd := 2) (v := .ref 282) (pcJ := 1) rfl L rfl rfl rfl ?_
  refine j_V.getK xc04_M xc04_1 (ci := 7) (j := 6) rfl K rfl rfl ?_
  refine j_V.ldL xc04_M xc04_4 rfl (i := 1) (kd := 0) (v := .int x1) (pcJ := 5) rfl L rfl rfl rfl ?_
  refine j_V.iaA xc04_M xc04_5 K rfl ?_
  refine j_V.one xc04_M xc04_6 (by decide) (pcJ := 7) (stJ := [.int 3, .int (gA ph x1)]) rfl ?_
  refine j_V.icmp xc04_M xc04_7 (t := 12) rfl (fun c7_0 => ?_) (fun c7_0 => ?_)
  · replace c7_0 : (gA ph x1) = 3 := jd_eq c7_0
    refine j_V.ldL xc04_M xc04_12 rfl (i := 0) (kd := 2) (v := .ref 282) (pcJ := 13) rfl L rfl rfl rfl ?_
    refine j_V.getK xc04_M xc04_13 (ci := 7) (j := 13) rfl K rfl rfl ?_
    refine j_V.ldL xc04_M xc04_16 rfl (i := 1) (kd := 0) (v := .int x1) (pcJ := 17) rfl L rfl rfl rfl ?_
    refine j_V.one xc04_M xc04_17 (by decide) (pcJ := 19) (stJ := [.int 7, .int x1, .ref 292]) rfl ?_
    refine j_V.one xc04_M xc04_19 (by decide) (pcJ := 20) (stJ := [.int (x1 * 7), .ref 292]) rfl ?_
    refine j_V.ldL xc04_M xc04_20 rfl (i := 0) (kd := 2) (v := .ref 282) (pcJ := 21) rfl L rfl rfl rfl ?_
    refine j_V.getK xc04_M xc04_21 (ci := 7) (j := 0) rfl K rfl rfl ?_
    refine j_V.getK xc04_M xc04_24 (ci := 2) (j := 9) rfl K rfl rfl ?_
    refine j_V.ldL xc04_M xc04_27 rfl (i := 1) (kd := 0) (v := .int x1) (pcJ := 28) rfl L rfl rfl rfl ?_
    refine j_V.iaA xc04_M xc04_28 K rfl ?_
    refine j_V.one xc04_M xc04_29 (by decide) (pcJ := 30) (stJ := [.int ((x1 * 7) + (gA tto x1)), .ref 292]) rfl ?_
    refine j_V.iaA xc04_M xc04_30 K rfl ?_
    refine j_V.ldL xc04_M xc04_31 rfl (i := 0) (kd := 2) (v := .ref 282) (pcJ := 32) rfl L rfl rfl rfl ?_
    refine j_V.getK xc04_M xc04_32 (ci := 7) (j := 5) rfl K rfl rfl ?_
    refine j_V.ldL xc04_M xc04_35 rfl (i := 1) (kd := 0) (v := .int x1) (pcJ := 36) rfl L rfl rfl rfl ?_
    refine j_V.iaA xc04_M xc04_36 K rfl ?_
    refine j_V.one xc04_M xc04_37 (by decide) (pcJ := 38) (stJ := [.int ((gA cm ((x1 * 7) + (gA tto x1))) - (gA sta x1))]) rfl ?_
    refine j_V.ldL xc04_M xc04_38 rfl (i := 0) (kd := 2) (v := .ref 282) (pcJ := 39) rfl L rfl rfl rfl ?_
    refine j_V.getK xc04_M xc04_39 (ci := 7) (j := 0) rfl K rfl rfl ?_
    refine j_V.getK xc04_M xc04_42 (ci := 2) (j := 17) rfl K rfl rfl ?_
    refine j_V.ldL xc04_M xc04_45 rfl (i := 1) (kd := 0) (v := .int x1) (pcJ := 46) rfl L rfl rfl rfl ?_
    refine j_V.iaA xc04_M xc04_46 K rfl ?_
    refine j_V.one xc04_M xc04_47 (by decide) (pcJ := 48) (stJ := [.int (((gA cm ((x1 * 7) + (gA tto x1))) - (gA sta x1)) - (gA lon x1))]) rfl ?_
    exact j_V.ri xc04_M xc04_48 ⟨congrArg (fun z => some (Value.int z)) (Eq.symm (show (x_delay sta ph cm tto lon x1) = (((gA cm ((x1 * 7) + (gA tto x1))) - (gA sta x1)) - (gA lon x1)) from (if_pos c7_0).trans (rfl))), rfl⟩
  · replace c7_0 : ¬ ((gA ph x1) = 3) := jd_eqn c7_0
    refine j_V.one xc04_M xc04_10 (by decide) (pcJ := 11) (stJ := [.int (-1)]) rfl ?_
    exact j_V.ri xc04_M xc04_11 ⟨congrArg (fun z => some (Value.int z)) (Eq.symm (show (x_delay sta ph cm tto lon x1) = (-1) from (if_neg c7_0).trans (rfl))), rfl⟩
set_option maxRecDepth 100000 in
theorem xc05_M : j_meth jP 64 = some (yX7_greatestDelay, cX7_greatestDelay, 3, (some .int), 0, false, 7) := rfl
set_option maxRecDepth 100000 in
theorem xc05_0 : j_code jP 64 0 = some (.iconst 0) := rfl
set_option maxRecDepth 100000 in
theorem xc05_1 : j_code jP 64 1 = some (.istore_n 1) := rfl
set_option maxRecDepth 100000 in
theorem xc05_2 : j_code jP 64 2 = some (.iconst 0) := rfl
set_option maxRecDepth 100000 in
theorem xc05_3 : j_code jP 64 3 = some (.istore_n 2) := rfl
set_option maxRecDepth 100000 in
theorem xc05_4 : j_code jP 64 4 = some (.iload_n 2) := rfl
set_option maxRecDepth 100000 in
theorem xc05_5 : j_code jP 64 5 = some (.aload_n 0) := rfl
set_option maxRecDepth 100000 in
theorem xc05_6 : j_code jP 64 6 = some (.getfield 64) := rfl
set_option maxRecDepth 100000 in
theorem xc05_9 : j_code jP 64 9 = some (.getfield 102) := rfl
set_option maxRecDepth 100000 in
theorem xc05_12 : j_code jP 64 12 = some (.if_icmp .ge 19) := rfl
set_option maxRecDepth 100000 in
theorem xc05_15 : j_code jP 64 15 = some (.iload_n 1) := rfl
set_option maxRecDepth 100000 in
theorem xc05_16 : j_code jP 64 16 = some (.aload_n 0) := rfl
set_option maxRecDepth 100000 in
theorem xc05_17 : j_code jP 64 17 = some (.iload_n 2) := rfl
set_option maxRecDepth 100000 in
theorem xc05_18 : j_code jP 64 18 = some (.invokevirtual 118) := rfl
set_option maxRecDepth 100000 in
theorem xc05_21 : j_code jP 64 21 = some (.invokestatic 122) := rfl
set_option maxRecDepth 100000 in
theorem xc05_24 : j_code jP 64 24 = some (.istore_n 1) := rfl
set_option maxRecDepth 100000 in
theorem xc05_25 : j_code jP 64 25 = some (.iinc 2 1) := rfl
set_option maxRecDepth 100000 in
theorem xc05_28 : j_code jP 64 28 = some (.goto (-24)) := rfl
set_option maxRecDepth 100000 in
theorem xc05_31 : j_code jP 64 31 = some (.iload_n 1) := rfl
set_option maxRecDepth 100000 in
theorem xc05_32 : j_code jP 64 32 = some (.ireturn) := rfl
set_option maxRecDepth 1000000 in
theorem xc05_ok_l4 {mi : Int32} {shu : Int32} {bus : Int32} {lks : Int32} {sta : List Int32} {ph : List Int32} {cm : List Int32} {ns : Int32} {nt : Int32} {cel : Int32} {tto : List Int32} {lon : List Int32} {d : Nat} {h h0 : J_H} : ∀ (f : Nat) (v2 v1 : Int32) {lv : J_L}, lpN nt v2 = f → LK lv [(0, .ref 282), (1, .int v1), (2, .int v2)] → KN h [(282, .inl (7, [.ref 327, .int mi, .int shu, .int bus, .ref 283, .ref 284, .ref 285, .ref 286, .ref 287, .ref 288, .ref 289, .ref 290, .ref 291, .ref 292, .ref 293, .int lks, .ref 294, .ref 295, .ref 298])), (284, .inr (.inl (0, sta))), (285, .inr (.inl (0, ph))), (292, .inr (.inl (0, cm))), (327, .inl (2, [.int ns, .ref 328, .ref 329, .ref 330, .ref 331, .int nt, .ref 332, .ref 333, .ref 334, .ref 335, .ref 336, .ref 337, .ref 338, .int cel, .ref 339, .ref 340, .ref 341, .ref 342])), (335, .inr (.inl (0, tto))), (342, .inr (.inl (0, lon)))] h0 → j_V jP d 64 4 lv [] h (fun rv h' => rv = some (.int (x_greatestDelay_l4 sta ph cm tto lon f v2 v1)) ∧ h' = h) := by
  intro f
  induction f with
  | zero =>
    intro v2 v1 lv e L K
    refine j_V.ldL xc05_M xc05_4 rfl (i := 2) (kd := 0) (v := .int v2) (pcJ := 5) rfl L rfl rfl rfl ?_
    refine j_V.ldL xc05_M xc05_5 rfl (i := 0) (kd := 2) (v := .ref 282) (pcJ := 6) rfl L rfl rfl rfl ?_
    refine j_V.getK xc05_M xc05_6 (ci := 7) (j := 0) rfl K rfl rfl ?_
    refine j_V.getK xc05_M xc05_9 (ci := 2) (j := 5) rfl K rfl rfl ?_
    refine j_V.icmp xc05_M xc05_12 (t := 31) rfl (fun c12_0 => ?_) (fun c12_0 => ?_)
    · replace c12_0 : ¬ (v2 < nt) := jd_ge c12_0
      refine j_V.ldL xc05_M xc05_31 rfl (i := 1) (kd := 0) (v := .int v1) (pcJ := 32) rfl L rfl rfl rfl ?_
      exact j_V.ri xc05_M xc05_32 ⟨congrArg (fun z => some (Value.int z)) (Eq.symm (show (x_greatestDelay_l4 sta ph cm tto lon 0 v2 v1) = v1 from rfl)), rfl⟩
    · replace c12_0 : v2 < nt := jd_gen c12_0
      exact absurd c12_0 (lpN_z e)
  | succ f ih =>
    intro v2 v1 lv e L K
    refine j_V.ldL xc05_M xc05_4 rfl (i := 2) (kd := 0) (v := .int v2) (pcJ := 5) rfl L rfl rfl rfl ?_
    refine j_V.ldL xc05_M xc05_5 rfl (i := 0) (kd := 2) (v := .ref 282) (pcJ := 6) rfl L rfl rfl rfl ?_
    refine j_V.getK xc05_M xc05_6 (ci := 7) (j := 0) rfl K rfl rfl ?_
    refine j_V.getK xc05_M xc05_9 (ci := 2) (j := 5) rfl K rfl rfl ?_
    refine j_V.icmp xc05_M xc05_12 (t := 31) rfl (fun c12_0 => ?_) (fun c12_0 => ?_)
    · replace c12_0 : ¬ (v2 < nt) := jd_ge c12_0
      exact absurd (lpN_s e) c12_0
    · replace c12_0 : v2 < nt := jd_gen c12_0
      refine j_V.ldL xc05_M xc05_15 rfl (i := 1) (kd := 0) (v := .int v1) (pcJ := 16) rfl L rfl rfl rfl ?_
      refine j_V.ldL xc05_M xc05_16 rfl (i := 0) (kd := 2) (v := .ref 282) (pcJ := 17) rfl L rfl rfl rfl ?_
      refine j_V.ldL xc05_M xc05_17 rfl (i := 2) (kd := 0) (v := .int v2) (pcJ := 18) rfl L rfl rfl rfl ?_
      refine j_V.cl xc05_M xc05_18 rfl (md := 3) (mj := 63) rfl (by decide) xc04_M (As := [.ref 282, .int v2]) (rest := [.int v1]) (jk_spl3 (K.at rfl) rfl rfl rfl (Nat.le_of_ble_eq_true rfl) (Nat.le_of_ble_eq_true rfl)) (fun d => xc04_ok (K.fi [282, 284, 285, 292, 327, 335, 342] rfl rfl)) ?_
      rintro r hz ⟨rfl, ez⟩
      rw [ez]
      clear ez
      show j_V jP _ 64 21 lv [.int (x_delay sta ph cm tto lon v2), .int v1] h _
      refine j_V.mx xc05_M xc05_21 rfl rfl (Nat.le_of_ble_eq_true rfl) ?_
      refine j_V.stL xc05_M xc05_24 rfl (i := 1) (kd := 0) (kl' := [(0, .ref 282), (1, .int (iMx v1 (x_delay sta ph cm tto lon v2))), (2, .int v2)]) (pcJ := 25) rfl L rfl (by decide) rfl rfl rfl (fun lv L => ?_)
      refine j_V.inL xc05_M xc05_25 (i := 2) (kl' := [(0, .ref 282), (1, .int (iMx v1 (x_delay sta ph cm tto lon v2))), (2, .int (v2 + 1))]) (pcJ := 28) L rfl rfl rfl rfl (fun lv L => ?_)
      refine j_V.gto xc05_M xc05_28 (t := 4) rfl ?_
      refine j_V.mono (ih ((v2 + 1)) ((iMx v1 (x_delay sta ph cm tto lon v2))) (lpN_n e) L K) ?_
      rintro r hz ⟨rfl, rfl⟩
      exact ⟨congrArg (fun z => some (Value.int z)) (Eq.symm (show (x_greatestDelay_l4 sta ph cm tto lon (f + 1) v2 v1) = (x_greatestDelay_l4 sta ph cm tto lon f ((v2 + 1)) ((iMx v1 (x_delay sta ph cm tto lon v2)))) from rfl)), rfl⟩
set_option maxRecDepth 1000000 in
theorem xc05_ok {mi : Int32} {shu : Int32} {bus : Int32} {lks : Int32} {sta : List Int32} {ph : List Int32} {cm : List Int32} {ns : Int32} {nt : Int32} {cel : Int32} {tto : List Int32} {lon : List Int32} {d : Nat} {h h0 : J_H} (K : KN h [(282, .inl (7, [.ref 327, .int mi, .int shu, .int bus, .ref 283, .ref 284, .ref 285, .ref 286, .ref 287, .ref 288, .ref 289, .ref 290, .ref 291, .ref 292, .ref 293, .int lks, .ref 294, .ref 295, .ref 298])), (284, .inr (.inl (0, sta))), (285, .inr (.inl (0, ph))), (292, .inr (.inl (0, cm))), (327, .inl (2, [.int ns, .ref 328, .ref 329, .ref 330, .ref 331, .int nt, .ref 332, .ref 333, .ref 334, .ref 335, .ref 336, .ref 337, .ref 338, .int cel, .ref 339, .ref 340, .ref 341, .ref 342])), (335, .inr (.inl (0, tto))), (342, .inr (.inl (0, lon)))] h0) : j_V jP d 64 0 (lv_args 0 [.ref 282]) [] h (fun rv h' => rv = some (.int (x_greatestDelay sta ph cm nt tto lon)) ∧ h' = h) := by
  show j_V jP d 64 0 [(0, .ref 282)] [] h _
  obtain ⟨lv, elv, L⟩ : ∃ lv, lv = [(0, .ref 282)] ∧ LK lv [(0, .ref 282)] := ⟨_, rfl, LK.rf⟩
  rw [← elv]
  clear elv
  refine j_V.one xc05_M xc05_0 (by decide) (pcJ := 1) (stJ := [.int 0]) rfl ?_
  refine j_V.stL xc05_M xc05_1 rfl (i := 1) (kd := 0) (kl' := [(0, .ref 282), (1, .int 0)]) (pcJ := 2) rfl L rfl (by decide) rfl rfl rfl (fun lv L => ?_)
  refine j_V.one xc05_M xc05_2 (by decide) (pcJ := 3) (stJ := [.int 0]) rfl ?_
  refine j_V.stL xc05_M xc05_3 rfl (i := 2) (kd := 0) (kl' := [(0, .ref 282), (1, .int 0), (2, .int 0)]) (pcJ := 4) rfl L rfl (by decide) rfl rfl rfl (fun lv L => ?_)
  refine j_V.mono (xc05_ok_l4 _ (0) (0) rfl L K) ?_
  rintro r hz ⟨rfl, rfl⟩
  exact ⟨congrArg (fun z => some (Value.int z)) (Eq.symm (show (x_greatestDelay sta ph cm nt tto lon) = (x_greatestDelay_l4 sta ph cm tto lon (lpN nt 0) 0 0) from rfl)), rfl⟩
set_option maxRecDepth 100000 in
theorem xc06_M : j_meth jP 65 = some (yX7_price, cX7_price, 4, (some .int), 1, false, 7) := rfl
set_option maxRecDepth 100000 in
theorem xc06_0 : j_code jP 65 0 = some (.iconst 0) := rfl
set_option maxRecDepth 100000 in
theorem xc06_1 : j_code jP 65 1 = some (.istore_n 2) := rfl
set_option maxRecDepth 100000 in
theorem xc06_2 : j_code jP 65 2 = some (.iconst 0) := rfl
set_option maxRecDepth 100000 in
theorem xc06_3 : j_code jP 65 3 = some (.istore_n 3) := rfl
set_option maxRecDepth 100000 in
theorem xc06_4 : j_code jP 65 4 = some (.iload_n 3) := rfl
set_option maxRecDepth 100000 in
theorem xc06_5 : j_code jP 65 5 = some (.aload_n 0) := rfl
set_option maxRecDepth 100000 in
theorem xc06_6 : j_code jP 65 6 = some (.getfield 64) := rfl
set_option maxRecDepth 100000 in
theorem xc06_9 : j_code jP 65 9 = some (.getfield 102) := rfl
set_option maxRecDepth 100000 in
theorem xc06_12 : j_code jP 65 12 = some (.if_icmp .ge 48) := rfl
set_option maxRecDepth 100000 in
theorem xc06_15 : j_code jP 65 15 = some (.iload_n 3) := rfl
set_option maxRecDepth 100000 in
theorem xc06_16 : j_code jP 65 16 = some (.iload_n 1) := rfl
set_option maxRecDepth 100000 in
theorem xc06_17 : j_code jP 65 17 = some (.if_icmp .eq 37) := rfl
set_option maxRecDepth 100000 in
theorem xc06_20 : j_code jP 65 20 = some (.iload_n 2) := rfl
set_option maxRecDepth 100000 in
theorem xc06_21 : j_code jP 65 21 = some (.aload_n 0) := rfl
set_option maxRecDepth 100000 in
theorem xc06_22 : j_code jP 65 22 = some (.getfield 64) := rfl
set_option maxRecDepth 100000 in
theorem xc06_25 : j_code jP 65 25 = some (.getfield 105) := rfl
set_option maxRecDepth 100000 in
theorem xc06_28 : j_code jP 65 28 = some (.iload_n 3) := rfl
set_option maxRecDepth 100000 in
theorem xc06_29 : j_code jP 65 29 = some (.iaload) := rfl
set_option maxRecDepth 100000 in
theorem xc06_30 : j_code jP 65 30 = some (.aload_n 0) := rfl
set_option maxRecDepth 100000 in
theorem xc06_31 : j_code jP 65 31 = some (.getfield 18) := rfl
set_option maxRecDepth 100000 in
theorem xc06_34 : j_code jP 65 34 = some (.iload_n 3) := rfl
set_option maxRecDepth 100000 in
theorem xc06_35 : j_code jP 65 35 = some (.iaload) := rfl
set_option maxRecDepth 100000 in
theorem xc06_36 : j_code jP 65 36 = some (.iconst 3) := rfl
set_option maxRecDepth 100000 in
theorem xc06_37 : j_code jP 65 37 = some (.if_icmp .ne 11) := rfl
set_option maxRecDepth 100000 in
theorem xc06_40 : j_code jP 65 40 = some (.aload_n 0) := rfl
set_option maxRecDepth 100000 in
theorem xc06_41 : j_code jP 65 41 = some (.iload_n 3) := rfl
set_option maxRecDepth 100000 in
theorem xc06_42 : j_code jP 65 42 = some (.invokevirtual 118) := rfl
set_option maxRecDepth 100000 in
theorem xc06_45 : j_code jP 65 45 = some (.goto 6) := rfl
set_option maxRecDepth 100000 in
theorem xc06_48 : j_code jP 65 48 = some (.sipush 1000) := rfl
set_option maxRecDepth 100000 in
theorem xc06_51 : j_code jP 65 51 = some (.imul) := rfl
set_option maxRecDepth 100000 in
theorem xc06_52 : j_code jP 65 52 = some (.iadd) := rfl
set_option maxRecDepth 100000 in
theorem xc06_53 : j_code jP 65 53 = some (.istore_n 2) := rfl
set_option maxRecDepth 100000 in
theorem xc06_54 : j_code jP 65 54 = some (.iinc 3 1) := rfl
set_option maxRecDepth 100000 in
theorem xc06_57 : j_code jP 65 57 = some (.goto (-53)) := rfl
set_option maxRecDepth 100000 in
theorem xc06_60 : j_code jP 65 60 = some (.iload_n 2) := rfl
set_option maxRecDepth 100000 in
theorem xc06_61 : j_code jP 65 61 = some (.ireturn) := rfl
set_option maxRecDepth 1000000 in
theorem xc06_ok_l4 {mi : Int32} {shu : Int32} {bus : Int32} {lks : Int32} {sta : List Int32} {ph : List Int32} {cm : List Int32} {ns : Int32} {nt : Int32} {cel : Int32} {tto : List Int32} {wei : List Int32} {lon : List Int32} {v1 : Int32} {d : Nat} {h h0 : J_H} : ∀ (f : Nat) (v3 v2 : Int32) {lv : J_L}, lpN nt v3 = f → LK lv [(0, .ref 282), (1, .int v1), (2, .int v2), (3, .int v3)] → KN h [(282, .inl (7, [.ref 327, .int mi, .int shu, .int bus, .ref 283, .ref 284, .ref 285, .ref 286, .ref 287, .ref 288, .ref 289, .ref 290, .ref 291, .ref 292, .ref 293, .int lks, .ref 294, .ref 295, .ref 298])), (284, .inr (.inl (0, sta))), (285, .inr (.inl (0, ph))), (292, .inr (.inl (0, cm))), (327, .inl (2, [.int ns, .ref 328, .ref 329, .ref 330, .ref 331, .int nt, .ref 332, .ref 333, .ref 334, .ref 335, .ref 336, .ref 337, .ref 338, .int cel, .ref 339, .ref 340, .ref 341, .ref 342])), (335, .inr (.inl (0, tto))), (338, .inr (.inl (0, wei))), (342, .inr (.inl (0, lon)))] h0 → j_V jP d 65 4 lv [] h (fun rv h' => rv = some (.int (x_price_l4 sta ph cm tto wei lon v1 f v3 v2)) ∧ h' = h) := by
  intro f
  induction f with
  | zero =>
    intro v3 v2 lv e L K
    refine j_V.ldL xc06_M xc06_4 rfl (i := 3) (kd := 0) (v := .int v3) (pcJ := 5) rfl L rfl rfl rfl ?_
    refine j_V.ldL xc06_M xc06_5 rfl (i := 0) (kd := 2) (v := .ref 282) (pcJ := 6) rfl L rfl rfl rfl ?_
    refine j_V.getK xc06_M xc06_6 (ci := 7) (j := 0) rfl K rfl rfl ?_
    refine j_V.getK xc06_M xc06_9 (ci := 2) (j := 5) rfl K rfl rfl ?_
    refine j_V.icmp xc06_M xc06_12 (t := 60) rfl (fun c12_0 => ?_) (fun c12_0 => ?_)
    · replace c12_0 : ¬ (v3 < nt) := jd_ge c12_0
      refine j_V.ldL xc06_M xc06_60 rfl (i := 2) (kd := 0) (v := .int v2) (pcJ := 61) rfl L rfl rfl rfl ?_
      exact j_V.ri xc06_M xc06_61 ⟨congrArg (fun z => some (Value.int z)) (Eq.symm (show (x_price_l4 sta ph cm tto wei lon v1 0 v3 v2) = v2 from rfl)), rfl⟩
    · replace c12_0 : v3 < nt := jd_gen c12_0
      exact absurd c12_0 (lpN_z e)
  | succ f ih =>
    intro v3 v2 lv e L K
    refine j_V.ldL xc06_M xc06_4 rfl (i := 3) (kd := 0) (v := .int v3) (pcJ := 5) rfl L rfl rfl rfl ?_
    refine j_V.ldL xc06_M xc06_5 rfl (i := 0) (kd := 2) (v := .ref 282) (pcJ := 6) rfl L rfl rfl rfl ?_
    refine j_V.getK xc06_M xc06_6 (ci := 7) (j := 0) rfl K rfl rfl ?_
    refine j_V.getK xc06_M xc06_9 (ci := 2) (j := 5) rfl K rfl rfl ?_
    refine j_V.icmp xc06_M xc06_12 (t := 60) rfl (fun c12_0 => ?_) (fun c12_0 => ?_)
    · replace c12_0 : ¬ (v3 < nt) := jd_ge c12_0
      exact absurd (lpN_s e) c12_0
    · replace c12_0 : v3 < nt := jd_gen c12_0
      refine j_V.ldL xc06_M xc06_15 rfl (i := 3) (kd := 0) (v := .int v3) (pcJ := 16) rfl L rfl rfl rfl ?_
      refine j_V.ldL xc06_M xc06_16 rfl (i := 1) (kd := 0) (v := .int v1) (pcJ := 17) rfl L rfl rfl rfl ?_
      refine j_V.cut (b := 54) (stJ := []) (fun v => [(0, .ref 282), (1, .int v1), (2, .int v), (3, .int v3)]) ((if v3 = v1 then v2 else (v2 + ((gA wei v3) * ((if (gA ph v3) = 3 then (x_delay sta ph cm tto lon v3) else 1000) : Int32)))) : Int32) (fun Q kk => ?_) (fun lv L => ?_)
      · refine j_V.icmp xc06_M xc06_17 (t := 54) rfl (fun c17_0 => ?_) (fun c17_0 => ?_)
        · replace c17_0 : v3 = v1 := jd_eq c17_0
          exact kk _ (Eq.subst (motive := fun z => LK _ ((fun v => [(0, .ref 282), (1, .int v1), (2, .int v), (3, .int v3)]) z)) (show v2 = ((if v3 = v1 then v2 else (v2 + ((gA wei v3) * ((if (gA ph v3) = 3 then (x_delay sta ph cm tto lon v3) else 1000) : Int32)))) : Int32) from Eq.symm ((if_pos c17_0).trans (rfl))) L)
        · replace c17_0 : ¬ (v3 = v1) := jd_eqn c17_0
          refine j_V.ldL xc06_M xc06_20 rfl (i := 2) (kd := 0) (v := .int v2) (pcJ := 21) rfl L rfl rfl rfl ?_
          refine j_V.ldL xc06_M xc06_21 rfl (i := 0) (kd := 2) (v := .ref 282) (pcJ := 22) rfl L rfl rfl rfl ?_
          refine j_V.getK xc06_M xc06_22 (ci := 7) (j := 0) rfl K rfl rfl ?_
          refine j_V.getK xc06_M xc06_25 (ci := 2) (j := 12) rfl K rfl rfl ?_
          refine j_V.ldL xc06_M xc06_28 rfl (i := 3) (kd := 0) (v := .int v3) (pcJ := 29) rfl L rfl rfl rfl ?_
          refine j_V.iaA xc06_M xc06_29 K rfl ?_
          refine j_V.ldL xc06_M xc06_30 rfl (i := 0) (kd := 2) (v := .ref 282) (pcJ := 31) rfl L rfl rfl rfl ?_
          refine j_V.getK xc06_M xc06_31 (ci := 7) (j := 6) rfl K rfl rfl ?_
          refine j_V.ldL xc06_M xc06_34 rfl (i := 3) (kd := 0) (v := .int v3) (pcJ := 35) rfl L rfl rfl rfl ?_
          refine j_V.iaA xc06_M xc06_35 K rfl ?_
          refine j_V.one xc06_M xc06_36 (by decide) (pcJ := 37) (stJ := [.int 3, .int (gA ph v3), .int (gA wei v3), .int v2]) rfl ?_
          refine j_V.cut (b := 51) (stJ := [.int ((if (gA ph v3) = 3 then (x_delay sta ph cm tto lon v3) else 1000) : Int32), .int (gA wei v3), .int v2]) (fun v => [(0, .ref 282), (1, .int v1), (2, .int v2), (3, .int v3)]) ((if (gA ph v3) = 3 then (x_delay sta ph cm tto lon v3) else 1000) : Int32) (fun Q kk => ?_) (fun lv L => ?_)
          · refine j_V.icmp xc06_M xc06_37 (t := 48) rfl (fun c37_0 => ?_) (fun c37_0 => ?_)
            · replace c37_0 : ¬ ((gA ph v3) = 3) := jd_ne c37_0
              refine j_V.one xc06_M xc06_48 (by decide) (pcJ := 51) (stJ := [.int 1000, .int (gA wei v3), .int v2]) rfl ?_
              exact Eq.subst (motive := fun z => j_V jP _ 65 51 _ (.int z :: [.int (gA wei v3), .int v2]) h Q) (show ((if (gA ph v3) = 3 then (x_delay sta ph cm tto lon v3) else 1000) : Int32) = 1000 from (if_neg c37_0).trans (rfl)) (kk _ L)
            · replace c37_0 : (gA ph v3) = 3 := jd_nen c37_0
              refine j_V.ldL xc06_M xc06_40 rfl (i := 0) (kd := 2) (v := .ref 282) (pcJ := 41) rfl L rfl rfl rfl ?_
              refine j_V.ldL xc06_M xc06_41 rfl (i := 3) (kd := 0) (v := .int v3) (pcJ := 42) rfl L rfl rfl rfl ?_
              refine j_V.cl xc06_M xc06_42 rfl (md := 3) (mj := 63) rfl (by decide) xc04_M (As := [.ref 282, .int v3]) (rest := [.int (gA wei v3), .int v2]) (jk_spl3 (K.at rfl) rfl rfl rfl (Nat.le_of_ble_eq_true rfl) (Nat.le_of_ble_eq_true rfl)) (fun d => xc04_ok (K.fi [282, 284, 285, 292, 327, 335, 342] rfl rfl)) ?_
              rintro r hz ⟨rfl, ez⟩
              rw [ez]
              clear ez
              show j_V jP _ 65 45 lv [.int (x_delay sta ph cm tto lon v3), .int (gA wei v3), .int v2] h _
              refine j_V.gto xc06_M xc06_45 (t := 51) rfl ?_
              exact Eq.subst (motive := fun z => j_V jP _ 65 51 _ (.int z :: [.int (gA wei v3), .int v2]) h Q) (show ((if (gA ph v3) = 3 then (x_delay sta ph cm tto lon v3) else 1000) : Int32) = (x_delay sta ph cm tto lon v3) from (if_pos c37_0).trans (rfl)) (kk _ L)
          refine j_V.one xc06_M xc06_51 (by decide) (pcJ := 52) (stJ := [.int ((gA wei v3) * ((if (gA ph v3) = 3 then (x_delay sta ph cm tto lon v3) else 1000) : Int32)), .int v2]) rfl ?_
          refine j_V.one xc06_M xc06_52 (by decide) (pcJ := 53) (stJ := [.int (v2 + ((gA wei v3) * ((if (gA ph v3) = 3 then (x_delay sta ph cm tto lon v3) else 1000) : Int32)))]) rfl ?_
          refine j_V.stL xc06_M xc06_53 rfl (i := 2) (kd := 0) (kl' := [(0, .ref 282), (1, .int v1), (2, .int (v2 + ((gA wei v3) * ((if (gA ph v3) = 3 then (x_delay sta ph cm tto lon v3) else 1000) : Int32)))), (3, .int v3)]) (pcJ := 54) rfl L rfl (by decide) rfl rfl rfl (fun lv L => ?_)
          exact kk _ (Eq.subst (motive := fun z => LK _ ((fun v => [(0, .ref 282), (1, .int v1), (2, .int v), (3, .int v3)]) z)) (show (v2 + ((gA wei v3) * ((if (gA ph v3) = 3 then (x_delay sta ph cm tto lon v3) else 1000) : Int32))) = ((if v3 = v1 then v2 else (v2 + ((gA wei v3) * ((if (gA ph v3) = 3 then (x_delay sta ph cm tto lon v3) else 1000) : Int32)))) : Int32) from Eq.symm ((if_neg c17_0).trans (rfl))) L)
      refine j_V.inL xc06_M xc06_54 (i := 3) (kl' := [(0, .ref 282), (1, .int v1), (2, .int ((if v3 = v1 then v2 else (v2 + ((gA wei v3) * ((if (gA ph v3) = 3 then (x_delay sta ph cm tto lon v3) else 1000) : Int32)))) : Int32)), (3, .int (v3 + 1))]) (pcJ := 57) L rfl rfl rfl rfl (fun lv L => ?_)
      refine j_V.gto xc06_M xc06_57 (t := 4) rfl ?_
      refine j_V.mono (ih ((v3 + 1)) (((if v3 = v1 then v2 else (v2 + ((gA wei v3) * ((if (gA ph v3) = 3 then (x_delay sta ph cm tto lon v3) else 1000) : Int32)))) : Int32)) (lpN_n e) L K) ?_
      rintro r hz ⟨rfl, rfl⟩
      exact ⟨congrArg (fun z => some (Value.int z)) (Eq.symm (show (x_price_l4 sta ph cm tto wei lon v1 (f + 1) v3 v2) = (x_price_l4 sta ph cm tto wei lon v1 f ((v3 + 1)) (((if v3 = v1 then v2 else (v2 + ((gA wei v3) * ((if (gA ph v3) = 3 then (x_delay sta ph cm tto lon v3) else 1000) : Int32)))) : Int32))) from rfl)), rfl⟩
set_option maxRecDepth 1000000 in
theorem xc06_ok {mi : Int32} {shu : Int32} {bus : Int32} {lks : Int32} {sta : List Int32} {ph : List Int32} {cm : List Int32} {ns : Int32} {nt : Int32} {cel : Int32} {tto : List Int32} {wei : List Int32} {lon : List Int32} {x1 : Int32} {d : Nat} {h h0 : J_H} (K : KN h [(282, .inl (7, [.ref 327, .int mi, .int shu, .int bus, .ref 283, .ref 284, .ref 285, .ref 286, .ref 287, .ref 288, .ref 289, .ref 290, .ref 291, .ref 292, .ref 293, .int lks, .ref 294, .ref 295, .ref 298])), (284, .inr (.inl (0, sta))), (285, .inr (.inl (0, ph))), (292, .inr (.inl (0, cm))), (327, .inl (2, [.int ns, .ref 328, .ref 329, .ref 330, .ref 331, .int nt, .ref 332, .ref 333, .ref 334, .ref 335, .ref 336, .ref 337, .ref 338, .int cel, .ref 339, .ref 340, .ref 341, .ref 342])), (335, .inr (.inl (0, tto))), (338, .inr (.inl (0, wei))), (342, .inr (.inl (0, lon)))] h0) : j_V jP d 65 0 (lv_args 0 [.ref 282, .int x1]) [] h (fun rv h' => rv = some (.int (x_price sta ph cm nt tto wei lon x1)) ∧ h' = h) := by
  show j_V jP d 65 0 [(0, .ref 282), (1, .int x1)] [] h _
  obtain ⟨lv, elv, L⟩ : ∃ lv, lv = [(0, .ref 282), (1, .int x1)] ∧ LK lv [(0, .ref 282), (1, .int x1)] := ⟨_, rfl, LK.rf⟩
  rw [← elv]
  clear elv
  refine j_V.one xc06_M xc06_0 (by decide) (pcJ := 1) (stJ := [.int 0]) rfl ?_
  refine j_V.stL xc06_M xc06_1 rfl (i := 2) (kd := 0) (kl' := [(0, .ref 282), (1, .int x1), (2, .int 0)]) (pcJ := 2) rfl L rfl (by decide) rfl rfl rfl (fun lv L => ?_)
  refine j_V.one xc06_M xc06_2 (by decide) (pcJ := 3) (stJ := [.int 0]) rfl ?_
  refine j_V.stL xc06_M xc06_3 rfl (i := 3) (kd := 0) (kl' := [(0, .ref 282), (1, .int x1), (2, .int 0), (3, .int 0)]) (pcJ := 4) rfl L rfl (by decide) rfl rfl rfl (fun lv L => ?_)
  refine j_V.mono (xc06_ok_l4 _ (0) (0) rfl L K) ?_
  rintro r hz ⟨rfl, rfl⟩
  exact ⟨congrArg (fun z => some (Value.int z)) (Eq.symm (show (x_price sta ph cm nt tto wei lon x1) = (x_price_l4 sta ph cm tto wei lon x1 (lpN nt 0) 0 0) from rfl)), rfl⟩
set_option maxRecDepth 100000 in
theorem xc07_M : j_meth jP 66 = some (yX7_allUse, cX7_allUse, 3, (some .int), 0, false, 7) := rfl
set_option maxRecDepth 100000 in
theorem xc07_0 : j_code jP 66 0 = some (.iconst 0) := rfl
set_option maxRecDepth 100000 in
theorem xc07_1 : j_code jP 66 1 = some (.istore_n 1) := rfl
set_option maxRecDepth 100000 in
theorem xc07_2 : j_code jP 66 2 = some (.iconst 0) := rfl
set_option maxRecDepth 100000 in
theorem xc07_3 : j_code jP 66 3 = some (.istore_n 2) := rfl
set_option maxRecDepth 100000 in
theorem xc07_4 : j_code jP 66 4 = some (.iload_n 2) := rfl
set_option maxRecDepth 100000 in
theorem xc07_5 : j_code jP 66 5 = some (.bipush 6) := rfl
set_option maxRecDepth 100000 in
theorem xc07_7 : j_code jP 66 7 = some (.if_icmp .ge 18) := rfl
set_option maxRecDepth 100000 in
theorem xc07_10 : j_code jP 66 10 = some (.iload_n 1) := rfl
set_option maxRecDepth 100000 in
theorem xc07_11 : j_code jP 66 11 = some (.aload_n 0) := rfl
set_option maxRecDepth 100000 in
theorem xc07_12 : j_code jP 66 12 = some (.getfield 36) := rfl
set_option maxRecDepth 100000 in
theorem xc07_15 : j_code jP 66 15 = some (.iload_n 2) := rfl
set_option maxRecDepth 100000 in
theorem xc07_16 : j_code jP 66 16 = some (.iaload) := rfl
set_option maxRecDepth 100000 in
theorem xc07_17 : j_code jP 66 17 = some (.iadd) := rfl
set_option maxRecDepth 100000 in
theorem xc07_18 : j_code jP 66 18 = some (.istore_n 1) := rfl
set_option maxRecDepth 100000 in
theorem xc07_19 : j_code jP 66 19 = some (.iinc 2 1) := rfl
set_option maxRecDepth 100000 in
theorem xc07_22 : j_code jP 66 22 = some (.goto (-18)) := rfl
set_option maxRecDepth 100000 in
theorem xc07_25 : j_code jP 66 25 = some (.iload_n 1) := rfl
set_option maxRecDepth 100000 in
theorem xc07_26 : j_code jP 66 26 = some (.ireturn) := rfl
set_option maxRecDepth 1000000 in
theorem xc07_ok_l4 {mi : Int32} {shu : Int32} {bus : Int32} {lks : Int32} {us : List Int32} {d : Nat} {h h0 : J_H} : ∀ (f : Nat) (v2 v1 : Int32) {lv : J_L}, lpN 6 v2 = f → LK lv [(0, .ref 282), (1, .int v1), (2, .int v2)] → KN h [(282, .inl (7, [.ref 327, .int mi, .int shu, .int bus, .ref 283, .ref 284, .ref 285, .ref 286, .ref 287, .ref 288, .ref 289, .ref 290, .ref 291, .ref 292, .ref 293, .int lks, .ref 294, .ref 295, .ref 298])), (291, .inr (.inl (0, us)))] h0 → j_V jP d 66 4 lv [] h (fun rv h' => rv = some (.int (x_allUse_l4 us f v2 v1)) ∧ h' = h) := by
  intro f
  induction f with
  | zero =>
    intro v2 v1 lv e L K
    refine j_V.ldL xc07_M xc07_4 rfl (i := 2) (kd := 0) (v := .int v2) (pcJ := 5) rfl L rfl rfl rfl ?_
    refine j_V.one xc07_M xc07_5 (by decide) (pcJ := 7) (stJ := [.int 6, .int v2]) rfl ?_
    refine j_V.icmp xc07_M xc07_7 (t := 25) rfl (fun c7_0 => ?_) (fun c7_0 => ?_)
    · replace c7_0 : ¬ (v2 < 6) := jd_ge c7_0
      refine j_V.ldL xc07_M xc07_25 rfl (i := 1) (kd := 0) (v := .int v1) (pcJ := 26) rfl L rfl rfl rfl ?_
      exact j_V.ri xc07_M xc07_26 ⟨congrArg (fun z => some (Value.int z)) (Eq.symm (show (x_allUse_l4 us 0 v2 v1) = v1 from rfl)), rfl⟩
    · replace c7_0 : v2 < 6 := jd_gen c7_0
      exact absurd c7_0 (lpN_z e)
  | succ f ih =>
    intro v2 v1 lv e L K
    refine j_V.ldL xc07_M xc07_4 rfl (i := 2) (kd := 0) (v := .int v2) (pcJ := 5) rfl L rfl rfl rfl ?_
    refine j_V.one xc07_M xc07_5 (by decide) (pcJ := 7) (stJ := [.int 6, .int v2]) rfl ?_
    refine j_V.icmp xc07_M xc07_7 (t := 25) rfl (fun c7_0 => ?_) (fun c7_0 => ?_)
    · replace c7_0 : ¬ (v2 < 6) := jd_ge c7_0
      exact absurd (lpN_s e) c7_0
    · replace c7_0 : v2 < 6 := jd_gen c7_0
      refine j_V.ldL xc07_M xc07_10 rfl (i := 1) (kd := 0) (v := .int v1) (pcJ := 11) rfl L rfl rfl rfl ?_
      refine j_V.ldL xc07_M xc07_11 rfl (i := 0) (kd := 2) (v := .ref 282) (pcJ := 12) rfl L rfl rfl rfl ?_
      refine j_V.getK xc07_M xc07_12 (ci := 7) (j := 12) rfl K rfl rfl ?_
      refine j_V.ldL xc07_M xc07_15 rfl (i := 2) (kd := 0) (v := .int v2) (pcJ := 16) rfl L rfl rfl rfl ?_
      refine j_V.iaA xc07_M xc07_16 K rfl ?_
      refine j_V.one xc07_M xc07_17 (by decide) (pcJ := 18) (stJ := [.int (v1 + (gA us v2))]) rfl ?_
      refine j_V.stL xc07_M xc07_18 rfl (i := 1) (kd := 0) (kl' := [(0, .ref 282), (1, .int (v1 + (gA us v2))), (2, .int v2)]) (pcJ := 19) rfl L rfl (by decide) rfl rfl rfl (fun lv L => ?_)
      refine j_V.inL xc07_M xc07_19 (i := 2) (kl' := [(0, .ref 282), (1, .int (v1 + (gA us v2))), (2, .int (v2 + 1))]) (pcJ := 22) L rfl rfl rfl rfl (fun lv L => ?_)
      refine j_V.gto xc07_M xc07_22 (t := 4) rfl ?_
      refine j_V.mono (ih ((v2 + 1)) ((v1 + (gA us v2))) (lpN_n e) L K) ?_
      rintro r hz ⟨rfl, rfl⟩
      exact ⟨congrArg (fun z => some (Value.int z)) (Eq.symm (show (x_allUse_l4 us (f + 1) v2 v1) = (x_allUse_l4 us f ((v2 + 1)) ((v1 + (gA us v2)))) from rfl)), rfl⟩
set_option maxRecDepth 1000000 in
theorem xc07_ok {mi : Int32} {shu : Int32} {bus : Int32} {lks : Int32} {us : List Int32} {d : Nat} {h h0 : J_H} (K : KN h [(282, .inl (7, [.ref 327, .int mi, .int shu, .int bus, .ref 283, .ref 284, .ref 285, .ref 286, .ref 287, .ref 288, .ref 289, .ref 290, .ref 291, .ref 292, .ref 293, .int lks, .ref 294, .ref 295, .ref 298])), (291, .inr (.inl (0, us)))] h0) : j_V jP d 66 0 (lv_args 0 [.ref 282]) [] h (fun rv h' => rv = some (.int (x_allUse us)) ∧ h' = h) := by
  show j_V jP d 66 0 [(0, .ref 282)] [] h _
  obtain ⟨lv, elv, L⟩ : ∃ lv, lv = [(0, .ref 282)] ∧ LK lv [(0, .ref 282)] := ⟨_, rfl, LK.rf⟩
  rw [← elv]
  clear elv
  refine j_V.one xc07_M xc07_0 (by decide) (pcJ := 1) (stJ := [.int 0]) rfl ?_
  refine j_V.stL xc07_M xc07_1 rfl (i := 1) (kd := 0) (kl' := [(0, .ref 282), (1, .int 0)]) (pcJ := 2) rfl L rfl (by decide) rfl rfl rfl (fun lv L => ?_)
  refine j_V.one xc07_M xc07_2 (by decide) (pcJ := 3) (stJ := [.int 0]) rfl ?_
  refine j_V.stL xc07_M xc07_3 rfl (i := 2) (kd := 0) (kl' := [(0, .ref 282), (1, .int 0), (2, .int 0)]) (pcJ := 4) rfl L rfl (by decide) rfl rfl rfl (fun lv L => ?_)
  refine j_V.mono (xc07_ok_l4 _ (0) (0) rfl L K) ?_
  rintro r hz ⟨rfl, rfl⟩
  exact ⟨congrArg (fun z => some (Value.int z)) (Eq.symm (show (x_allUse us) = (x_allUse_l4 us (lpN 6 0) 0 0) from rfl)), rfl⟩
set_option maxRecDepth 100000 in
theorem xc08_M : j_meth jP 67 = some (yX7_freeCells, cX7_freeCells, 1, (some .int), 0, false, 7) := rfl
set_option maxRecDepth 100000 in
theorem xc08_0 : j_code jP 67 0 = some (.aload_n 0) := rfl
set_option maxRecDepth 100000 in
theorem xc08_1 : j_code jP 67 1 = some (.getfield 64) := rfl
set_option maxRecDepth 100000 in
theorem xc08_4 : j_code jP 67 4 = some (.getfield 128) := rfl
set_option maxRecDepth 100000 in
theorem xc08_7 : j_code jP 67 7 = some (.aload_n 0) := rfl
set_option maxRecDepth 100000 in
theorem xc08_8 : j_code jP 67 8 = some (.getfield 75) := rfl
set_option maxRecDepth 100000 in
theorem xc08_11 : j_code jP 67 11 = some (.iconst (-1)) := rfl
set_option maxRecDepth 100000 in
theorem xc08_12 : j_code jP 67 12 = some (.ixor) := rfl
set_option maxRecDepth 100000 in
theorem xc08_13 : j_code jP 67 13 = some (.iand) := rfl
set_option maxRecDepth 100000 in
theorem xc08_14 : j_code jP 67 14 = some (.aload_n 0) := rfl
set_option maxRecDepth 100000 in
theorem xc08_15 : j_code jP 67 15 = some (.getfield 72) := rfl
set_option maxRecDepth 100000 in
theorem xc08_18 : j_code jP 67 18 = some (.iconst (-1)) := rfl
set_option maxRecDepth 100000 in
theorem xc08_19 : j_code jP 67 19 = some (.ixor) := rfl
set_option maxRecDepth 100000 in
theorem xc08_20 : j_code jP 67 20 = some (.iand) := rfl
set_option maxRecDepth 100000 in
theorem xc08_21 : j_code jP 67 21 = some (.ireturn) := rfl
set_option maxRecDepth 1000000 in
theorem xc08_ok {mi : Int32} {shu : Int32} {bus : Int32} {lks : Int32} {ns : Int32} {nt : Int32} {cel : Int32} {d : Nat} {h h0 : J_H} (K : KN h [(282, .inl (7, [.ref 327, .int mi, .int shu, .int bus, .ref 283, .ref 284, .ref 285, .ref 286, .ref 287, .ref 288, .ref 289, .ref 290, .ref 291, .ref 292, .ref 293, .int lks, .ref 294, .ref 295, .ref 298])), (327, .inl (2, [.int ns, .ref 328, .ref 329, .ref 330, .ref 331, .int nt, .ref 332, .ref 333, .ref 334, .ref 335, .ref 336, .ref 337, .ref 338, .int cel, .ref 339, .ref 340, .ref 341, .ref 342]))] h0) : j_V jP d 67 0 (lv_args 0 [.ref 282]) [] h (fun rv h' => rv = some (.int (x_freeCells shu bus cel)) ∧ h' = h) := by
  show j_V jP d 67 0 [(0, .ref 282)] [] h _
  obtain ⟨lv, elv, L⟩ : ∃ lv, lv = [(0, .ref 282)] ∧ LK lv [(0, .ref 282)] := ⟨_, rfl, LK.rf⟩
  rw [← elv]
  clear elv
  refine j_V.ldL xc08_M xc08_0 rfl (i := 0) (kd := 2) (v := .ref 282) (pcJ := 1) rfl L rfl rfl rfl ?_
  refine j_V.getK xc08_M xc08_1 (ci := 7) (j := 0) rfl K rfl rfl ?_
  refine j_V.getK xc08_M xc08_4 (ci := 2) (j := 13) rfl K rfl rfl ?_
  refine j_V.ldL xc08_M xc08_7 rfl (i := 0) (kd := 2) (v := .ref 282) (pcJ := 8) rfl L rfl rfl rfl ?_
  refine j_V.getK xc08_M xc08_8 (ci := 7) (j := 3) rfl K rfl rfl ?_
  refine j_V.one xc08_M xc08_11 (by decide) (pcJ := 12) (stJ := [.int (-1), .int bus, .int cel]) rfl ?_
  refine j_V.one xc08_M xc08_12 (by decide) (pcJ := 13) (stJ := [.int (bus ^^^ (-1)), .int cel]) rfl ?_
  refine j_V.one xc08_M xc08_13 (by decide) (pcJ := 14) (stJ := [.int (cel &&& (bus ^^^ (-1)))]) rfl ?_
  refine j_V.ldL xc08_M xc08_14 rfl (i := 0) (kd := 2) (v := .ref 282) (pcJ := 15) rfl L rfl rfl rfl ?_
  refine j_V.getK xc08_M xc08_15 (ci := 7) (j := 2) rfl K rfl rfl ?_
  refine j_V.one xc08_M xc08_18 (by decide) (pcJ := 19) (stJ := [.int (-1), .int shu, .int (cel &&& (bus ^^^ (-1)))]) rfl ?_
  refine j_V.one xc08_M xc08_19 (by decide) (pcJ := 20) (stJ := [.int (shu ^^^ (-1)), .int (cel &&& (bus ^^^ (-1)))]) rfl ?_
  refine j_V.one xc08_M xc08_20 (by decide) (pcJ := 21) (stJ := [.int ((cel &&& (bus ^^^ (-1))) &&& (shu ^^^ (-1)))]) rfl ?_
  exact j_V.ri xc08_M xc08_21 ⟨congrArg (fun z => some (Value.int z)) (Eq.symm (show (x_freeCells shu bus cel) = ((cel &&& (bus ^^^ (-1))) &&& (shu ^^^ (-1))) from rfl)), rfl⟩
set_option maxRecDepth 100000 in
theorem xc09_M : j_meth jP 68 = some (yX7_trainsIn, cX7_trainsIn, 4, (some .int), 1, false, 7) := rfl
set_option maxRecDepth 100000 in
theorem xc09_0 : j_code jP 68 0 = some (.iconst 0) := rfl
set_option maxRecDepth 100000 in
theorem xc09_1 : j_code jP 68 1 = some (.istore_n 2) := rfl
set_option maxRecDepth 100000 in
theorem xc09_2 : j_code jP 68 2 = some (.iconst 0) := rfl
set_option maxRecDepth 100000 in
theorem xc09_3 : j_code jP 68 3 = some (.istore_n 3) := rfl
set_option maxRecDepth 100000 in
theorem xc09_4 : j_code jP 68 4 = some (.iload_n 3) := rfl
set_option maxRecDepth 100000 in
theorem xc09_5 : j_code jP 68 5 = some (.aload_n 0) := rfl
set_option maxRecDepth 100000 in
theorem xc09_6 : j_code jP 68 6 = some (.getfield 64) := rfl
set_option maxRecDepth 100000 in
theorem xc09_9 : j_code jP 68 9 = some (.getfield 102) := rfl
set_option maxRecDepth 100000 in
theorem xc09_12 : j_code jP 68 12 = some (.if_icmp .ge 35) := rfl
set_option maxRecDepth 100000 in
theorem xc09_15 : j_code jP 68 15 = some (.aload_n 0) := rfl
set_option maxRecDepth 100000 in
theorem xc09_16 : j_code jP 68 16 = some (.getfield 18) := rfl
set_option maxRecDepth 100000 in
theorem xc09_19 : j_code jP 68 19 = some (.iload_n 3) := rfl
set_option maxRecDepth 100000 in
theorem xc09_20 : j_code jP 68 20 = some (.iaload) := rfl
set_option maxRecDepth 100000 in
theorem xc09_21 : j_code jP 68 21 = some (.iconst 1) := rfl
set_option maxRecDepth 100000 in
theorem xc09_22 : j_code jP 68 22 = some (.if_icmp .ne 19) := rfl
set_option maxRecDepth 100000 in
theorem xc09_25 : j_code jP 68 25 = some (.aload_n 0) := rfl
set_option maxRecDepth 100000 in
theorem xc09_26 : j_code jP 68 26 = some (.getfield 21) := rfl
set_option maxRecDepth 100000 in
theorem xc09_29 : j_code jP 68 29 = some (.iload_n 3) := rfl
set_option maxRecDepth 100000 in
theorem xc09_30 : j_code jP 68 30 = some (.iaload) := rfl
set_option maxRecDepth 100000 in
theorem xc09_31 : j_code jP 68 31 = some (.iload_n 1) := rfl
set_option maxRecDepth 100000 in
theorem xc09_32 : j_code jP 68 32 = some (.if_icmp .ne 9) := rfl
set_option maxRecDepth 100000 in
theorem xc09_35 : j_code jP 68 35 = some (.iload_n 2) := rfl
set_option maxRecDepth 100000 in
theorem xc09_36 : j_code jP 68 36 = some (.iconst 1) := rfl
set_option maxRecDepth 100000 in
theorem xc09_37 : j_code jP 68 37 = some (.iload_n 3) := rfl
set_option maxRecDepth 100000 in
theorem xc09_38 : j_code jP 68 38 = some (.ishl) := rfl
set_option maxRecDepth 100000 in
theorem xc09_39 : j_code jP 68 39 = some (.ior) := rfl
set_option maxRecDepth 100000 in
theorem xc09_40 : j_code jP 68 40 = some (.istore_n 2) := rfl
set_option maxRecDepth 100000 in
theorem xc09_41 : j_code jP 68 41 = some (.iinc 3 1) := rfl
set_option maxRecDepth 100000 in
theorem xc09_44 : j_code jP 68 44 = some (.goto (-40)) := rfl
set_option maxRecDepth 100000 in
theorem xc09_47 : j_code jP 68 47 = some (.iload_n 2) := rfl
set_option maxRecDepth 100000 in
theorem xc09_48 : j_code jP 68 48 = some (.ireturn) := rfl
set_option maxRecDepth 1000000 in
theorem xc09_ok_l4 {mi : Int32} {shu : Int32} {bus : Int32} {lks : Int32} {ph : List Int32} {sp : List Int32} {ns : Int32} {nt : Int32} {cel : Int32} {v1 : Int32} {d : Nat} {h h0 : J_H} : ∀ (f : Nat) (v3 v2 : Int32) {lv : J_L}, lpN nt v3 = f → LK lv [(0, .ref 282), (1, .int v1), (2, .int v2), (3, .int v3)] → KN h [(282, .inl (7, [.ref 327, .int mi, .int shu, .int bus, .ref 283, .ref 284, .ref 285, .ref 286, .ref 287, .ref 288, .ref 289, .ref 290, .ref 291, .ref 292, .ref 293, .int lks, .ref 294, .ref 295, .ref 298])), (285, .inr (.inl (0, ph))), (286, .inr (.inl (0, sp))), (327, .inl (2, [.int ns, .ref 328, .ref 329, .ref 330, .ref 331, .int nt, .ref 332, .ref 333, .ref 334, .ref 335, .ref 336, .ref 337, .ref 338, .int cel, .ref 339, .ref 340, .ref 341, .ref 342]))] h0 → j_V jP d 68 4 lv [] h (fun rv h' => rv = some (.int (x_trainsIn_l4 ph sp v1 f v3 v2)) ∧ h' = h) := by
  intro f
  induction f with
  | zero =>
    intro v3 v2 lv e L K
    refine j_V.ldL xc09_M xc09_4 rfl (i := 3) (kd := 0) (v := .int v3) (pcJ := 5) rfl L rfl rfl rfl ?_
    refine j_V.ldL xc09_M xc09_5 rfl (i := 0) (kd := 2) (v := .ref 282) (pcJ := 6) rfl L rfl rfl rfl ?_
    refine j_V.getK xc09_M xc09_6 (ci := 7) (j := 0) rfl K rfl rfl ?_
    refine j_V.getK xc09_M xc09_9 (ci := 2) (j := 5) rfl K rfl rfl ?_
    refine j_V.icmp xc09_M xc09_12 (t := 47) rfl (fun c12_0 => ?_) (fun c12_0 => ?_)
    · replace c12_0 : ¬ (v3 < nt) := jd_ge c12_0
      refine j_V.ldL xc09_M xc09_47 rfl (i := 2) (kd := 0) (v := .int v2) (pcJ := 48) rfl L rfl rfl rfl ?_
      exact j_V.ri xc09_M xc09_48 ⟨congrArg (fun z => some (Value.int z)) (Eq.symm (show (x_trainsIn_l4 ph sp v1 0 v3 v2) = v2 from rfl)), rfl⟩
    · replace c12_0 : v3 < nt := jd_gen c12_0
      exact absurd c12_0 (lpN_z e)
  | succ f ih =>
    intro v3 v2 lv e L K
    refine j_V.ldL xc09_M xc09_4 rfl (i := 3) (kd := 0) (v := .int v3) (pcJ := 5) rfl L rfl rfl rfl ?_
    refine j_V.ldL xc09_M xc09_5 rfl (i := 0) (kd := 2) (v := .ref 282) (pcJ := 6) rfl L rfl rfl rfl ?_
    refine j_V.getK xc09_M xc09_6 (ci := 7) (j := 0) rfl K rfl rfl ?_
    refine j_V.getK xc09_M xc09_9 (ci := 2) (j := 5) rfl K rfl rfl ?_
    refine j_V.icmp xc09_M xc09_12 (t := 47) rfl (fun c12_0 => ?_) (fun c12_0 => ?_)
    · replace c12_0 : ¬ (v3 < nt) := jd_ge c12_0
      exact absurd (lpN_s e) c12_0
    · replace c12_0 : v3 < nt := jd_gen c12_0
      refine j_V.ldL xc09_M xc09_15 rfl (i := 0) (kd := 2) (v := .ref 282) (pcJ := 16) rfl L rfl rfl rfl ?_
      refine j_V.getK xc09_M xc09_16 (ci := 7) (j := 6) rfl K rfl rfl ?_
      refine j_V.ldL xc09_M xc09_19 rfl (i := 3) (kd := 0) (v := .int v3) (pcJ := 20) rfl L rfl rfl rfl ?_
      refine j_V.iaA xc09_M xc09_20 K rfl ?_
      refine j_V.one xc09_M xc09_21 (by decide) (pcJ := 22) (stJ := [.int 1, .int (gA ph v3)]) rfl ?_
      refine j_V.cut (b := 41) (stJ := []) (fun v => [(0, .ref 282), (1, .int v1), (2, .int v), (3, .int v3)]) ((if (gA ph v3) = 1 then (if (gA sp v3) = v1 then (v2 ||| (1 <<< (v3 &&& 31))) else v2) else v2) : Int32) (fun Q kk => ?_) (fun lv L => ?_)
      · refine j_V.icmp xc09_M xc09_22 (t := 41) rfl (fun c22_0 => ?_) (fun c22_0 => ?_)
        · replace c22_0 : ¬ ((gA ph v3) = 1) := jd_ne c22_0
          exact kk _ (Eq.subst (motive := fun z => LK _ ((fun v => [(0, .ref 282), (1, .int v1), (2, .int v), (3, .int v3)]) z)) (show v2 = ((if (gA ph v3) = 1 then (if (gA sp v3) = v1 then (v2 ||| (1 <<< (v3 &&& 31))) else v2) else v2) : Int32) from Eq.symm ((if_neg c22_0).trans (rfl))) L)
        · replace c22_0 : (gA ph v3) = 1 := jd_nen c22_0
          refine j_V.ldL xc09_M xc09_25 rfl (i := 0) (kd := 2) (v := .ref 282) (pcJ := 26) rfl L rfl rfl rfl ?_
          refine j_V.getK xc09_M xc09_26 (ci := 7) (j := 7) rfl K rfl rfl ?_
          refine j_V.ldL xc09_M xc09_29 rfl (i := 3) (kd := 0) (v := .int v3) (pcJ := 30) rfl L rfl rfl rfl ?_
          refine j_V.iaA xc09_M xc09_30 K rfl ?_
          refine j_V.ldL xc09_M xc09_31 rfl (i := 1) (kd := 0) (v := .int v1) (pcJ := 32) rfl L rfl rfl rfl ?_
          refine j_V.icmp xc09_M xc09_32 (t := 41) rfl (fun c32_1 => ?_) (fun c32_1 => ?_)
          · replace c32_1 : ¬ ((gA sp v3) = v1) := jd_ne c32_1
            exact kk _ (Eq.subst (motive := fun z => LK _ ((fun v => [(0, .ref 282), (1, .int v1), (2, .int v), (3, .int v3)]) z)) (show v2 = ((if (gA ph v3) = 1 then (if (gA sp v3) = v1 then (v2 ||| (1 <<< (v3 &&& 31))) else v2) else v2) : Int32) from Eq.symm ((if_pos c22_0).trans ((if_neg c32_1).trans (rfl)))) L)
          · replace c32_1 : (gA sp v3) = v1 := jd_nen c32_1
            refine j_V.ldL xc09_M xc09_35 rfl (i := 2) (kd := 0) (v := .int v2) (pcJ := 36) rfl L rfl rfl rfl ?_
            refine j_V.one xc09_M xc09_36 (by decide) (pcJ := 37) (stJ := [.int 1, .int v2]) rfl ?_
            refine j_V.ldL xc09_M xc09_37 rfl (i := 3) (kd := 0) (v := .int v3) (pcJ := 38) rfl L rfl rfl rfl ?_
            refine j_V.one xc09_M xc09_38 (by decide) (pcJ := 39) (stJ := [.int (1 <<< (v3 &&& 31)), .int v2]) rfl ?_
            refine j_V.one xc09_M xc09_39 (by decide) (pcJ := 40) (stJ := [.int (v2 ||| (1 <<< (v3 &&& 31)))]) rfl ?_
            refine j_V.stL xc09_M xc09_40 rfl (i := 2) (kd := 0) (kl' := [(0, .ref 282), (1, .int v1), (2, .int (v2 ||| (1 <<< (v3 &&& 31)))), (3, .int v3)]) (pcJ := 41) rfl L rfl (by decide) rfl rfl rfl (fun lv L => ?_)
            exact kk _ (Eq.subst (motive := fun z => LK _ ((fun v => [(0, .ref 282), (1, .int v1), (2, .int v), (3, .int v3)]) z)) (show (v2 ||| (1 <<< (v3 &&& 31))) = ((if (gA ph v3) = 1 then (if (gA sp v3) = v1 then (v2 ||| (1 <<< (v3 &&& 31))) else v2) else v2) : Int32) from Eq.symm ((if_pos c22_0).trans ((if_pos c32_1).trans (rfl)))) L)
      refine j_V.inL xc09_M xc09_41 (i := 3) (kl' := [(0, .ref 282), (1, .int v1), (2, .int ((if (gA ph v3) = 1 then (if (gA sp v3) = v1 then (v2 ||| (1 <<< (v3 &&& 31))) else v2) else v2) : Int32)), (3, .int (v3 + 1))]) (pcJ := 44) L rfl rfl rfl rfl (fun lv L => ?_)
      refine j_V.gto xc09_M xc09_44 (t := 4) rfl ?_
      refine j_V.mono (ih ((v3 + 1)) (((if (gA ph v3) = 1 then (if (gA sp v3) = v1 then (v2 ||| (1 <<< (v3 &&& 31))) else v2) else v2) : Int32)) (lpN_n e) L K) ?_
      rintro r hz ⟨rfl, rfl⟩
      exact ⟨congrArg (fun z => some (Value.int z)) (Eq.symm (show (x_trainsIn_l4 ph sp v1 (f + 1) v3 v2) = (x_trainsIn_l4 ph sp v1 f ((v3 + 1)) (((if (gA ph v3) = 1 then (if (gA sp v3) = v1 then (v2 ||| (1 <<< (v3 &&& 31))) else v2) else v2) : Int32))) from rfl)), rfl⟩
set_option maxRecDepth 1000000 in
theorem xc09_ok {mi : Int32} {shu : Int32} {bus : Int32} {lks : Int32} {ph : List Int32} {sp : List Int32} {ns : Int32} {nt : Int32} {cel : Int32} {x1 : Int32} {d : Nat} {h h0 : J_H} (K : KN h [(282, .inl (7, [.ref 327, .int mi, .int shu, .int bus, .ref 283, .ref 284, .ref 285, .ref 286, .ref 287, .ref 288, .ref 289, .ref 290, .ref 291, .ref 292, .ref 293, .int lks, .ref 294, .ref 295, .ref 298])), (285, .inr (.inl (0, ph))), (286, .inr (.inl (0, sp))), (327, .inl (2, [.int ns, .ref 328, .ref 329, .ref 330, .ref 331, .int nt, .ref 332, .ref 333, .ref 334, .ref 335, .ref 336, .ref 337, .ref 338, .int cel, .ref 339, .ref 340, .ref 341, .ref 342]))] h0) : j_V jP d 68 0 (lv_args 0 [.ref 282, .int x1]) [] h (fun rv h' => rv = some (.int (x_trainsIn ph sp nt x1)) ∧ h' = h) := by
  show j_V jP d 68 0 [(0, .ref 282), (1, .int x1)] [] h _
  obtain ⟨lv, elv, L⟩ : ∃ lv, lv = [(0, .ref 282), (1, .int x1)] ∧ LK lv [(0, .ref 282), (1, .int x1)] := ⟨_, rfl, LK.rf⟩
  rw [← elv]
  clear elv
  refine j_V.one xc09_M xc09_0 (by decide) (pcJ := 1) (stJ := [.int 0]) rfl ?_
  refine j_V.stL xc09_M xc09_1 rfl (i := 2) (kd := 0) (kl' := [(0, .ref 282), (1, .int x1), (2, .int 0)]) (pcJ := 2) rfl L rfl (by decide) rfl rfl rfl (fun lv L => ?_)
  refine j_V.one xc09_M xc09_2 (by decide) (pcJ := 3) (stJ := [.int 0]) rfl ?_
  refine j_V.stL xc09_M xc09_3 rfl (i := 3) (kd := 0) (kl' := [(0, .ref 282), (1, .int x1), (2, .int 0), (3, .int 0)]) (pcJ := 4) rfl L rfl (by decide) rfl rfl rfl (fun lv L => ?_)
  refine j_V.mono (xc09_ok_l4 _ (0) (0) rfl L K) ?_
  rintro r hz ⟨rfl, rfl⟩
  exact ⟨congrArg (fun z => some (Value.int z)) (Eq.symm (show (x_trainsIn ph sp nt x1) = (x_trainsIn_l4 ph sp x1 (lpN nt 0) 0 0) from rfl)), rfl⟩
set_option maxRecDepth 100000 in
theorem xc10_M : j_meth jP 69 = some (yX7_trainWith, cX7_trainWith, 3, (some .int), 1, false, 7) := rfl
set_option maxRecDepth 100000 in
theorem xc10_0 : j_code jP 69 0 = some (.iconst 0) := rfl
set_option maxRecDepth 100000 in
theorem xc10_1 : j_code jP 69 1 = some (.istore_n 2) := rfl
set_option maxRecDepth 100000 in
theorem xc10_2 : j_code jP 69 2 = some (.iload_n 2) := rfl
set_option maxRecDepth 100000 in
theorem xc10_3 : j_code jP 69 3 = some (.aload_n 0) := rfl
set_option maxRecDepth 100000 in
theorem xc10_4 : j_code jP 69 4 = some (.getfield 64) := rfl
set_option maxRecDepth 100000 in
theorem xc10_7 : j_code jP 69 7 = some (.getfield 102) := rfl
set_option maxRecDepth 100000 in
theorem xc10_10 : j_code jP 69 10 = some (.if_icmp .ge 21) := rfl
set_option maxRecDepth 100000 in
theorem xc10_13 : j_code jP 69 13 = some (.aload_n 0) := rfl
set_option maxRecDepth 100000 in
theorem xc10_14 : j_code jP 69 14 = some (.getfield 24) := rfl
set_option maxRecDepth 100000 in
theorem xc10_17 : j_code jP 69 17 = some (.iload_n 2) := rfl
set_option maxRecDepth 100000 in
theorem xc10_18 : j_code jP 69 18 = some (.iaload) := rfl
set_option maxRecDepth 100000 in
theorem xc10_19 : j_code jP 69 19 = some (.iload_n 1) := rfl
set_option maxRecDepth 100000 in
theorem xc10_20 : j_code jP 69 20 = some (.if_icmp .ne 5) := rfl
set_option maxRecDepth 100000 in
theorem xc10_23 : j_code jP 69 23 = some (.iload_n 2) := rfl
set_option maxRecDepth 100000 in
theorem xc10_24 : j_code jP 69 24 = some (.ireturn) := rfl
set_option maxRecDepth 100000 in
theorem xc10_25 : j_code jP 69 25 = some (.iinc 2 1) := rfl
set_option maxRecDepth 100000 in
theorem xc10_28 : j_code jP 69 28 = some (.goto (-26)) := rfl
set_option maxRecDepth 100000 in
theorem xc10_31 : j_code jP 69 31 = some (.iconst (-1)) := rfl
set_option maxRecDepth 100000 in
theorem xc10_32 : j_code jP 69 32 = some (.ireturn) := rfl
set_option maxRecDepth 1000000 in
theorem xc10_ok_l2 {mi : Int32} {shu : Int32} {bus : Int32} {lks : Int32} {ce : List Int32} {ns : Int32} {nt : Int32} {cel : Int32} {v1 : Int32} {d : Nat} {h h0 : J_H} : ∀ (f : Nat) (v2 : Int32) {lv : J_L}, lpN nt v2 = f → LK lv [(0, .ref 282), (1, .int v1), (2, .int v2)] → KN h [(282, .inl (7, [.ref 327, .int mi, .int shu, .int bus, .ref 283, .ref 284, .ref 285, .ref 286, .ref 287, .ref 288, .ref 289, .ref 290, .ref 291, .ref 292, .ref 293, .int lks, .ref 294, .ref 295, .ref 298])), (287, .inr (.inl (0, ce))), (327, .inl (2, [.int ns, .ref 328, .ref 329, .ref 330, .ref 331, .int nt, .ref 332, .ref 333, .ref 334, .ref 335, .ref 336, .ref 337, .ref 338, .int cel, .ref 339, .ref 340, .ref 341, .ref 342]))] h0 → j_V jP d 69 2 lv [] h (fun rv h' => rv = some (.int (x_trainWith_l2 ce v1 f v2)) ∧ h' = h) := by
  intro f
  induction f with
  | zero =>
    intro v2 lv e L K
    refine j_V.ldL xc10_M xc10_2 rfl (i := 2) (kd := 0) (v := .int v2) (pcJ := 3) rfl L rfl rfl rfl ?_
    refine j_V.ldL xc10_M xc10_3 rfl (i := 0) (kd := 2) (v := .ref 282) (pcJ := 4) rfl L rfl rfl rfl ?_
    refine j_V.getK xc10_M xc10_4 (ci := 7) (j := 0) rfl K rfl rfl ?_
    refine j_V.getK xc10_M xc10_7 (ci := 2) (j := 5) rfl K rfl rfl ?_
    refine j_V.icmp xc10_M xc10_10 (t := 31) rfl (fun c10_0 => ?_) (fun c10_0 => ?_)
    · replace c10_0 : ¬ (v2 < nt) := jd_ge c10_0
      refine j_V.one xc10_M xc10_31 (by decide) (pcJ := 32) (stJ := [.int (-1)]) rfl ?_
      exact j_V.ri xc10_M xc10_32 ⟨congrArg (fun z => some (Value.int z)) (Eq.symm (show (x_trainWith_l2 ce v1 0 v2) = (-1) from rfl)), rfl⟩
    · replace c10_0 : v2 < nt := jd_gen c10_0
      exact absurd c10_0 (lpN_z e)
  | succ f ih =>
    intro v2 lv e L K
    refine j_V.ldL xc10_M xc10_2 rfl (i := 2) (kd := 0) (v := .int v2) (pcJ := 3) rfl L rfl rfl rfl ?_
    refine j_V.ldL xc10_M xc10_3 rfl (i := 0) (kd := 2) (v := .ref 282) (pcJ := 4) rfl L rfl rfl rfl ?_
    refine j_V.getK xc10_M xc10_4 (ci := 7) (j := 0) rfl K rfl rfl ?_
    refine j_V.getK xc10_M xc10_7 (ci := 2) (j := 5) rfl K rfl rfl ?_
    refine j_V.icmp xc10_M xc10_10 (t := 31) rfl (fun c10_0 => ?_) (fun c10_0 => ?_)
    · replace c10_0 : ¬ (v2 < nt) := jd_ge c10_0
      exact absurd (lpN_s e) c10_0
    · replace c10_0 : v2 < nt := jd_gen c10_0
      refine j_V.ldL xc10_M xc10_13 rfl (i := 0) (kd := 2) (v := .ref 282) (pcJ := 14) rfl L rfl rfl rfl ?_
      refine j_V.getK xc10_M xc10_14 (ci := 7) (j := 8) rfl K rfl rfl ?_
      refine j_V.ldL xc10_M xc10_17 rfl (i := 2) (kd := 0) (v := .int v2) (pcJ := 18) rfl L rfl rfl rfl ?_
      refine j_V.iaA xc10_M xc10_18 K rfl ?_
      refine j_V.ldL xc10_M xc10_19 rfl (i := 1) (kd := 0) (v := .int v1) (pcJ := 20) rfl L rfl rfl rfl ?_
      refine j_V.icmp xc10_M xc10_20 (t := 25) rfl (fun c20_0 => ?_) (fun c20_0 => ?_)
      · replace c20_0 : ¬ ((gA ce v2) = v1) := jd_ne c20_0
        refine j_V.inL xc10_M xc10_25 (i := 2) (kl' := [(0, .ref 282), (1, .int v1), (2, .int (v2 + 1))]) (pcJ := 28) L rfl rfl rfl rfl (fun lv L => ?_)
        refine j_V.gto xc10_M xc10_28 (t := 2) rfl ?_
        refine j_V.mono (ih ((v2 + 1)) (lpN_n e) L K) ?_
        rintro r hz ⟨rfl, rfl⟩
        exact ⟨congrArg (fun z => some (Value.int z)) (Eq.symm (show (x_trainWith_l2 ce v1 (f + 1) v2) = (x_trainWith_l2 ce v1 f ((v2 + 1))) from (if_neg c20_0).trans (rfl))), rfl⟩
      · replace c20_0 : (gA ce v2) = v1 := jd_nen c20_0
        refine j_V.ldL xc10_M xc10_23 rfl (i := 2) (kd := 0) (v := .int v2) (pcJ := 24) rfl L rfl rfl rfl ?_
        exact j_V.ri xc10_M xc10_24 ⟨congrArg (fun z => some (Value.int z)) (Eq.symm (show (x_trainWith_l2 ce v1 (f + 1) v2) = v2 from (if_pos c20_0).trans (rfl))), rfl⟩
set_option maxRecDepth 1000000 in
theorem xc10_ok {mi : Int32} {shu : Int32} {bus : Int32} {lks : Int32} {ce : List Int32} {ns : Int32} {nt : Int32} {cel : Int32} {x1 : Int32} {d : Nat} {h h0 : J_H} (K : KN h [(282, .inl (7, [.ref 327, .int mi, .int shu, .int bus, .ref 283, .ref 284, .ref 285, .ref 286, .ref 287, .ref 288, .ref 289, .ref 290, .ref 291, .ref 292, .ref 293, .int lks, .ref 294, .ref 295, .ref 298])), (287, .inr (.inl (0, ce))), (327, .inl (2, [.int ns, .ref 328, .ref 329, .ref 330, .ref 331, .int nt, .ref 332, .ref 333, .ref 334, .ref 335, .ref 336, .ref 337, .ref 338, .int cel, .ref 339, .ref 340, .ref 341, .ref 342]))] h0) : j_V jP d 69 0 (lv_args 0 [.ref 282, .int x1]) [] h (fun rv h' => rv = some (.int (x_trainWith ce nt x1)) ∧ h' = h) := by
  show j_V jP d 69 0 [(0, .ref 282), (1, .int x1)] [] h _
  obtain ⟨lv, elv, L⟩ : ∃ lv, lv = [(0, .ref 282), (1, .int x1)] ∧ LK lv [(0, .ref 282), (1, .int x1)] := ⟨_, rfl, LK.rf⟩
  rw [← elv]
  clear elv
  refine j_V.one xc10_M xc10_0 (by decide) (pcJ := 1) (stJ := [.int 0]) rfl ?_
  refine j_V.stL xc10_M xc10_1 rfl (i := 2) (kd := 0) (kl' := [(0, .ref 282), (1, .int x1), (2, .int 0)]) (pcJ := 2) rfl L rfl (by decide) rfl rfl rfl (fun lv L => ?_)
  refine j_V.mono (xc10_ok_l2 _ (0) rfl L K) ?_
  rintro r hz ⟨rfl, rfl⟩
  exact ⟨congrArg (fun z => some (Value.int z)) (Eq.symm (show (x_trainWith ce nt x1) = (x_trainWith_l2 ce x1 (lpN nt 0) 0) from rfl)), rfl⟩
set_option maxRecDepth 100000 in
theorem xc11_M : j_meth jP 70 = some (yX7_stationOf, cX7_stationOf, 2, (some .int), 1, false, 7) := rfl
set_option maxRecDepth 100000 in
theorem xc11_0 : j_code jP 70 0 = some (.aload_n 0) := rfl
set_option maxRecDepth 100000 in
theorem xc11_1 : j_code jP 70 1 = some (.getfield 18) := rfl
set_option maxRecDepth 100000 in
theorem xc11_4 : j_code jP 70 4 = some (.iload_n 1) := rfl
set_option maxRecDepth 100000 in
theorem xc11_5 : j_code jP 70 5 = some (.iaload) := rfl
set_option maxRecDepth 100000 in
theorem xc11_6 : j_code jP 70 6 = some (.iconst 1) := rfl
set_option maxRecDepth 100000 in
theorem xc11_7 : j_code jP 70 7 = some (.if_icmp .eq 13) := rfl
set_option maxRecDepth 100000 in
theorem xc11_10 : j_code jP 70 10 = some (.aload_n 0) := rfl
set_option maxRecDepth 100000 in
theorem xc11_11 : j_code jP 70 11 = some (.getfield 18) := rfl
set_option maxRecDepth 100000 in
theorem xc11_14 : j_code jP 70 14 = some (.iload_n 1) := rfl
set_option maxRecDepth 100000 in
theorem xc11_15 : j_code jP 70 15 = some (.iaload) := rfl
set_option maxRecDepth 100000 in
theorem xc11_16 : j_code jP 70 16 = some (.iconst 2) := rfl
set_option maxRecDepth 100000 in
theorem xc11_17 : j_code jP 70 17 = some (.if_icmp .ne 12) := rfl
set_option maxRecDepth 100000 in
theorem xc11_20 : j_code jP 70 20 = some (.aload_n 0) := rfl
set_option maxRecDepth 100000 in
theorem xc11_21 : j_code jP 70 21 = some (.getfield 21) := rfl
set_option maxRecDepth 100000 in
theorem xc11_24 : j_code jP 70 24 = some (.iload_n 1) := rfl
set_option maxRecDepth 100000 in
theorem xc11_25 : j_code jP 70 25 = some (.iaload) := rfl
set_option maxRecDepth 100000 in
theorem xc11_26 : j_code jP 70 26 = some (.goto 4) := rfl
set_option maxRecDepth 100000 in
theorem xc11_29 : j_code jP 70 29 = some (.iconst (-1)) := rfl
set_option maxRecDepth 100000 in
theorem xc11_30 : j_code jP 70 30 = some (.ireturn) := rfl
set_option maxRecDepth 1000000 in
theorem xc11_ok {mi : Int32} {shu : Int32} {bus : Int32} {lks : Int32} {ph : List Int32} {sp : List Int32} {x1 : Int32} {d : Nat} {h h0 : J_H} (K : KN h [(282, .inl (7, [.ref 327, .int mi, .int shu, .int bus, .ref 283, .ref 284, .ref 285, .ref 286, .ref 287, .ref 288, .ref 289, .ref 290, .ref 291, .ref 292, .ref 293, .int lks, .ref 294, .ref 295, .ref 298])), (285, .inr (.inl (0, ph))), (286, .inr (.inl (0, sp)))] h0) : j_V jP d 70 0 (lv_args 0 [.ref 282, .int x1]) [] h (fun rv h' => rv = some (.int (x_stationOf ph sp x1)) ∧ h' = h) := by
  show j_V jP d 70 0 [(0, .ref 282), (1, .int x1)] [] h _
  obtain ⟨lv, elv, L⟩ : ∃ lv, lv = [(0, .ref 282), (1, .int x1)] ∧ LK lv [(0, .ref 282), (1, .int x1)] := ⟨_, rfl, LK.rf⟩
  rw [← elv]
  clear elv
  refine j_V.ldL xc11_M xc11_0 rfl (i := 0) (kd := 2) (v := .ref 282) (pcJ := 1) rfl L rfl rfl rfl ?_
  refine j_V.getK xc11_M xc11_1 (ci := 7) (j := 6) rfl K rfl rfl ?_
  refine j_V.ldL xc11_M xc11_4 rfl (i := 1) (kd := 0) (v := .int x1) (pcJ := 5) rfl L rfl rfl rfl ?_
  refine j_V.iaA xc11_M xc11_5 K rfl ?_
  refine j_V.one xc11_M xc11_6 (by decide) (pcJ := 7) (stJ := [.int 1, .int (gA ph x1)]) rfl ?_
  refine j_V.cut (b := 30) (stJ := [.int ((if (gA ph x1) = 1 then (gA sp x1) else (if (gA ph x1) = 2 then (gA sp x1) else (-1))) : Int32)]) (fun v => [(0, .ref 282), (1, .int x1)]) ((if (gA ph x1) = 1 then (gA sp x1) else (if (gA ph x1) = 2 then (gA sp x1) else (-1))) : Int32) (fun Q kk => ?_) (fun lv L => ?_)
  · refine j_V.icmp xc11_M xc11_7 (t := 20) rfl (fun c7_0 => ?_) (fun c7_0 => ?_)
    · replace c7_0 : (gA ph x1) = 1 := jd_eq c7_0
      refine j_V.ldL xc11_M xc11_20 rfl (i := 0) (kd := 2) (v := .ref 282) (pcJ := 21) rfl L rfl rfl rfl ?_
      refine j_V.getK xc11_M xc11_21 (ci := 7) (j := 7) rfl K rfl rfl ?_
      refine j_V.ldL xc11_M xc11_24 rfl (i := 1) (kd := 0) (v := .int x1) (pcJ := 25) rfl L rfl rfl rfl ?_
      refine j_V.iaA xc11_M xc11_25 K rfl ?_
      refine j_V.gto xc11_M xc11_26 (t := 30) rfl ?_
      exact Eq.subst (motive := fun z => j_V jP _ 70 30 _ (.int z :: []) h Q) (show ((if (gA ph x1) = 1 then (gA sp x1) else (if (gA ph x1) = 2 then (gA sp x1) else (-1))) : Int32) = (gA sp x1) from (if_pos c7_0).trans (rfl)) (kk _ L)
    · replace c7_0 : ¬ ((gA ph x1) = 1) := jd_eqn c7_0
      refine j_V.ldL xc11_M xc11_10 rfl (i := 0) (kd := 2) (v := .ref 282) (pcJ := 11) rfl L rfl rfl rfl ?_
      refine j_V.getK xc11_M xc11_11 (ci := 7) (j := 6) rfl K rfl rfl ?_
      refine j_V.ldL xc11_M xc11_14 rfl (i := 1) (kd := 0) (v := .int x1) (pcJ := 15) rfl L rfl rfl rfl ?_
      refine j_V.iaA xc11_M xc11_15 K rfl ?_
      refine j_V.one xc11_M xc11_16 (by decide) (pcJ := 17) (stJ := [.int 2, .int (gA ph x1)]) rfl ?_
      refine j_V.icmp xc11_M xc11_17 (t := 29) rfl (fun c17_1 => ?_) (fun c17_1 => ?_)
      · replace c17_1 : ¬ ((gA ph x1) = 2) := jd_ne c17_1
        refine j_V.one xc11_M xc11_29 (by decide) (pcJ := 30) (stJ := [.int (-1)]) rfl ?_
        exact Eq.subst (motive := fun z => j_V jP _ 70 30 _ (.int z :: []) h Q) (show ((if (gA ph x1) = 1 then (gA sp x1) else (if (gA ph x1) = 2 then (gA sp x1) else (-1))) : Int32) = (-1) from (if_neg c7_0).trans ((if_neg c17_1).trans (rfl))) (kk _ L)
      · replace c17_1 : (gA ph x1) = 2 := jd_nen c17_1
        refine j_V.ldL xc11_M xc11_20 rfl (i := 0) (kd := 2) (v := .ref 282) (pcJ := 21) rfl L rfl rfl rfl ?_
        refine j_V.getK xc11_M xc11_21 (ci := 7) (j := 7) rfl K rfl rfl ?_
        refine j_V.ldL xc11_M xc11_24 rfl (i := 1) (kd := 0) (v := .int x1) (pcJ := 25) rfl L rfl rfl rfl ?_
        refine j_V.iaA xc11_M xc11_25 K rfl ?_
        refine j_V.gto xc11_M xc11_26 (t := 30) rfl ?_
        exact Eq.subst (motive := fun z => j_V jP _ 70 30 _ (.int z :: []) h Q) (show ((if (gA ph x1) = 1 then (gA sp x1) else (if (gA ph x1) = 2 then (gA sp x1) else (-1))) : Int32) = (gA sp x1) from (if_neg c7_0).trans ((if_pos c17_1).trans (rfl))) (kk _ L)
  exact j_V.ri xc11_M xc11_30 ⟨congrArg (fun z => some (Value.int z)) (Eq.symm (show (x_stationOf ph sp x1) = ((if (gA ph x1) = 1 then (gA sp x1) else (if (gA ph x1) = 2 then (gA sp x1) else (-1))) : Int32) from rfl)), rfl⟩
set_option maxRecDepth 100000 in
theorem xc12_M : j_meth jP 71 = some (yX7_trackOf, cX7_trackOf, 2, (some .int), 1, false, 7) := rfl
set_option maxRecDepth 100000 in
theorem xc12_0 : j_code jP 71 0 = some (.aload_n 0) := rfl
set_option maxRecDepth 100000 in
theorem xc12_1 : j_code jP 71 1 = some (.getfield 24) := rfl
set_option maxRecDepth 100000 in
theorem xc12_4 : j_code jP 71 4 = some (.iload_n 1) := rfl
set_option maxRecDepth 100000 in
theorem xc12_5 : j_code jP 71 5 = some (.iaload) := rfl
set_option maxRecDepth 100000 in
theorem xc12_6 : j_code jP 71 6 = some (.iconst (-1)) := rfl
set_option maxRecDepth 100000 in
theorem xc12_7 : j_code jP 71 7 = some (.if_icmp .ne 7) := rfl
set_option maxRecDepth 100000 in
theorem xc12_10 : j_code jP 71 10 = some (.iconst (-1)) := rfl
set_option maxRecDepth 100000 in
theorem xc12_11 : j_code jP 71 11 = some (.goto 11) := rfl
set_option maxRecDepth 100000 in
theorem xc12_14 : j_code jP 71 14 = some (.aload_n 0) := rfl
set_option maxRecDepth 100000 in
theorem xc12_15 : j_code jP 71 15 = some (.getfield 24) := rfl
set_option maxRecDepth 100000 in
theorem xc12_18 : j_code jP 71 18 = some (.iload_n 1) := rfl
set_option maxRecDepth 100000 in
theorem xc12_19 : j_code jP 71 19 = some (.iaload) := rfl
set_option maxRecDepth 100000 in
theorem xc12_20 : j_code jP 71 20 = some (.iconst 3) := rfl
set_option maxRecDepth 100000 in
theorem xc12_21 : j_code jP 71 21 = some (.irem) := rfl
set_option maxRecDepth 100000 in
theorem xc12_22 : j_code jP 71 22 = some (.ireturn) := rfl
set_option maxRecDepth 1000000 in
theorem xc12_ok {mi : Int32} {shu : Int32} {bus : Int32} {lks : Int32} {ce : List Int32} {x1 : Int32} {d : Nat} {h h0 : J_H} (K : KN h [(282, .inl (7, [.ref 327, .int mi, .int shu, .int bus, .ref 283, .ref 284, .ref 285, .ref 286, .ref 287, .ref 288, .ref 289, .ref 290, .ref 291, .ref 292, .ref 293, .int lks, .ref 294, .ref 295, .ref 298])), (287, .inr (.inl (0, ce)))] h0) : j_V jP d 71 0 (lv_args 0 [.ref 282, .int x1]) [] h (fun rv h' => rv = some (.int (x_trackOf ce x1)) ∧ h' = h) := by
  show j_V jP d 71 0 [(0, .ref 282), (1, .int x1)] [] h _
  obtain ⟨lv, elv, L⟩ : ∃ lv, lv = [(0, .ref 282), (1, .int x1)] ∧ LK lv [(0, .ref 282), (1, .int x1)] := ⟨_, rfl, LK.rf⟩
  rw [← elv]
  clear elv
  refine j_V.ldL xc12_M xc12_0 rfl (i := 0) (kd := 2) (v := .ref 282) (pcJ := 1) rfl L rfl rfl rfl ?_
  refine j_V.getK xc12_M xc12_1 (ci := 7) (j := 8) rfl K rfl rfl ?_
  refine j_V.ldL xc12_M xc12_4 rfl (i := 1) (kd := 0) (v := .int x1) (pcJ := 5) rfl L rfl rfl rfl ?_
  refine j_V.iaA xc12_M xc12_5 K rfl ?_
  refine j_V.one xc12_M xc12_6 (by decide) (pcJ := 7) (stJ := [.int (-1), .int (gA ce x1)]) rfl ?_
  refine j_V.cut (b := 22) (stJ := [.int ((if (gA ce x1) = (-1) then (-1) else ((gA ce x1) - (gA ce x1) / 3 * 3)) : Int32)]) (fun v => [(0, .ref 282), (1, .int x1)]) ((if (gA ce x1) = (-1) then (-1) else ((gA ce x1) - (gA ce x1) / 3 * 3)) : Int32) (fun Q kk => ?_) (fun lv L => ?_)
  · refine j_V.icmp xc12_M xc12_7 (t := 14) rfl (fun c7_0 => ?_) (fun c7_0 => ?_)
    · replace c7_0 : ¬ ((gA ce x1) = (-1)) := jd_ne c7_0
      refine j_V.ldL xc12_M xc12_14 rfl (i := 0) (kd := 2) (v := .ref 282) (pcJ := 15) rfl L rfl rfl rfl ?_
      refine j_V.getK xc12_M xc12_15 (ci := 7) (j := 8) rfl K rfl rfl ?_
      refine j_V.ldL xc12_M xc12_18 rfl (i := 1) (kd := 0) (v := .int x1) (pcJ := 19) rfl L rfl rfl rfl ?_
      refine j_V.iaA xc12_M xc12_19 K rfl ?_
      refine j_V.one xc12_M xc12_20 (by decide) (pcJ := 21) (stJ := [.int 3, .int (gA ce x1)]) rfl ?_
      refine j_V.one xc12_M xc12_21 (by decide) (pcJ := 22) (stJ := [.int ((gA ce x1) - (gA ce x1) / 3 * 3)]) rfl ?_
      exact Eq.subst (motive := fun z => j_V jP _ 71 22 _ (.int z :: []) h Q) (show ((if (gA ce x1) = (-1) then (-1) else ((gA ce x1) - (gA ce x1) / 3 * 3)) : Int32) = ((gA ce x1) - (gA ce x1) / 3 * 3) from (if_neg c7_0).trans (rfl)) (kk _ L)
    · replace c7_0 : (gA ce x1) = (-1) := jd_nen c7_0
      refine j_V.one xc12_M xc12_10 (by decide) (pcJ := 11) (stJ := [.int (-1)]) rfl ?_
      refine j_V.gto xc12_M xc12_11 (t := 22) rfl ?_
      exact Eq.subst (motive := fun z => j_V jP _ 71 22 _ (.int z :: []) h Q) (show ((if (gA ce x1) = (-1) then (-1) else ((gA ce x1) - (gA ce x1) / 3 * 3)) : Int32) = (-1) from (if_pos c7_0).trans (rfl)) (kk _ L)
  exact j_V.ri xc12_M xc12_22 ⟨congrArg (fun z => some (Value.int z)) (Eq.symm (show (x_trackOf ce x1) = ((if (gA ce x1) = (-1) then (-1) else ((gA ce x1) - (gA ce x1) / 3 * 3)) : Int32) from rfl)), rfl⟩
set_option maxRecDepth 100000 in
theorem xc13_M : j_meth jP 72 = some (yX7_minutesToGo, cX7_minutesToGo, 2, (some .int), 1, false, 7) := rfl
set_option maxRecDepth 100000 in
theorem xc13_0 : j_code jP 72 0 = some (.aload_n 0) := rfl
set_option maxRecDepth 100000 in
theorem xc13_1 : j_code jP 72 1 = some (.getfield 18) := rfl
set_option maxRecDepth 100000 in
theorem xc13_4 : j_code jP 72 4 = some (.iload_n 1) := rfl
set_option maxRecDepth 100000 in
theorem xc13_5 : j_code jP 72 5 = some (.iaload) := rfl
set_option maxRecDepth 100000 in
theorem xc13_6 : j_code jP 72 6 = some (.iconst 2) := rfl
set_option maxRecDepth 100000 in
theorem xc13_7 : j_code jP 72 7 = some (.if_icmp .ne 17) := rfl
set_option maxRecDepth 100000 in
theorem xc13_10 : j_code jP 72 10 = some (.aload_n 0) := rfl
set_option maxRecDepth 100000 in
theorem xc13_11 : j_code jP 72 11 = some (.getfield 27) := rfl
set_option maxRecDepth 100000 in
theorem xc13_14 : j_code jP 72 14 = some (.iload_n 1) := rfl
set_option maxRecDepth 100000 in
theorem xc13_15 : j_code jP 72 15 = some (.iaload) := rfl
set_option maxRecDepth 100000 in
theorem xc13_16 : j_code jP 72 16 = some (.aload_n 0) := rfl
set_option maxRecDepth 100000 in
theorem xc13_17 : j_code jP 72 17 = some (.getfield 68) := rfl
set_option maxRecDepth 100000 in
theorem xc13_20 : j_code jP 72 20 = some (.isub) := rfl
set_option maxRecDepth 100000 in
theorem xc13_21 : j_code jP 72 21 = some (.goto 4) := rfl
set_option maxRecDepth 100000 in
theorem xc13_24 : j_code jP 72 24 = some (.iconst (-1)) := rfl
set_option maxRecDepth 100000 in
theorem xc13_25 : j_code jP 72 25 = some (.ireturn) := rfl
set_option maxRecDepth 1000000 in
theorem xc13_ok {mi : Int32} {shu : Int32} {bus : Int32} {lks : Int32} {ph : List Int32} {du : List Int32} {x1 : Int32} {d : Nat} {h h0 : J_H} (K : KN h [(282, .inl (7, [.ref 327, .int mi, .int shu, .int bus, .ref 283, .ref 284, .ref 285, .ref 286, .ref 287, .ref 288, .ref 289, .ref 290, .ref 291, .ref 292, .ref 293, .int lks, .ref 294, .ref 295, .ref 298])), (285, .inr (.inl (0, ph))), (288, .inr (.inl (0, du)))] h0) : j_V jP d 72 0 (lv_args 0 [.ref 282, .int x1]) [] h (fun rv h' => rv = some (.int (x_minutesToGo mi ph du x1)) ∧ h' = h) := by
  show j_V jP d 72 0 [(0, .ref 282), (1, .int x1)] [] h _
  obtain ⟨lv, elv, L⟩ : ∃ lv, lv = [(0, .ref 282), (1, .int x1)] ∧ LK lv [(0, .ref 282), (1, .int x1)] := ⟨_, rfl, LK.rf⟩
  rw [← elv]
  clear elv
  refine j_V.ldL xc13_M xc13_0 rfl (i := 0) (kd := 2) (v := .ref 282) (pcJ := 1) rfl L rfl rfl rfl ?_
  refine j_V.getK xc13_M xc13_1 (ci := 7) (j := 6) rfl K rfl rfl ?_
  refine j_V.ldL xc13_M xc13_4 rfl (i := 1) (kd := 0) (v := .int x1) (pcJ := 5) rfl L rfl rfl rfl ?_
  refine j_V.iaA xc13_M xc13_5 K rfl ?_
  refine j_V.one xc13_M xc13_6 (by decide) (pcJ := 7) (stJ := [.int 2, .int (gA ph x1)]) rfl ?_
  refine j_V.cut (b := 25) (stJ := [.int ((if (gA ph x1) = 2 then ((gA du x1) - mi) else (-1)) : Int32)]) (fun v => [(0, .ref 282), (1, .int x1)]) ((if (gA ph x1) = 2 then ((gA du x1) - mi) else (-1)) : Int32) (fun Q kk => ?_) (fun lv L => ?_)
  · refine j_V.icmp xc13_M xc13_7 (t := 24) rfl (fun c7_0 => ?_) (fun c7_0 => ?_)
    · replace c7_0 : ¬ ((gA ph x1) = 2) := jd_ne c7_0
      refine j_V.one xc13_M xc13_24 (by decide) (pcJ := 25) (stJ := [.int (-1)]) rfl ?_
      exact Eq.subst (motive := fun z => j_V jP _ 72 25 _ (.int z :: []) h Q) (show ((if (gA ph x1) = 2 then ((gA du x1) - mi) else (-1)) : Int32) = (-1) from (if_neg c7_0).trans (rfl)) (kk _ L)
    · replace c7_0 : (gA ph x1) = 2 := jd_nen c7_0
      refine j_V.ldL xc13_M xc13_10 rfl (i := 0) (kd := 2) (v := .ref 282) (pcJ := 11) rfl L rfl rfl rfl ?_
      refine j_V.getK xc13_M xc13_11 (ci := 7) (j := 9) rfl K rfl rfl ?_
      refine j_V.ldL xc13_M xc13_14 rfl (i := 1) (kd := 0) (v := .int x1) (pcJ := 15) rfl L rfl rfl rfl ?_
      refine j_V.iaA xc13_M xc13_15 K rfl ?_
      refine j_V.ldL xc13_M xc13_16 rfl (i := 0) (kd := 2) (v := .ref 282) (pcJ := 17) rfl L rfl rfl rfl ?_
      refine j_V.getK xc13_M xc13_17 (ci := 7) (j := 1) rfl K rfl rfl ?_
      refine j_V.one xc13_M xc13_20 (by decide) (pcJ := 21) (stJ := [.int ((gA du x1) - mi)]) rfl ?_
      refine j_V.gto xc13_M xc13_21 (t := 25) rfl ?_
      exact Eq.subst (motive := fun z => j_V jP _ 72 25 _ (.int z :: []) h Q) (show ((if (gA ph x1) = 2 then ((gA du x1) - mi) else (-1)) : Int32) = ((gA du x1) - mi) from (if_pos c7_0).trans (rfl)) (kk _ L)
  exact j_V.ri xc13_M xc13_25 ⟨congrArg (fun z => some (Value.int z)) (Eq.symm (show (x_minutesToGo mi ph du x1) = ((if (gA ph x1) = 2 then ((gA du x1) - mi) else (-1)) : Int32) from rfl)), rfl⟩
set_option maxRecDepth 100000 in
theorem xc14_M : j_meth jP 73 = some (yX7_heldTill, cX7_heldTill, 2, (some .int), 1, false, 7) := rfl
set_option maxRecDepth 100000 in
theorem xc14_0 : j_code jP 73 0 = some (.aload_n 0) := rfl
set_option maxRecDepth 100000 in
theorem xc14_1 : j_code jP 73 1 = some (.getfield 30) := rfl
set_option maxRecDepth 100000 in
theorem xc14_4 : j_code jP 73 4 = some (.iload_n 1) := rfl
set_option maxRecDepth 100000 in
theorem xc14_5 : j_code jP 73 5 = some (.iaload) := rfl
set_option maxRecDepth 100000 in
theorem xc14_6 : j_code jP 73 6 = some (.aload_n 0) := rfl
set_option maxRecDepth 100000 in
theorem xc14_7 : j_code jP 73 7 = some (.getfield 68) := rfl
set_option maxRecDepth 100000 in
theorem xc14_10 : j_code jP 73 10 = some (.if_icmp .le 12) := rfl
set_option maxRecDepth 100000 in
theorem xc14_13 : j_code jP 73 13 = some (.aload_n 0) := rfl
set_option maxRecDepth 100000 in
theorem xc14_14 : j_code jP 73 14 = some (.getfield 30) := rfl
set_option maxRecDepth 100000 in
theorem xc14_17 : j_code jP 73 17 = some (.iload_n 1) := rfl
set_option maxRecDepth 100000 in
theorem xc14_18 : j_code jP 73 18 = some (.iaload) := rfl
set_option maxRecDepth 100000 in
theorem xc14_19 : j_code jP 73 19 = some (.goto 4) := rfl
set_option maxRecDepth 100000 in
theorem xc14_22 : j_code jP 73 22 = some (.iconst (-1)) := rfl
set_option maxRecDepth 100000 in
theorem xc14_23 : j_code jP 73 23 = some (.ireturn) := rfl
set_option maxRecDepth 1000000 in
theorem xc14_ok {mi : Int32} {shu : Int32} {bus : Int32} {lks : Int32} {he : List Int32} {x1 : Int32} {d : Nat} {h h0 : J_H} (K : KN h [(282, .inl (7, [.ref 327, .int mi, .int shu, .int bus, .ref 283, .ref 284, .ref 285, .ref 286, .ref 287, .ref 288, .ref 289, .ref 290, .ref 291, .ref 292, .ref 293, .int lks, .ref 294, .ref 295, .ref 298])), (289, .inr (.inl (0, he)))] h0) : j_V jP d 73 0 (lv_args 0 [.ref 282, .int x1]) [] h (fun rv h' => rv = some (.int (x_heldTill mi he x1)) ∧ h' = h) := by
  show j_V jP d 73 0 [(0, .ref 282), (1, .int x1)] [] h _
  obtain ⟨lv, elv, L⟩ : ∃ lv, lv = [(0, .ref 282), (1, .int x1)] ∧ LK lv [(0, .ref 282), (1, .int x1)] := ⟨_, rfl, LK.rf⟩
  rw [← elv]
  clear elv
  refine j_V.ldL xc14_M xc14_0 rfl (i := 0) (kd := 2) (v := .ref 282) (pcJ := 1) rfl L rfl rfl rfl ?_
  refine j_V.getK xc14_M xc14_1 (ci := 7) (j := 10) rfl K rfl rfl ?_
  refine j_V.ldL xc14_M xc14_4 rfl (i := 1) (kd := 0) (v := .int x1) (pcJ := 5) rfl L rfl rfl rfl ?_
  refine j_V.iaA xc14_M xc14_5 K rfl ?_
  refine j_V.ldL xc14_M xc14_6 rfl (i := 0) (kd := 2) (v := .ref 282) (pcJ := 7) rfl L rfl rfl rfl ?_
  refine j_V.getK xc14_M xc14_7 (ci := 7) (j := 1) rfl K rfl rfl ?_
  refine j_V.cut (b := 23) (stJ := [.int ((if mi < (gA he x1) then (gA he x1) else (-1)) : Int32)]) (fun v => [(0, .ref 282), (1, .int x1)]) ((if mi < (gA he x1) then (gA he x1) else (-1)) : Int32) (fun Q kk => ?_) (fun lv L => ?_)
  · refine j_V.icmp xc14_M xc14_10 (t := 22) rfl (fun c10_0 => ?_) (fun c10_0 => ?_)
    · replace c10_0 : ¬ (mi < (gA he x1)) := jd_le c10_0
      refine j_V.one xc14_M xc14_22 (by decide) (pcJ := 23) (stJ := [.int (-1)]) rfl ?_
      exact Eq.subst (motive := fun z => j_V jP _ 73 23 _ (.int z :: []) h Q) (show ((if mi < (gA he x1) then (gA he x1) else (-1)) : Int32) = (-1) from (if_neg c10_0).trans (rfl)) (kk _ L)
    · replace c10_0 : mi < (gA he x1) := jd_len c10_0
      refine j_V.ldL xc14_M xc14_13 rfl (i := 0) (kd := 2) (v := .ref 282) (pcJ := 14) rfl L rfl rfl rfl ?_
      refine j_V.getK xc14_M xc14_14 (ci := 7) (j := 10) rfl K rfl rfl ?_
      refine j_V.ldL xc14_M xc14_17 rfl (i := 1) (kd := 0) (v := .int x1) (pcJ := 18) rfl L rfl rfl rfl ?_
      refine j_V.iaA xc14_M xc14_18 K rfl ?_
      refine j_V.gto xc14_M xc14_19 (t := 23) rfl ?_
      exact Eq.subst (motive := fun z => j_V jP _ 73 23 _ (.int z :: []) h Q) (show ((if mi < (gA he x1) then (gA he x1) else (-1)) : Int32) = (gA he x1) from (if_pos c10_0).trans (rfl)) (kk _ L)
  exact j_V.ri xc14_M xc14_23 ⟨congrArg (fun z => some (Value.int z)) (Eq.symm (show (x_heldTill mi he x1) = ((if mi < (gA he x1) then (gA he x1) else (-1)) : Int32) from rfl)), rfl⟩
set_option maxRecDepth 100000 in
theorem xc15_M : j_meth jP 74 = some (yX7_placeInRank, cX7_placeInRank, 3, (some .int), 1, false, 7) := rfl
set_option maxRecDepth 100000 in
theorem xc15_0 : j_code jP 74 0 = some (.iconst 0) := rfl
set_option maxRecDepth 100000 in
theorem xc15_1 : j_code jP 74 1 = some (.istore_n 2) := rfl
set_option maxRecDepth 100000 in
theorem xc15_2 : j_code jP 74 2 = some (.iload_n 2) := rfl
set_option maxRecDepth 100000 in
theorem xc15_3 : j_code jP 74 3 = some (.aload_n 0) := rfl
set_option maxRecDepth 100000 in
theorem xc15_4 : j_code jP 74 4 = some (.getfield 64) := rfl
set_option maxRecDepth 100000 in
theorem xc15_7 : j_code jP 74 7 = some (.getfield 102) := rfl
set_option maxRecDepth 100000 in
theorem xc15_10 : j_code jP 74 10 = some (.if_icmp .ge 21) := rfl
set_option maxRecDepth 100000 in
theorem xc15_13 : j_code jP 74 13 = some (.aload_n 0) := rfl
set_option maxRecDepth 100000 in
theorem xc15_14 : j_code jP 74 14 = some (.getfield 9) := rfl
set_option maxRecDepth 100000 in
theorem xc15_17 : j_code jP 74 17 = some (.iload_n 2) := rfl
set_option maxRecDepth 100000 in
theorem xc15_18 : j_code jP 74 18 = some (.iaload) := rfl
set_option maxRecDepth 100000 in
theorem xc15_19 : j_code jP 74 19 = some (.iload_n 1) := rfl
set_option maxRecDepth 100000 in
theorem xc15_20 : j_code jP 74 20 = some (.if_icmp .ne 5) := rfl
set_option maxRecDepth 100000 in
theorem xc15_23 : j_code jP 74 23 = some (.iload_n 2) := rfl
set_option maxRecDepth 100000 in
theorem xc15_24 : j_code jP 74 24 = some (.ireturn) := rfl
set_option maxRecDepth 100000 in
theorem xc15_25 : j_code jP 74 25 = some (.iinc 2 1) := rfl
set_option maxRecDepth 100000 in
theorem xc15_28 : j_code jP 74 28 = some (.goto (-26)) := rfl
set_option maxRecDepth 100000 in
theorem xc15_31 : j_code jP 74 31 = some (.iconst (-1)) := rfl
set_option maxRecDepth 100000 in
theorem xc15_32 : j_code jP 74 32 = some (.ireturn) := rfl
set_option maxRecDepth 1000000 in
theorem xc15_ok_l2 {mi : Int32} {shu : Int32} {bus : Int32} {lks : Int32} {rk : List Int32} {ns : Int32} {nt : Int32} {cel : Int32} {v1 : Int32} {d : Nat} {h h0 : J_H} : ∀ (f : Nat) (v2 : Int32) {lv : J_L}, lpN nt v2 = f → LK lv [(0, .ref 282), (1, .int v1), (2, .int v2)] → KN h [(282, .inl (7, [.ref 327, .int mi, .int shu, .int bus, .ref 283, .ref 284, .ref 285, .ref 286, .ref 287, .ref 288, .ref 289, .ref 290, .ref 291, .ref 292, .ref 293, .int lks, .ref 294, .ref 295, .ref 298])), (283, .inr (.inl (0, rk))), (327, .inl (2, [.int ns, .ref 328, .ref 329, .ref 330, .ref 331, .int nt, .ref 332, .ref 333, .ref 334, .ref 335, .ref 336, .ref 337, .ref 338, .int cel, .ref 339, .ref 340, .ref 341, .ref 342]))] h0 → j_V jP d 74 2 lv [] h (fun rv h' => rv = some (.int (x_placeInRank_l2 rk v1 f v2)) ∧ h' = h) := by
  intro f
  induction f with
  | zero =>
    intro v2 lv e L K
    refine j_V.ldL xc15_M xc15_2 rfl (i := 2) (kd := 0) (v := .int v2) (pcJ := 3) rfl L rfl rfl rfl ?_
    refine j_V.ldL xc15_M xc15_3 rfl (i := 0) (kd := 2) (v := .ref 282) (pcJ := 4) rfl L rfl rfl rfl ?_
    refine j_V.getK xc15_M xc15_4 (ci := 7) (j := 0) rfl K rfl rfl ?_
    refine j_V.getK xc15_M xc15_7 (ci := 2) (j := 5) rfl K rfl rfl ?_
    refine j_V.icmp xc15_M xc15_10 (t := 31) rfl (fun c10_0 => ?_) (fun c10_0 => ?_)
    · replace c10_0 : ¬ (v2 < nt) := jd_ge c10_0
      refine j_V.one xc15_M xc15_31 (by decide) (pcJ := 32) (stJ := [.int (-1)]) rfl ?_
      exact j_V.ri xc15_M xc15_32 ⟨congrArg (fun z => some (Value.int z)) (Eq.symm (show (x_placeInRank_l2 rk v1 0 v2) = (-1) from rfl)), rfl⟩
    · replace c10_0 : v2 < nt := jd_gen c10_0
      exact absurd c10_0 (lpN_z e)
  | succ f ih =>
    intro v2 lv e L K
    refine j_V.ldL xc15_M xc15_2 rfl (i := 2) (kd := 0) (v := .int v2) (pcJ := 3) rfl L rfl rfl rfl ?_
    refine j_V.ldL xc15_M xc15_3 rfl (i := 0) (kd := 2) (v := .ref 282) (pcJ := 4) rfl L rfl rfl rfl ?_
    refine j_V.getK xc15_M xc15_4 (ci := 7) (j := 0) rfl K rfl rfl ?_
    refine j_V.getK xc15_M xc15_7 (ci := 2) (j := 5) rfl K rfl rfl ?_
    refine j_V.icmp xc15_M xc15_10 (t := 31) rfl (fun c10_0 => ?_) (fun c10_0 => ?_)
    · replace c10_0 : ¬ (v2 < nt) := jd_ge c10_0
      exact absurd (lpN_s e) c10_0
    · replace c10_0 : v2 < nt := jd_gen c10_0
      refine j_V.ldL xc15_M xc15_13 rfl (i := 0) (kd := 2) (v := .ref 282) (pcJ := 14) rfl L rfl rfl rfl ?_
      refine j_V.getK xc15_M xc15_14 (ci := 7) (j := 4) rfl K rfl rfl ?_
      refine j_V.ldL xc15_M xc15_17 rfl (i := 2) (kd := 0) (v := .int v2) (pcJ := 18) rfl L rfl rfl rfl ?_
      refine j_V.iaA xc15_M xc15_18 K rfl ?_
      refine j_V.ldL xc15_M xc15_19 rfl (i := 1) (kd := 0) (v := .int v1) (pcJ := 20) rfl L rfl rfl rfl ?_
      refine j_V.icmp xc15_M xc15_20 (t := 25) rfl (fun c20_0 => ?_) (fun c20_0 => ?_)
      · replace c20_0 : ¬ ((gA rk v2) = v1) := jd_ne c20_0
        refine j_V.inL xc15_M xc15_25 (i := 2) (kl' := [(0, .ref 282), (1, .int v1), (2, .int (v2 + 1))]) (pcJ := 28) L rfl rfl rfl rfl (fun lv L => ?_)
        refine j_V.gto xc15_M xc15_28 (t := 2) rfl ?_
        refine j_V.mono (ih ((v2 + 1)) (lpN_n e) L K) ?_
        rintro r hz ⟨rfl, rfl⟩
        exact ⟨congrArg (fun z => some (Value.int z)) (Eq.symm (show (x_placeInRank_l2 rk v1 (f + 1) v2) = (x_placeInRank_l2 rk v1 f ((v2 + 1))) from (if_neg c20_0).trans (rfl))), rfl⟩
      · replace c20_0 : (gA rk v2) = v1 := jd_nen c20_0
        refine j_V.ldL xc15_M xc15_23 rfl (i := 2) (kd := 0) (v := .int v2) (pcJ := 24) rfl L rfl rfl rfl ?_
        exact j_V.ri xc15_M xc15_24 ⟨congrArg (fun z => some (Value.int z)) (Eq.symm (show (x_placeInRank_l2 rk v1 (f + 1) v2) = v2 from (if_pos c20_0).trans (rfl))), rfl⟩
set_option maxRecDepth 1000000 in
theorem xc15_ok {mi : Int32} {shu : Int32} {bus : Int32} {lks : Int32} {rk : List Int32} {ns : Int32} {nt : Int32} {cel : Int32} {x1 : Int32} {d : Nat} {h h0 : J_H} (K : KN h [(282, .inl (7, [.ref 327, .int mi, .int shu, .int bus, .ref 283, .ref 284, .ref 285, .ref 286, .ref 287, .ref 288, .ref 289, .ref 290, .ref 291, .ref 292, .ref 293, .int lks, .ref 294, .ref 295, .ref 298])), (283, .inr (.inl (0, rk))), (327, .inl (2, [.int ns, .ref 328, .ref 329, .ref 330, .ref 331, .int nt, .ref 332, .ref 333, .ref 334, .ref 335, .ref 336, .ref 337, .ref 338, .int cel, .ref 339, .ref 340, .ref 341, .ref 342]))] h0) : j_V jP d 74 0 (lv_args 0 [.ref 282, .int x1]) [] h (fun rv h' => rv = some (.int (x_placeInRank rk nt x1)) ∧ h' = h) := by
  show j_V jP d 74 0 [(0, .ref 282), (1, .int x1)] [] h _
  obtain ⟨lv, elv, L⟩ : ∃ lv, lv = [(0, .ref 282), (1, .int x1)] ∧ LK lv [(0, .ref 282), (1, .int x1)] := ⟨_, rfl, LK.rf⟩
  rw [← elv]
  clear elv
  refine j_V.one xc15_M xc15_0 (by decide) (pcJ := 1) (stJ := [.int 0]) rfl ?_
  refine j_V.stL xc15_M xc15_1 rfl (i := 2) (kd := 0) (kl' := [(0, .ref 282), (1, .int x1), (2, .int 0)]) (pcJ := 2) rfl L rfl (by decide) rfl rfl rfl (fun lv L => ?_)
  refine j_V.mono (xc15_ok_l2 _ (0) rfl L K) ?_
  rintro r hz ⟨rfl, rfl⟩
  exact ⟨congrArg (fun z => some (Value.int z)) (Eq.symm (show (x_placeInRank rk nt x1) = (x_placeInRank_l2 rk x1 (lpN nt 0) 0) from rfl)), rfl⟩
set_option maxRecDepth 100000 in
theorem xc16_M : j_meth jP 83 = some (yX7_nextStation, cX7_nextStation, 2, (some .int), 1, false, 7) := rfl
set_option maxRecDepth 100000 in
theorem xc16_0 : j_code jP 83 0 = some (.aload_n 0) := rfl
set_option maxRecDepth 100000 in
theorem xc16_1 : j_code jP 83 1 = some (.getfield 21) := rfl
set_option maxRecDepth 100000 in
theorem xc16_4 : j_code jP 83 4 = some (.iload_n 1) := rfl
set_option maxRecDepth 100000 in
theorem xc16_5 : j_code jP 83 5 = some (.iaload) := rfl
set_option maxRecDepth 100000 in
theorem xc16_6 : j_code jP 83 6 = some (.aload_n 0) := rfl
set_option maxRecDepth 100000 in
theorem xc16_7 : j_code jP 83 7 = some (.getfield 64) := rfl
set_option maxRecDepth 100000 in
theorem xc16_10 : j_code jP 83 10 = some (.getfield 112) := rfl
set_option maxRecDepth 100000 in
theorem xc16_13 : j_code jP 83 13 = some (.iload_n 1) := rfl
set_option maxRecDepth 100000 in
theorem xc16_14 : j_code jP 83 14 = some (.iaload) := rfl
set_option maxRecDepth 100000 in
theorem xc16_15 : j_code jP 83 15 = some (.if_icmp .ge 14) := rfl
set_option maxRecDepth 100000 in
theorem xc16_18 : j_code jP 83 18 = some (.aload_n 0) := rfl
set_option maxRecDepth 100000 in
theorem xc16_19 : j_code jP 83 19 = some (.getfield 21) := rfl
set_option maxRecDepth 100000 in
theorem xc16_22 : j_code jP 83 22 = some (.iload_n 1) := rfl
set_option maxRecDepth 100000 in
theorem xc16_23 : j_code jP 83 23 = some (.iaload) := rfl
set_option maxRecDepth 100000 in
theorem xc16_24 : j_code jP 83 24 = some (.iconst 1) := rfl
set_option maxRecDepth 100000 in
theorem xc16_25 : j_code jP 83 25 = some (.iadd) := rfl
set_option maxRecDepth 100000 in
theorem xc16_26 : j_code jP 83 26 = some (.goto 11) := rfl
set_option maxRecDepth 100000 in
theorem xc16_29 : j_code jP 83 29 = some (.aload_n 0) := rfl
set_option maxRecDepth 100000 in
theorem xc16_30 : j_code jP 83 30 = some (.getfield 21) := rfl
set_option maxRecDepth 100000 in
theorem xc16_33 : j_code jP 83 33 = some (.iload_n 1) := rfl
set_option maxRecDepth 100000 in
theorem xc16_34 : j_code jP 83 34 = some (.iaload) := rfl
set_option maxRecDepth 100000 in
theorem xc16_35 : j_code jP 83 35 = some (.iconst 1) := rfl
set_option maxRecDepth 100000 in
theorem xc16_36 : j_code jP 83 36 = some (.isub) := rfl
set_option maxRecDepth 100000 in
theorem xc16_37 : j_code jP 83 37 = some (.ireturn) := rfl
set_option maxRecDepth 1000000 in
theorem xc16_ok {mi : Int32} {shu : Int32} {bus : Int32} {lks : Int32} {sp : List Int32} {ns : Int32} {nt : Int32} {cel : Int32} {tto : List Int32} {x1 : Int32} {d : Nat} {h h0 : J_H} (K : KN h [(282, .inl (7, [.ref 327, .int mi, .int shu, .int bus, .ref 283, .ref 284, .ref 285, .ref 286, .ref 287, .ref 288, .ref 289, .ref 290, .ref 291, .ref 292, .ref 293, .int lks, .ref 294, .ref 295, .ref 298])), (286, .inr (.inl (0, sp))), (327, .inl (2, [.int ns, .ref 328, .ref 329, .ref 330, .ref 331, .int nt, .ref 332, .ref 333, .ref 334, .ref 335, .ref 336, .ref 337, .ref 338, .int cel, .ref 339, .ref 340, .ref 341, .ref 342])), (335, .inr (.inl (0, tto)))] h0) : j_V jP d 83 0 (lv_args 0 [.ref 282, .int x1]) [] h (fun rv h' => rv = some (.int (x_nextStation sp tto x1)) ∧ h' = h) := by
  show j_V jP d 83 0 [(0, .ref 282), (1, .int x1)] [] h _
  obtain ⟨lv, elv, L⟩ : ∃ lv, lv = [(0, .ref 282), (1, .int x1)] ∧ LK lv [(0, .ref 282), (1, .int x1)] := ⟨_, rfl, LK.rf⟩
  rw [← elv]
  clear elv
  refine j_V.ldL xc16_M xc16_0 rfl (i := 0) (kd := 2) (v := .ref 282) (pcJ := 1) rfl L rfl rfl rfl ?_
  refine j_V.getK xc16_M xc16_1 (ci := 7) (j := 7) rfl K rfl rfl ?_
  refine j_V.ldL xc16_M xc16_4 rfl (i := 1) (kd := 0) (v := .int x1) (pcJ := 5) rfl L rfl rfl rfl ?_
  refine j_V.iaA xc16_M xc16_5 K rfl ?_
  refine j_V.ldL xc16_M xc16_6 rfl (i := 0) (kd := 2) (v := .ref 282) (pcJ := 7) rfl L rfl rfl rfl ?_
  refine j_V.getK xc16_M xc16_7 (ci := 7) (j := 0) rfl K rfl rfl ?_
  refine j_V.getK xc16_M xc16_10 (ci := 2) (j := 9) rfl K rfl rfl ?_
  refine j_V.ldL xc16_M xc16_13 rfl (i := 1) (kd := 0) (v := .int x1) (pcJ := 14) rfl L rfl rfl rfl ?_
  refine j_V.iaA xc16_M xc16_14 K rfl ?_
  refine j_V.cut (b := 37) (stJ := [.int ((if (gA sp x1) < (gA tto x1) then ((gA sp x1) + 1) else ((gA sp x1) - 1)) : Int32)]) (fun v => [(0, .ref 282), (1, .int x1)]) ((if (gA sp x1) < (gA tto x1) then ((gA sp x1) + 1) else ((gA sp x1) - 1)) : Int32) (fun Q kk => ?_) (fun lv L => ?_)
  · refine j_V.icmp xc16_M xc16_15 (t := 29) rfl (fun c15_0 => ?_) (fun c15_0 => ?_)
    · replace c15_0 : ¬ ((gA sp x1) < (gA tto x1)) := jd_ge c15_0
      refine j_V.ldL xc16_M xc16_29 rfl (i := 0) (kd := 2) (v := .ref 282) (pcJ := 30) rfl L rfl rfl rfl ?_
      refine j_V.getK xc16_M xc16_30 (ci := 7) (j := 7) rfl K rfl rfl ?_
      refine j_V.ldL xc16_M xc16_33 rfl (i := 1) (kd := 0) (v := .int x1) (pcJ := 34) rfl L rfl rfl rfl ?_
      refine j_V.iaA xc16_M xc16_34 K rfl ?_
      refine j_V.one xc16_M xc16_35 (by decide) (pcJ := 36) (stJ := [.int 1, .int (gA sp x1)]) rfl ?_
      refine j_V.one xc16_M xc16_36 (by decide) (pcJ := 37) (stJ := [.int ((gA sp x1) - 1)]) rfl ?_
      exact Eq.subst (motive := fun z => j_V jP _ 83 37 _ (.int z :: []) h Q) (show ((if (gA sp x1) < (gA tto x1) then ((gA sp x1) + 1) else ((gA sp x1) - 1)) : Int32) = ((gA sp x1) - 1) from (if_neg c15_0).trans (rfl)) (kk _ L)
    · replace c15_0 : (gA sp x1) < (gA tto x1) := jd_gen c15_0
      refine j_V.ldL xc16_M xc16_18 rfl (i := 0) (kd := 2) (v := .ref 282) (pcJ := 19) rfl L rfl rfl rfl ?_
      refine j_V.getK xc16_M xc16_19 (ci := 7) (j := 7) rfl K rfl rfl ?_
      refine j_V.ldL xc16_M xc16_22 rfl (i := 1) (kd := 0) (v := .int x1) (pcJ := 23) rfl L rfl rfl rfl ?_
      refine j_V.iaA xc16_M xc16_23 K rfl ?_
      refine j_V.one xc16_M xc16_24 (by decide) (pcJ := 25) (stJ := [.int 1, .int (gA sp x1)]) rfl ?_
      refine j_V.one xc16_M xc16_25 (by decide) (pcJ := 26) (stJ := [.int ((gA sp x1) + 1)]) rfl ?_
      refine j_V.gto xc16_M xc16_26 (t := 37) rfl ?_
      exact Eq.subst (motive := fun z => j_V jP _ 83 37 _ (.int z :: []) h Q) (show ((if (gA sp x1) < (gA tto x1) then ((gA sp x1) + 1) else ((gA sp x1) - 1)) : Int32) = ((gA sp x1) + 1) from (if_pos c15_0).trans (rfl)) (kk _ L)
  exact j_V.ri xc16_M xc16_37 ⟨congrArg (fun z => some (Value.int z)) (Eq.symm (show (x_nextStation sp tto x1) = ((if (gA sp x1) < (gA tto x1) then ((gA sp x1) + 1) else ((gA sp x1) - 1)) : Int32) from rfl)), rfl⟩
set_option maxRecDepth 100000 in
theorem xc17_M : j_meth jP 84 = some (yX7_sectionAhead, cX7_sectionAhead, 2, (some .int), 1, false, 7) := rfl
set_option maxRecDepth 100000 in
theorem xc17_0 : j_code jP 84 0 = some (.aload_n 0) := rfl
set_option maxRecDepth 100000 in
theorem xc17_1 : j_code jP 84 1 = some (.getfield 21) := rfl
set_option maxRecDepth 100000 in
theorem xc17_4 : j_code jP 84 4 = some (.iload_n 1) := rfl
set_option maxRecDepth 100000 in
theorem xc17_5 : j_code jP 84 5 = some (.iaload) := rfl
set_option maxRecDepth 100000 in
theorem xc17_6 : j_code jP 84 6 = some (.aload_n 0) := rfl
set_option maxRecDepth 100000 in
theorem xc17_7 : j_code jP 84 7 = some (.getfield 64) := rfl
set_option maxRecDepth 100000 in
theorem xc17_10 : j_code jP 84 10 = some (.getfield 112) := rfl
set_option maxRecDepth 100000 in
theorem xc17_13 : j_code jP 84 13 = some (.iload_n 1) := rfl
set_option maxRecDepth 100000 in
theorem xc17_14 : j_code jP 84 14 = some (.iaload) := rfl
set_option maxRecDepth 100000 in
theorem xc17_15 : j_code jP 84 15 = some (.if_icmp .ge 12) := rfl
set_option maxRecDepth 100000 in
theorem xc17_18 : j_code jP 84 18 = some (.aload_n 0) := rfl
set_option maxRecDepth 100000 in
theorem xc17_19 : j_code jP 84 19 = some (.getfield 21) := rfl
set_option maxRecDepth 100000 in
theorem xc17_22 : j_code jP 84 22 = some (.iload_n 1) := rfl
set_option maxRecDepth 100000 in
theorem xc17_23 : j_code jP 84 23 = some (.iaload) := rfl
set_option maxRecDepth 100000 in
theorem xc17_24 : j_code jP 84 24 = some (.goto 11) := rfl
set_option maxRecDepth 100000 in
theorem xc17_27 : j_code jP 84 27 = some (.aload_n 0) := rfl
set_option maxRecDepth 100000 in
theorem xc17_28 : j_code jP 84 28 = some (.getfield 21) := rfl
set_option maxRecDepth 100000 in
theorem xc17_31 : j_code jP 84 31 = some (.iload_n 1) := rfl
set_option maxRecDepth 100000 in
theorem xc17_32 : j_code jP 84 32 = some (.iaload) := rfl
set_option maxRecDepth 100000 in
theorem xc17_33 : j_code jP 84 33 = some (.iconst 1) := rfl
set_option maxRecDepth 100000 in
theorem xc17_34 : j_code jP 84 34 = some (.isub) := rfl
set_option maxRecDepth 100000 in
theorem xc17_35 : j_code jP 84 35 = some (.ireturn) := rfl
set_option maxRecDepth 1000000 in
theorem xc17_ok {mi : Int32} {shu : Int32} {bus : Int32} {lks : Int32} {sp : List Int32} {ns : Int32} {nt : Int32} {cel : Int32} {tto : List Int32} {x1 : Int32} {d : Nat} {h h0 : J_H} (K : KN h [(282, .inl (7, [.ref 327, .int mi, .int shu, .int bus, .ref 283, .ref 284, .ref 285, .ref 286, .ref 287, .ref 288, .ref 289, .ref 290, .ref 291, .ref 292, .ref 293, .int lks, .ref 294, .ref 295, .ref 298])), (286, .inr (.inl (0, sp))), (327, .inl (2, [.int ns, .ref 328, .ref 329, .ref 330, .ref 331, .int nt, .ref 332, .ref 333, .ref 334, .ref 335, .ref 336, .ref 337, .ref 338, .int cel, .ref 339, .ref 340, .ref 341, .ref 342])), (335, .inr (.inl (0, tto)))] h0) : j_V jP d 84 0 (lv_args 0 [.ref 282, .int x1]) [] h (fun rv h' => rv = some (.int (x_sectionAhead sp tto x1)) ∧ h' = h) := by
  show j_V jP d 84 0 [(0, .ref 282), (1, .int x1)] [] h _
  obtain ⟨lv, elv, L⟩ : ∃ lv, lv = [(0, .ref 282), (1, .int x1)] ∧ LK lv [(0, .ref 282), (1, .int x1)] := ⟨_, rfl, LK.rf⟩
  rw [← elv]
  clear elv
  refine j_V.ldL xc17_M xc17_0 rfl (i := 0) (kd := 2) (v := .ref 282) (pcJ := 1) rfl L rfl rfl rfl ?_
  refine j_V.getK xc17_M xc17_1 (ci := 7) (j := 7) rfl K rfl rfl ?_
  refine j_V.ldL xc17_M xc17_4 rfl (i := 1) (kd := 0) (v := .int x1) (pcJ := 5) rfl L rfl rfl rfl ?_
  refine j_V.iaA xc17_M xc17_5 K rfl ?_
  refine j_V.ldL xc17_M xc17_6 rfl (i := 0) (kd := 2) (v := .ref 282) (pcJ := 7) rfl L rfl rfl rfl ?_
  refine j_V.getK xc17_M xc17_7 (ci := 7) (j := 0) rfl K rfl rfl ?_
  refine j_V.getK xc17_M xc17_10 (ci := 2) (j := 9) rfl K rfl rfl ?_
  refine j_V.ldL xc17_M xc17_13 rfl (i := 1) (kd := 0) (v := .int x1) (pcJ := 14) rfl L rfl rfl rfl ?_
  refine j_V.iaA xc17_M xc17_14 K rfl ?_
  refine j_V.cut (b := 35) (stJ := [.int ((if (gA sp x1) < (gA tto x1) then (gA sp x1) else ((gA sp x1) - 1)) : Int32)]) (fun v => [(0, .ref 282), (1, .int x1)]) ((if (gA sp x1) < (gA tto x1) then (gA sp x1) else ((gA sp x1) - 1)) : Int32) (fun Q kk => ?_) (fun lv L => ?_)
  · refine j_V.icmp xc17_M xc17_15 (t := 27) rfl (fun c15_0 => ?_) (fun c15_0 => ?_)
    · replace c15_0 : ¬ ((gA sp x1) < (gA tto x1)) := jd_ge c15_0
      refine j_V.ldL xc17_M xc17_27 rfl (i := 0) (kd := 2) (v := .ref 282) (pcJ := 28) rfl L rfl rfl rfl ?_
      refine j_V.getK xc17_M xc17_28 (ci := 7) (j := 7) rfl K rfl rfl ?_
      refine j_V.ldL xc17_M xc17_31 rfl (i := 1) (kd := 0) (v := .int x1) (pcJ := 32) rfl L rfl rfl rfl ?_
      refine j_V.iaA xc17_M xc17_32 K rfl ?_
      refine j_V.one xc17_M xc17_33 (by decide) (pcJ := 34) (stJ := [.int 1, .int (gA sp x1)]) rfl ?_
      refine j_V.one xc17_M xc17_34 (by decide) (pcJ := 35) (stJ := [.int ((gA sp x1) - 1)]) rfl ?_
      exact Eq.subst (motive := fun z => j_V jP _ 84 35 _ (.int z :: []) h Q) (show ((if (gA sp x1) < (gA tto x1) then (gA sp x1) else ((gA sp x1) - 1)) : Int32) = ((gA sp x1) - 1) from (if_neg c15_0).trans (rfl)) (kk _ L)
    · replace c15_0 : (gA sp x1) < (gA tto x1) := jd_gen c15_0
      refine j_V.ldL xc17_M xc17_18 rfl (i := 0) (kd := 2) (v := .ref 282) (pcJ := 19) rfl L rfl rfl rfl ?_
      refine j_V.getK xc17_M xc17_19 (ci := 7) (j := 7) rfl K rfl rfl ?_
      refine j_V.ldL xc17_M xc17_22 rfl (i := 1) (kd := 0) (v := .int x1) (pcJ := 23) rfl L rfl rfl rfl ?_
      refine j_V.iaA xc17_M xc17_23 K rfl ?_
      refine j_V.gto xc17_M xc17_24 (t := 35) rfl ?_
      exact Eq.subst (motive := fun z => j_V jP _ 84 35 _ (.int z :: []) h Q) (show ((if (gA sp x1) < (gA tto x1) then (gA sp x1) else ((gA sp x1) - 1)) : Int32) = (gA sp x1) from (if_pos c15_0).trans (rfl)) (kk _ L)
  exact j_V.ri xc17_M xc17_35 ⟨congrArg (fun z => some (Value.int z)) (Eq.symm (show (x_sectionAhead sp tto x1) = ((if (gA sp x1) < (gA tto x1) then (gA sp x1) else ((gA sp x1) - 1)) : Int32) from rfl)), rfl⟩
set_option maxRecDepth 100000 in
theorem xc18_M : j_meth jP 86 = some (yX7_freeCell, cX7_freeCell, 6, (some .int), 2, false, 7) := rfl
set_option maxRecDepth 100000 in
theorem xc18_0 : j_code jP 86 0 = some (.aload_n 0) := rfl
set_option maxRecDepth 100000 in
theorem xc18_1 : j_code jP 86 1 = some (.getfield 64) := rfl
set_option maxRecDepth 100000 in
theorem xc18_4 : j_code jP 86 4 = some (.getfield 149) := rfl
set_option maxRecDepth 100000 in
theorem xc18_7 : j_code jP 86 7 = some (.iload_n 1) := rfl
set_option maxRecDepth 100000 in
theorem xc18_8 : j_code jP 86 8 = some (.iaload) := rfl
set_option maxRecDepth 100000 in
theorem xc18_9 : j_code jP 86 9 = some (.aload_n 0) := rfl
set_option maxRecDepth 100000 in
theorem xc18_10 : j_code jP 86 10 = some (.getfield 75) := rfl
set_option maxRecDepth 100000 in
theorem xc18_13 : j_code jP 86 13 = some (.iconst (-1)) := rfl
set_option maxRecDepth 100000 in
theorem xc18_14 : j_code jP 86 14 = some (.ixor) := rfl
set_option maxRecDepth 100000 in
theorem xc18_15 : j_code jP 86 15 = some (.iand) := rfl
set_option maxRecDepth 100000 in
theorem xc18_16 : j_code jP 86 16 = some (.aload_n 0) := rfl
set_option maxRecDepth 100000 in
theorem xc18_17 : j_code jP 86 17 = some (.getfield 72) := rfl
set_option maxRecDepth 100000 in
theorem xc18_20 : j_code jP 86 20 = some (.iconst (-1)) := rfl
set_option maxRecDepth 100000 in
theorem xc18_21 : j_code jP 86 21 = some (.ixor) := rfl
set_option maxRecDepth 100000 in
theorem xc18_22 : j_code jP 86 22 = some (.iand) := rfl
set_option maxRecDepth 100000 in
theorem xc18_23 : j_code jP 86 23 = some (.istore_n 3) := rfl
set_option maxRecDepth 100000 in
theorem xc18_24 : j_code jP 86 24 = some (.iconst (-1)) := rfl
set_option maxRecDepth 100000 in
theorem xc18_25 : j_code jP 86 25 = some (.istore 4) := rfl
set_option maxRecDepth 100000 in
theorem xc18_27 : j_code jP 86 27 = some (.iload_n 2) := rfl
set_option maxRecDepth 100000 in
theorem xc18_28 : j_code jP 86 28 = some (.iconst 3) := rfl
set_option maxRecDepth 100000 in
theorem xc18_29 : j_code jP 86 29 = some (.imul) := rfl
set_option maxRecDepth 100000 in
theorem xc18_30 : j_code jP 86 30 = some (.istore 5) := rfl
set_option maxRecDepth 100000 in
theorem xc18_32 : j_code jP 86 32 = some (.iload 5) := rfl
set_option maxRecDepth 100000 in
theorem xc18_34 : j_code jP 86 34 = some (.iload_n 2) := rfl
set_option maxRecDepth 100000 in
theorem xc18_35 : j_code jP 86 35 = some (.iconst 1) := rfl
set_option maxRecDepth 100000 in
theorem xc18_36 : j_code jP 86 36 = some (.iadd) := rfl
set_option maxRecDepth 100000 in
theorem xc18_37 : j_code jP 86 37 = some (.iconst 3) := rfl
set_option maxRecDepth 100000 in
theorem xc18_38 : j_code jP 86 38 = some (.imul) := rfl
set_option maxRecDepth 100000 in
theorem xc18_39 : j_code jP 86 39 = some (.if_icmp .ge 51) := rfl
set_option maxRecDepth 100000 in
theorem xc18_42 : j_code jP 86 42 = some (.iload_n 3) := rfl
set_option maxRecDepth 100000 in
theorem xc18_43 : j_code jP 86 43 = some (.iload 5) := rfl
set_option maxRecDepth 100000 in
theorem xc18_45 : j_code jP 86 45 = some (.ishr) := rfl
set_option maxRecDepth 100000 in
theorem xc18_46 : j_code jP 86 46 = some (.iconst 1) := rfl
set_option maxRecDepth 100000 in
theorem xc18_47 : j_code jP 86 47 = some (.iand) := rfl
set_option maxRecDepth 100000 in
theorem xc18_48 : j_code jP 86 48 = some (.ifCond .eq 36) := rfl
set_option maxRecDepth 100000 in
theorem xc18_51 : j_code jP 86 51 = some (.iload 4) := rfl
set_option maxRecDepth 100000 in
theorem xc18_53 : j_code jP 86 53 = some (.iconst (-1)) := rfl
set_option maxRecDepth 100000 in
theorem xc18_54 : j_code jP 86 54 = some (.if_icmp .eq 26) := rfl
set_option maxRecDepth 100000 in
theorem xc18_57 : j_code jP 86 57 = some (.aload_n 0) := rfl
set_option maxRecDepth 100000 in
theorem xc18_58 : j_code jP 86 58 = some (.getfield 64) := rfl
set_option maxRecDepth 100000 in
theorem xc18_61 : j_code jP 86 61 = some (.getfield 167) := rfl
set_option maxRecDepth 100000 in
theorem xc18_64 : j_code jP 86 64 = some (.iload 5) := rfl
set_option maxRecDepth 100000 in
theorem xc18_66 : j_code jP 86 66 = some (.iaload) := rfl
set_option maxRecDepth 100000 in
theorem xc18_67 : j_code jP 86 67 = some (.aload_n 0) := rfl
set_option maxRecDepth 100000 in
theorem xc18_68 : j_code jP 86 68 = some (.getfield 64) := rfl
set_option maxRecDepth 100000 in
theorem xc18_71 : j_code jP 86 71 = some (.getfield 167) := rfl
set_option maxRecDepth 100000 in
theorem xc18_74 : j_code jP 86 74 = some (.iload 4) := rfl
set_option maxRecDepth 100000 in
theorem xc18_76 : j_code jP 86 76 = some (.iaload) := rfl
set_option maxRecDepth 100000 in
theorem xc18_77 : j_code jP 86 77 = some (.if_icmp .ge 7) := rfl
set_option maxRecDepth 100000 in
theorem xc18_80 : j_code jP 86 80 = some (.iload 5) := rfl
set_option maxRecDepth 100000 in
theorem xc18_82 : j_code jP 86 82 = some (.istore 4) := rfl
set_option maxRecDepth 100000 in
theorem xc18_84 : j_code jP 86 84 = some (.iinc 5 1) := rfl
set_option maxRecDepth 100000 in
theorem xc18_87 : j_code jP 86 87 = some (.goto (-55)) := rfl
set_option maxRecDepth 100000 in
theorem xc18_90 : j_code jP 86 90 = some (.iload 4) := rfl
set_option maxRecDepth 100000 in
theorem xc18_92 : j_code jP 86 92 = some (.ireturn) := rfl
set_option maxRecDepth 1000000 in
theorem xc18_ok_l32 {mi : Int32} {shu : Int32} {bus : Int32} {lks : Int32} {ns : Int32} {nt : Int32} {cel : Int32} {len : List Int32} {fit : List Int32} {v1 v2 v3 : Int32} {d : Nat} {h h0 : J_H} : ∀ (f : Nat) (v5 v4 : Int32) {lv : J_L}, lpN ((v2 + 1) * 3) v5 = f → LK lv [(0, .ref 282), (1, .int v1), (2, .int v2), (3, .int v3), (4, .int v4), (5, .int v5)] → KN h [(282, .inl (7, [.ref 327, .int mi, .int shu, .int bus, .ref 283, .ref 284, .ref 285, .ref 286, .ref 287, .ref 288, .ref 289, .ref 290, .ref 291, .ref 292, .ref 293, .int lks, .ref 294, .ref 295, .ref 298])), (327, .inl (2, [.int ns, .ref 328, .ref 329, .ref 330, .ref 331, .int nt, .ref 332, .ref 333, .ref 334, .ref 335, .ref 336, .ref 337, .ref 338, .int cel, .ref 339, .ref 340, .ref 341, .ref 342])), (331, .inr (.inl (0, len))), (339, .inr (.inl (0, fit)))] h0 → j_V jP d 86 32 lv [] h (fun rv h' => rv = some (.int (x_freeCell_l32 len v1 v2 v3 f v5 v4)) ∧ h' = h) := by
  intro f
  induction f with
  | zero =>
    intro v5 v4 lv e L K
    refine j_V.ldL xc18_M xc18_32 rfl (i := 5) (kd := 0) (v := .int v5) (pcJ := 34) rfl L rfl rfl rfl ?_
    refine j_V.ldL xc18_M xc18_34 rfl (i := 2) (kd := 0) (v := .int v2) (pcJ := 35) rfl L rfl rfl rfl ?_
    refine j_V.one xc18_M xc18_35 (by decide) (pcJ := 36) (stJ := [.int 1, .int v2, .int v5]) rfl ?_
    refine j_V.one xc18_M xc18_36 (by decide) (pcJ := 37) (stJ := [.int (v2 + 1), .int v5]) rfl ?_
    refine j_V.one xc18_M xc18_37 (by decide) (pcJ := 38) (stJ := [.int 3, .int (v2 + 1), .int v5]) rfl ?_
    refine j_V.one xc18_M xc18_38 (by decide) (pcJ := 39) (stJ := [.int ((v2 + 1) * 3), .int v5]) rfl ?_
    refine j_V.icmp xc18_M xc18_39 (t := 90) rfl (fun c39_0 => ?_) (fun c39_0 => ?_)
    · replace c39_0 : ¬ (v5 < ((v2 + 1) * 3)) := jd_ge c39_0
      refine j_V.ldL xc18_M xc18_90 rfl (i := 4) (kd := 0) (v := .int v4) (pcJ := 92) rfl L rfl rfl rfl ?_
      exact j_V.ri xc18_M xc18_92 ⟨congrArg (fun z => some (Value.int z)) (Eq.symm (show (x_freeCell_l32 len v1 v2 v3 0 v5 v4) = v4 from rfl)), rfl⟩
    · replace c39_0 : v5 < ((v2 + 1) * 3) := jd_gen c39_0
      exact absurd c39_0 (lpN_z e)
  | succ f ih =>
    intro v5 v4 lv e L K
    refine j_V.ldL xc18_M xc18_32 rfl (i := 5) (kd := 0) (v := .int v5) (pcJ := 34) rfl L rfl rfl rfl ?_
    refine j_V.ldL xc18_M xc18_34 rfl (i := 2) (kd := 0) (v := .int v2) (pcJ := 35) rfl L rfl rfl rfl ?_
    refine j_V.one xc18_M xc18_35 (by decide) (pcJ := 36) (stJ := [.int 1, .int v2, .int v5]) rfl ?_
    refine j_V.one xc18_M xc18_36 (by decide) (pcJ := 37) (stJ := [.int (v2 + 1), .int v5]) rfl ?_
    refine j_V.one xc18_M xc18_37 (by decide) (pcJ := 38) (stJ := [.int 3, .int (v2 + 1), .int v5]) rfl ?_
    refine j_V.one xc18_M xc18_38 (by decide) (pcJ := 39) (stJ := [.int ((v2 + 1) * 3), .int v5]) rfl ?_
    refine j_V.icmp xc18_M xc18_39 (t := 90) rfl (fun c39_0 => ?_) (fun c39_0 => ?_)
    · replace c39_0 : ¬ (v5 < ((v2 + 1) * 3)) := jd_ge c39_0
      exact absurd (lpN_s e) c39_0
    · replace c39_0 : v5 < ((v2 + 1) * 3) := jd_gen c39_0
      refine j_V.ldL xc18_M xc18_42 rfl (i := 3) (kd := 0) (v := .int v3) (pcJ := 43) rfl L rfl rfl rfl ?_
      refine j_V.ldL xc18_M xc18_43 rfl (i := 5) (kd := 0) (v := .int v5) (pcJ := 45) rfl L rfl rfl rfl ?_
      refine j_V.one xc18_M xc18_45 (by decide) (pcJ := 46) (stJ := [.int (v3 >>> (v5 &&& 31))]) rfl ?_
      refine j_V.one xc18_M xc18_46 (by decide) (pcJ := 47) (stJ := [.int 1, .int (v3 >>> (v5 &&& 31))]) rfl ?_
      refine j_V.one xc18_M xc18_47 (by decide) (pcJ := 48) (stJ := [.int ((v3 >>> (v5 &&& 31)) &&& 1)]) rfl ?_
      refine j_V.cut (b := 84) (stJ := []) (fun v => [(0, .ref 282), (1, .int v1), (2, .int v2), (3, .int v3), (4, .int v), (5, .int v5)]) ((if ((v3 >>> (v5 &&& 31)) &&& 1) = 0 then v4 else (if v4 = (-1) then v5 else (if (gA len v5) < (gA len v4) then v5 else v4))) : Int32) (fun Q kk => ?_) (fun lv L => ?_)
      · refine j_V.ifc xc18_M xc18_48 (t := 84) rfl (fun c48_0 => ?_) (fun c48_0 => ?_)
        · replace c48_0 : ((v3 >>> (v5 &&& 31)) &&& 1) = 0 := jd_eq c48_0
          exact kk _ (Eq.subst (motive := fun z => LK _ ((fun v => [(0, .ref 282), (1, .int v1), (2, .int v2), (3, .int v3), (4, .int v), (5, .int v5)]) z)) (show v4 = ((if ((v3 >>> (v5 &&& 31)) &&& 1) = 0 then v4 else (if v4 = (-1) then v5 else (if (gA len v5) < (gA len v4) then v5 else v4))) : Int32) from Eq.symm ((if_pos c48_0).trans (rfl))) L)
        · replace c48_0 : ¬ (((v3 >>> (v5 &&& 31)) &&& 1) = 0) := jd_eqn c48_0
          refine j_V.ldL xc18_M xc18_51 rfl (i := 4) (kd := 0) (v := .int v4) (pcJ := 53) rfl L rfl rfl rfl ?_
          refine j_V.one xc18_M xc18_53 (by decide) (pcJ := 54) (stJ := [.int (-1), .int v4]) rfl ?_
          refine j_V.icmp xc18_M xc18_54 (t := 80) rfl (fun c54_1 => ?_) (fun c54_1 => ?_)
          · replace c54_1 : v4 = (-1) := jd_eq c54_1
            refine j_V.ldL xc18_M xc18_80 rfl (i := 5) (kd := 0) (v := .int v5) (pcJ := 82) rfl L rfl rfl rfl ?_
            refine j_V.stL xc18_M xc18_82 rfl (i := 4) (kd := 0) (kl' := [(0, .ref 282), (1, .int v1), (2, .int v2), (3, .int v3), (4, .int v5), (5, .int v5)]) (pcJ := 84) rfl L rfl (by decide) rfl rfl rfl (fun lv L => ?_)
            exact kk _ (Eq.subst (motive := fun z => LK _ ((fun v => [(0, .ref 282), (1, .int v1), (2, .int v2), (3, .int v3), (4, .int v), (5, .int v5)]) z)) (show v5 = ((if ((v3 >>> (v5 &&& 31)) &&& 1) = 0 then v4 else (if v4 = (-1) then v5 else (if (gA len v5) < (gA len v4) then v5 else v4))) : Int32) from Eq.symm ((if_neg c48_0).trans ((if_pos c54_1).trans (rfl)))) L)
          · replace c54_1 : ¬ (v4 = (-1)) := jd_eqn c54_1
            refine j_V.ldL xc18_M xc18_57 rfl (i := 0) (kd := 2) (v := .ref 282) (pcJ := 58) rfl L rfl rfl rfl ?_
            refine j_V.getK xc18_M xc18_58 (ci := 7) (j := 0) rfl K rfl rfl ?_
            refine j_V.getK xc18_M xc18_61 (ci := 2) (j := 4) rfl K rfl rfl ?_
            refine j_V.ldL xc18_M xc18_64 rfl (i := 5) (kd := 0) (v := .int v5) (pcJ := 66) rfl L rfl rfl rfl ?_
            refine j_V.iaA xc18_M xc18_66 K rfl ?_
            refine j_V.ldL xc18_M xc18_67 rfl (i := 0) (kd := 2) (v := .ref 282) (pcJ := 68) rfl L rfl rfl rfl ?_
            refine j_V.getK xc18_M xc18_68 (ci := 7) (j := 0) rfl K rfl rfl ?_
            refine j_V.getK xc18_M xc18_71 (ci := 2) (j := 4) rfl K rfl rfl ?_
            refine j_V.ldL xc18_M xc18_74 rfl (i := 4) (kd := 0) (v := .int v4) (pcJ := 76) rfl L rfl rfl rfl ?_
            refine j_V.iaA xc18_M xc18_76 K rfl ?_
            refine j_V.icmp xc18_M xc18_77 (t := 84) rfl (fun c77_2 => ?_) (fun c77_2 => ?_)
            · replace c77_2 : ¬ ((gA len v5) < (gA len v4)) := jd_ge c77_2
              exact kk _ (Eq.subst (motive := fun z => LK _ ((fun v => [(0, .ref 282), (1, .int v1), (2, .int v2), (3, .int v3), (4, .int v), (5, .int v5)]) z)) (show v4 = ((if ((v3 >>> (v5 &&& 31)) &&& 1) = 0 then v4 else (if v4 = (-1) then v5 else (if (gA len v5) < (gA len v4) then v5 else v4))) : Int32) from Eq.symm ((if_neg c48_0).trans ((if_neg c54_1).trans ((if_neg c77_2).trans (rfl))))) L)
            · replace c77_2 : (gA len v5) < (gA len v4) := jd_gen c77_2
              refine j_V.ldL xc18_M xc18_80 rfl (i := 5) (kd := 0) (v := .int v5) (pcJ := 82) rfl L rfl rfl rfl ?_
              refine j_V.stL xc18_M xc18_82 rfl (i := 4) (kd := 0) (kl' := [(0, .ref 282), (1, .int v1), (2, .int v2), (3, .int v3), (4, .int v5), (5, .int v5)]) (pcJ := 84) rfl L rfl (by decide) rfl rfl rfl (fun lv L => ?_)
              exact kk _ (Eq.subst (motive := fun z => LK _ ((fun v => [(0, .ref 282), (1, .int v1), (2, .int v2), (3, .int v3), (4, .int v), (5, .int v5)]) z)) (show v5 = ((if ((v3 >>> (v5 &&& 31)) &&& 1) = 0 then v4 else (if v4 = (-1) then v5 else (if (gA len v5) < (gA len v4) then v5 else v4))) : Int32) from Eq.symm ((if_neg c48_0).trans ((if_neg c54_1).trans ((if_pos c77_2).trans (rfl))))) L)
      refine j_V.inL xc18_M xc18_84 (i := 5) (kl' := [(0, .ref 282), (1, .int v1), (2, .int v2), (3, .int v3), (4, .int ((if ((v3 >>> (v5 &&& 31)) &&& 1) = 0 then v4 else (if v4 = (-1) then v5 else (if (gA len v5) < (gA len v4) then v5 else v4))) : Int32)), (5, .int (v5 + 1))]) (pcJ := 87) L rfl rfl rfl rfl (fun lv L => ?_)
      refine j_V.gto xc18_M xc18_87 (t := 32) rfl ?_
      refine j_V.mono (ih ((v5 + 1)) (((if ((v3 >>> (v5 &&& 31)) &&& 1) = 0 then v4 else (if v4 = (-1) then v5 else (if (gA len v5) < (gA len v4) then v5 else v4))) : Int32)) (lpN_n e) L K) ?_
      rintro r hz ⟨rfl, rfl⟩
      exact ⟨congrArg (fun z => some (Value.int z)) (Eq.symm (show (x_freeCell_l32 len v1 v2 v3 (f + 1) v5 v4) = (x_freeCell_l32 len v1 v2 v3 f ((v5 + 1)) (((if ((v3 >>> (v5 &&& 31)) &&& 1) = 0 then v4 else (if v4 = (-1) then v5 else (if (gA len v5) < (gA len v4) then v5 else v4))) : Int32))) from rfl)), rfl⟩
set_option maxRecDepth 1000000 in
theorem xc18_ok {mi : Int32} {shu : Int32} {bus : Int32} {lks : Int32} {ns : Int32} {nt : Int32} {cel : Int32} {len : List Int32} {fit : List Int32} {x1 x2 : Int32} {d : Nat} {h h0 : J_H} (K : KN h [(282, .inl (7, [.ref 327, .int mi, .int shu, .int bus, .ref 283, .ref 284, .ref 285, .ref 286, .ref 287, .ref 288, .ref 289, .ref 290, .ref 291, .ref 292, .ref 293, .int lks, .ref 294, .ref 295, .ref 298])), (327, .inl (2, [.int ns, .ref 328, .ref 329, .ref 330, .ref 331, .int nt, .ref 332, .ref 333, .ref 334, .ref 335, .ref 336, .ref 337, .ref 338, .int cel, .ref 339, .ref 340, .ref 341, .ref 342])), (331, .inr (.inl (0, len))), (339, .inr (.inl (0, fit)))] h0) : j_V jP d 86 0 (lv_args 0 [.ref 282, .int x1, .int x2]) [] h (fun rv h' => rv = some (.int (x_freeCell shu bus len fit x1 x2)) ∧ h' = h) := by
  show j_V jP d 86 0 [(0, .ref 282), (1, .int x1), (2, .int x2)] [] h _
  obtain ⟨lv, elv, L⟩ : ∃ lv, lv = [(0, .ref 282), (1, .int x1), (2, .int x2)] ∧ LK lv [(0, .ref 282), (1, .int x1), (2, .int x2)] := ⟨_, rfl, LK.rf⟩
  rw [← elv]
  clear elv
  refine j_V.ldL xc18_M xc18_0 rfl (i := 0) (kd := 2) (v := .ref 282) (pcJ := 1) rfl L rfl rfl rfl ?_
  refine j_V.getK xc18_M xc18_1 (ci := 7) (j := 0) rfl K rfl rfl ?_
  refine j_V.getK xc18_M xc18_4 (ci := 2) (j := 14) rfl K rfl rfl ?_
  refine j_V.ldL xc18_M xc18_7 rfl (i := 1) (kd := 0) (v := .int x1) (pcJ := 8) rfl L rfl rfl rfl ?_
  refine j_V.iaA xc18_M xc18_8 K rfl ?_
  refine j_V.ldL xc18_M xc18_9 rfl (i := 0) (kd := 2) (v := .ref 282) (pcJ := 10) rfl L rfl rfl rfl ?_
  refine j_V.getK xc18_M xc18_10 (ci := 7) (j := 3) rfl K rfl rfl ?_
  refine j_V.one xc18_M xc18_13 (by decide) (pcJ := 14) (stJ := [.int (-1), .int bus, .int (gA fit x1)]) rfl ?_
  refine j_V.one xc18_M xc18_14 (by decide) (pcJ := 15) (stJ := [.int (bus ^^^ (-1)), .int (gA fit x1)]) rfl ?_
  refine j_V.one xc18_M xc18_15 (by decide) (pcJ := 16) (stJ := [.int ((gA fit x1) &&& (bus ^^^ (-1)))]) rfl ?_
  refine j_V.ldL xc18_M xc18_16 rfl (i := 0) (kd := 2) (v := .ref 282) (pcJ := 17) rfl L rfl rfl rfl ?_
  refine j_V.getK xc18_M xc18_17 (ci := 7) (j := 2) rfl K rfl rfl ?_
  refine j_V.one xc18_M xc18_20 (by decide) (pcJ := 21) (stJ := [.int (-1), .int shu, .int ((gA fit x1) &&& (bus ^^^ (-1)))]) rfl ?_
  refine j_V.one xc18_M xc18_21 (by decide) (pcJ := 22) (stJ := [.int (shu ^^^ (-1)), .int ((gA fit x1) &&& (bus ^^^ (-1)))]) rfl ?_
  refine j_V.one xc18_M xc18_22 (by decide) (pcJ := 23) (stJ := [.int (((gA fit x1) &&& (bus ^^^ (-1))) &&& (shu ^^^ (-1)))]) rfl ?_
  refine j_V.stL xc18_M xc18_23 rfl (i := 3) (kd := 0) (kl' := [(0, .ref 282), (1, .int x1), (2, .int x2), (3, .int (((gA fit x1) &&& (bus ^^^ (-1))) &&& (shu ^^^ (-1))))]) (pcJ := 24) rfl L rfl (by decide) rfl rfl rfl (fun lv L => ?_)
  refine j_V.one xc18_M xc18_24 (by decide) (pcJ := 25) (stJ := [.int (-1)]) rfl ?_
  refine j_V.stL xc18_M xc18_25 rfl (i := 4) (kd := 0) (kl' := [(0, .ref 282), (1, .int x1), (2, .int x2), (3, .int (((gA fit x1) &&& (bus ^^^ (-1))) &&& (shu ^^^ (-1)))), (4, .int (-1))]) (pcJ := 27) rfl L rfl (by decide) rfl rfl rfl (fun lv L => ?_)
  refine j_V.ldL xc18_M xc18_27 rfl (i := 2) (kd := 0) (v := .int x2) (pcJ := 28) rfl L rfl rfl rfl ?_
  refine j_V.one xc18_M xc18_28 (by decide) (pcJ := 29) (stJ := [.int 3, .int x2]) rfl ?_
  refine j_V.one xc18_M xc18_29 (by decide) (pcJ := 30) (stJ := [.int (x2 * 3)]) rfl ?_
  refine j_V.stL xc18_M xc18_30 rfl (i := 5) (kd := 0) (kl' := [(0, .ref 282), (1, .int x1), (2, .int x2), (3, .int (((gA fit x1) &&& (bus ^^^ (-1))) &&& (shu ^^^ (-1)))), (4, .int (-1)), (5, .int (x2 * 3))]) (pcJ := 32) rfl L rfl (by decide) rfl rfl rfl (fun lv L => ?_)
  refine j_V.mono (xc18_ok_l32 _ ((x2 * 3)) ((-1)) rfl L K) ?_
  rintro r hz ⟨rfl, rfl⟩
  exact ⟨congrArg (fun z => some (Value.int z)) (Eq.symm (show (x_freeCell shu bus len fit x1 x2) = (x_freeCell_l32 len x1 x2 ((((gA fit x1) &&& (bus ^^^ (-1))) &&& (shu ^^^ (-1)))) (lpN ((x2 + 1) * 3) ((x2 * 3))) ((x2 * 3)) (-1)) from rfl)), rfl⟩
set_option maxRecDepth 100000 in
theorem xc19_M : j_meth jP 85 = some (yX7_target, cX7_target, 3, (some .int), 1, false, 7) := rfl
set_option maxRecDepth 100000 in
theorem xc19_0 : j_code jP 85 0 = some (.aload_n 0) := rfl
set_option maxRecDepth 100000 in
theorem xc19_1 : j_code jP 85 1 = some (.getfield 18) := rfl
set_option maxRecDepth 100000 in
theorem xc19_4 : j_code jP 85 4 = some (.iload_n 1) := rfl
set_option maxRecDepth 100000 in
theorem xc19_5 : j_code jP 85 5 = some (.iaload) := rfl
set_option maxRecDepth 100000 in
theorem xc19_6 : j_code jP 85 6 = some (.ifCond .ne 18) := rfl
set_option maxRecDepth 100000 in
theorem xc19_9 : j_code jP 85 9 = some (.aload_n 0) := rfl
set_option maxRecDepth 100000 in
theorem xc19_10 : j_code jP 85 10 = some (.iload_n 1) := rfl
set_option maxRecDepth 100000 in
theorem xc19_11 : j_code jP 85 11 = some (.aload_n 0) := rfl
set_option maxRecDepth 100000 in
theorem xc19_12 : j_code jP 85 12 = some (.getfield 64) := rfl
set_option maxRecDepth 100000 in
theorem xc19_15 : j_code jP 85 15 = some (.getfield 161) := rfl
set_option maxRecDepth 100000 in
theorem xc19_18 : j_code jP 85 18 = some (.iload_n 1) := rfl
set_option maxRecDepth 100000 in
theorem xc19_19 : j_code jP 85 19 = some (.iaload) := rfl
set_option maxRecDepth 100000 in
theorem xc19_20 : j_code jP 85 20 = some (.invokevirtual 164) := rfl
set_option maxRecDepth 100000 in
theorem xc19_23 : j_code jP 85 23 = some (.ireturn) := rfl
set_option maxRecDepth 100000 in
theorem xc19_24 : j_code jP 85 24 = some (.aload_n 0) := rfl
set_option maxRecDepth 100000 in
theorem xc19_25 : j_code jP 85 25 = some (.getfield 33) := rfl
set_option maxRecDepth 100000 in
theorem xc19_28 : j_code jP 85 28 = some (.aload_n 0) := rfl
set_option maxRecDepth 100000 in
theorem xc19_29 : j_code jP 85 29 = some (.iload_n 1) := rfl
set_option maxRecDepth 100000 in
theorem xc19_30 : j_code jP 85 30 = some (.invokevirtual 146) := rfl
set_option maxRecDepth 100000 in
theorem xc19_33 : j_code jP 85 33 = some (.iaload) := rfl
set_option maxRecDepth 100000 in
theorem xc19_34 : j_code jP 85 34 = some (.iconst (-1)) := rfl
set_option maxRecDepth 100000 in
theorem xc19_35 : j_code jP 85 35 = some (.if_icmp .eq 6) := rfl
set_option maxRecDepth 100000 in
theorem xc19_38 : j_code jP 85 38 = some (.bipush (-2)) := rfl
set_option maxRecDepth 100000 in
theorem xc19_40 : j_code jP 85 40 = some (.ireturn) := rfl
set_option maxRecDepth 100000 in
theorem xc19_41 : j_code jP 85 41 = some (.aload_n 0) := rfl
set_option maxRecDepth 100000 in
theorem xc19_42 : j_code jP 85 42 = some (.iload_n 1) := rfl
set_option maxRecDepth 100000 in
theorem xc19_43 : j_code jP 85 43 = some (.invokevirtual 152) := rfl
set_option maxRecDepth 100000 in
theorem xc19_46 : j_code jP 85 46 = some (.istore_n 2) := rfl
set_option maxRecDepth 100000 in
theorem xc19_47 : j_code jP 85 47 = some (.iload_n 2) := rfl
set_option maxRecDepth 100000 in
theorem xc19_48 : j_code jP 85 48 = some (.aload_n 0) := rfl
set_option maxRecDepth 100000 in
theorem xc19_49 : j_code jP 85 49 = some (.getfield 64) := rfl
set_option maxRecDepth 100000 in
theorem xc19_52 : j_code jP 85 52 = some (.getfield 112) := rfl
set_option maxRecDepth 100000 in
theorem xc19_55 : j_code jP 85 55 = some (.iload_n 1) := rfl
set_option maxRecDepth 100000 in
theorem xc19_56 : j_code jP 85 56 = some (.iaload) := rfl
set_option maxRecDepth 100000 in
theorem xc19_57 : j_code jP 85 57 = some (.if_icmp .ne 8) := rfl
set_option maxRecDepth 100000 in
theorem xc19_60 : j_code jP 85 60 = some (.bipush 21) := rfl
set_option maxRecDepth 100000 in
theorem xc19_62 : j_code jP 85 62 = some (.goto 9) := rfl
set_option maxRecDepth 100000 in
theorem xc19_65 : j_code jP 85 65 = some (.aload_n 0) := rfl
set_option maxRecDepth 100000 in
theorem xc19_66 : j_code jP 85 66 = some (.iload_n 1) := rfl
set_option maxRecDepth 100000 in
theorem xc19_67 : j_code jP 85 67 = some (.iload_n 2) := rfl
set_option maxRecDepth 100000 in
theorem xc19_68 : j_code jP 85 68 = some (.invokevirtual 164) := rfl
set_option maxRecDepth 100000 in
theorem xc19_71 : j_code jP 85 71 = some (.ireturn) := rfl
set_option maxRecDepth 1000000 in
theorem xc19_ok {mi : Int32} {shu : Int32} {bus : Int32} {lks : Int32} {ph : List Int32} {sp : List Int32} {ri : List Int32} {ns : Int32} {nt : Int32} {cel : Int32} {len : List Int32} {frm : List Int32} {tto : List Int32} {fit : List Int32} {x1 : Int32} {d : Nat} {h h0 : J_H} (K : KN h [(282, .inl (7, [.ref 327, .int mi, .int shu, .int bus, .ref 283, .ref 284, .ref 285, .ref 286, .ref 287, .ref 288, .ref 289, .ref 290, .ref 291, .ref 292, .ref 293, .int lks, .ref 294, .ref 295, .ref 298])), (285, .inr (.inl (0, ph))), (286, .inr (.inl (0, sp))), (290, .inr (.inl (0, ri))), (327, .inl (2, [.int ns, .ref 328, .ref 329, .ref 330, .ref 331, .int nt, .ref 332, .ref 333, .ref 334, .ref 335, .ref 336, .ref 337, .ref 338, .int cel, .ref 339, .ref 340, .ref 341, .ref 342])), (331, .inr (.inl (0, len))), (334, .inr (.inl (0, frm))), (335, .inr (.inl (0, tto))), (339, .inr (.inl (0, fit)))] h0) : j_V jP d 85 0 (lv_args 0 [.ref 282, .int x1]) [] h (fun rv h' => rv = some (.int (x_target shu bus ph sp ri len frm tto fit x1)) ∧ h' = h) := by
  show j_V jP d 85 0 [(0, .ref 282), (1, .int x1)] [] h _
  obtain ⟨lv, elv, L⟩ : ∃ lv, lv = [(0, .ref 282), (1, .int x1)] ∧ LK lv [(0, .ref 282), (1, .int x1)] := ⟨_, rfl, LK.rf⟩
  rw [← elv]
  clear elv
  refine j_V.ldL xc19_M xc19_0 rfl (i := 0) (kd := 2) (v := .ref 282) (pcJ := 1) rfl L rfl rfl rfl ?_
  refine j_V.getK xc19_M xc19_1 (ci := 7) (j := 6) rfl K rfl rfl ?_
  refine j_V.ldL xc19_M xc19_4 rfl (i := 1) (kd := 0) (v := .int x1) (pcJ := 5) rfl L rfl rfl rfl ?_
  refine j_V.iaA xc19_M xc19_5 K rfl ?_
  refine j_V.ifc xc19_M xc19_6 (t := 24) rfl (fun c6_0 => ?_) (fun c6_0 => ?_)
  · replace c6_0 : ¬ ((gA ph x1) = 0) := jd_ne c6_0
    refine j_V.ldL xc19_M xc19_24 rfl (i := 0) (kd := 2) (v := .ref 282) (pcJ := 25) rfl L rfl rfl rfl ?_
    refine j_V.getK xc19_M xc19_25 (ci := 7) (j := 11) rfl K rfl rfl ?_
    refine j_V.ldL xc19_M xc19_28 rfl (i := 0) (kd := 2) (v := .ref 282) (pcJ := 29) rfl L rfl rfl rfl ?_
    refine j_V.ldL xc19_M xc19_29 rfl (i := 1) (kd := 0) (v := .int x1) (pcJ := 30) rfl L rfl rfl rfl ?_
    refine j_V.cl xc19_M xc19_30 rfl (md := 3) (mj := 84) rfl (by decide) xc17_M (As := [.ref 282, .int x1]) (rest := [.ref 290]) (jk_spl3 (K.at rfl) rfl rfl rfl (Nat.le_of_ble_eq_true rfl) (Nat.le_of_ble_eq_true rfl)) (fun d => xc17_ok (K.fi [282, 286, 327, 335] rfl rfl)) ?_
    rintro r hz ⟨rfl, ez⟩
    rw [ez]
    clear ez
    show j_V jP _ 85 33 lv [.int (x_sectionAhead sp tto x1), .ref 290] h _
    refine j_V.iaA xc19_M xc19_33 K rfl ?_
    refine j_V.one xc19_M xc19_34 (by decide) (pcJ := 35) (stJ := [.int (-1), .int (gA ri (x_sectionAhead sp tto x1))]) rfl ?_
    refine j_V.icmp xc19_M xc19_35 (t := 41) rfl (fun c35_1 => ?_) (fun c35_1 => ?_)
    · replace c35_1 : (gA ri (x_sectionAhead sp tto x1)) = (-1) := jd_eq c35_1
      refine j_V.ldL xc19_M xc19_41 rfl (i := 0) (kd := 2) (v := .ref 282) (pcJ := 42) rfl L rfl rfl rfl ?_
      refine j_V.ldL xc19_M xc19_42 rfl (i := 1) (kd := 0) (v := .int x1) (pcJ := 43) rfl L rfl rfl rfl ?_
      refine j_V.cl xc19_M xc19_43 rfl (md := 3) (mj := 83) rfl (by decide) xc16_M (As := [.ref 282, .int x1]) (rest := []) (jk_spl3 (K.at rfl) rfl rfl rfl (Nat.le_of_ble_eq_true rfl) (Nat.le_of_ble_eq_true rfl)) (fun d => xc16_ok (K.fi [282, 286, 327, 335] rfl rfl)) ?_
      rintro r hz ⟨rfl, ez⟩
      rw [ez]
      clear ez
      show j_V jP _ 85 46 lv [.int (x_nextStation sp tto x1)] h _
      refine j_V.stL xc19_M xc19_46 rfl (i := 2) (kd := 0) (kl' := [(0, .ref 282), (1, .int x1), (2, .int (x_nextStation sp tto x1))]) (pcJ := 47) rfl L rfl (by decide) rfl rfl rfl (fun lv L => ?_)
      refine j_V.ldL xc19_M xc19_47 rfl (i := 2) (kd := 0) (v := .int (x_nextStation sp tto x1)) (pcJ := 48) rfl L rfl rfl rfl ?_
      refine j_V.ldL xc19_M xc19_48 rfl (i := 0) (kd := 2) (v := .ref 282) (pcJ := 49) rfl L rfl rfl rfl ?_
      refine j_V.getK xc19_M xc19_49 (ci := 7) (j := 0) rfl K rfl rfl ?_
      refine j_V.getK xc19_M xc19_52 (ci := 2) (j := 9) rfl K rfl rfl ?_
      refine j_V.ldL xc19_M xc19_55 rfl (i := 1) (kd := 0) (v := .int x1) (pcJ := 56) rfl L rfl rfl rfl ?_
      refine j_V.iaA xc19_M xc19_56 K rfl ?_
      refine j_V.cut (b := 71) (stJ := [.int ((if (x_nextStation sp tto x1) = (gA tto x1) then 21 else (x_freeCell shu bus len fit x1 (x_nextStation sp tto x1))) : Int32)]) (fun v => [(0, .ref 282), (1, .int x1), (2, .int (x_nextStation sp tto x1))]) ((if (x_nextStation sp tto x1) = (gA tto x1) then 21 else (x_freeCell shu bus len fit x1 (x_nextStation sp tto x1))) : Int32) (fun Q kk => ?_) (fun lv L => ?_)
      · refine j_V.icmp xc19_M xc19_57 (t := 65) rfl (fun c57_0 => ?_) (fun c57_0 => ?_)
        · replace c57_0 : ¬ ((x_nextStation sp tto x1) = (gA tto x1)) := jd_ne c57_0
          refine j_V.ldL xc19_M xc19_65 rfl (i := 0) (kd := 2) (v := .ref 282) (pcJ := 66) rfl L rfl rfl rfl ?_
          refine j_V.ldL xc19_M xc19_66 rfl (i := 1) (kd := 0) (v := .int x1) (pcJ := 67) rfl L rfl rfl rfl ?_
          refine j_V.ldL xc19_M xc19_67 rfl (i := 2) (kd := 0) (v := .int (x_nextStation sp tto x1)) (pcJ := 68) rfl L rfl rfl rfl ?_
          refine j_V.cl xc19_M xc19_68 rfl (md := 3) (mj := 86) rfl (by decide) xc18_M (As := [.ref 282, .int x1, .int (x_nextStation sp tto x1)]) (rest := []) (jk_spl3 (K.at rfl) rfl rfl rfl (Nat.le_of_ble_eq_true rfl) (Nat.le_of_ble_eq_true rfl)) (fun d => xc18_ok (K.fi [282, 327, 331, 339] rfl rfl)) ?_
          rintro r hz ⟨rfl, ez⟩
          rw [ez]
          clear ez
          show j_V jP _ 85 71 lv [.int (x_freeCell shu bus len fit x1 (x_nextStation sp tto x1))] h _
          exact Eq.subst (motive := fun z => j_V jP _ 85 71 _ (.int z :: []) h Q) (show ((if (x_nextStation sp tto x1) = (gA tto x1) then 21 else (x_freeCell shu bus len fit x1 (x_nextStation sp tto x1))) : Int32) = (x_freeCell shu bus len fit x1 (x_nextStation sp tto x1)) from (if_neg c57_0).trans (rfl)) (kk _ L)
        · replace c57_0 : (x_nextStation sp tto x1) = (gA tto x1) := jd_nen c57_0
          refine j_V.one xc19_M xc19_60 (by decide) (pcJ := 62) (stJ := [.int 21]) rfl ?_
          refine j_V.gto xc19_M xc19_62 (t := 71) rfl ?_
          exact Eq.subst (motive := fun z => j_V jP _ 85 71 _ (.int z :: []) h Q) (show ((if (x_nextStation sp tto x1) = (gA tto x1) then 21 else (x_freeCell shu bus len fit x1 (x_nextStation sp tto x1))) : Int32) = 21 from (if_pos c57_0).trans (rfl)) (kk _ L)
      exact j_V.ri xc19_M xc19_71 ⟨congrArg (fun z => some (Value.int z)) (Eq.symm (show (x_target shu bus ph sp ri len frm tto fit x1) = ((if (x_nextStation sp tto x1) = (gA tto x1) then 21 else (x_freeCell shu bus len fit x1 (x_nextStation sp tto x1))) : Int32) from (if_neg c6_0).trans ((if_pos c35_1).trans (rfl)))), rfl⟩
    · replace c35_1 : ¬ ((gA ri (x_sectionAhead sp tto x1)) = (-1)) := jd_eqn c35_1
      refine j_V.one xc19_M xc19_38 (by decide) (pcJ := 40) (stJ := [.int (-2)]) rfl ?_
      exact j_V.ri xc19_M xc19_40 ⟨congrArg (fun z => some (Value.int z)) (Eq.symm (show (x_target shu bus ph sp ri len frm tto fit x1) = (-2) from (if_neg c6_0).trans ((if_neg c35_1).trans (rfl)))), rfl⟩
  · replace c6_0 : (gA ph x1) = 0 := jd_nen c6_0
    refine j_V.ldL xc19_M xc19_9 rfl (i := 0) (kd := 2) (v := .ref 282) (pcJ := 10) rfl L rfl rfl rfl ?_
    refine j_V.ldL xc19_M xc19_10 rfl (i := 1) (kd := 0) (v := .int x1) (pcJ := 11) rfl L rfl rfl rfl ?_
    refine j_V.ldL xc19_M xc19_11 rfl (i := 0) (kd := 2) (v := .ref 282) (pcJ := 12) rfl L rfl rfl rfl ?_
    refine j_V.getK xc19_M xc19_12 (ci := 7) (j := 0) rfl K rfl rfl ?_
    refine j_V.getK xc19_M xc19_15 (ci := 2) (j := 8) rfl K rfl rfl ?_
    refine j_V.ldL xc19_M xc19_18 rfl (i := 1) (kd := 0) (v := .int x1) (pcJ := 19) rfl L rfl rfl rfl ?_
    refine j_V.iaA xc19_M xc19_19 K rfl ?_
    refine j_V.cl xc19_M xc19_20 rfl (md := 3) (mj := 86) rfl (by decide) xc18_M (As := [.ref 282, .int x1, .int (gA frm x1)]) (rest := []) (jk_spl3 (K.at rfl) rfl rfl rfl (Nat.le_of_ble_eq_true rfl) (Nat.le_of_ble_eq_true rfl)) (fun d => xc18_ok (K.fi [282, 327, 331, 339] rfl rfl)) ?_
    rintro r hz ⟨rfl, ez⟩
    rw [ez]
    clear ez
    show j_V jP _ 85 23 lv [.int (x_freeCell shu bus len fit x1 (gA frm x1))] h _
    exact j_V.ri xc19_M xc19_23 ⟨congrArg (fun z => some (Value.int z)) (Eq.symm (show (x_target shu bus ph sp ri len frm tto fit x1) = (x_freeCell shu bus len fit x1 (gA frm x1)) from (if_pos c6_0).trans (rfl))), rfl⟩
set_option maxRecDepth 100000 in
theorem xc20_M : j_meth jP 79 = some (yX7_canMove, cX7_canMove, 2, (some .boolean), 1, false, 7) := rfl
set_option maxRecDepth 100000 in
theorem xc20_0 : j_code jP 79 0 = some (.aload_n 0) := rfl
set_option maxRecDepth 100000 in
theorem xc20_1 : j_code jP 79 1 = some (.getfield 18) := rfl
set_option maxRecDepth 100000 in
theorem xc20_4 : j_code jP 79 4 = some (.iload_n 1) := rfl
set_option maxRecDepth 100000 in
theorem xc20_5 : j_code jP 79 5 = some (.iaload) := rfl
set_option maxRecDepth 100000 in
theorem xc20_6 : j_code jP 79 6 = some (.ifCond .eq 13) := rfl
set_option maxRecDepth 100000 in
theorem xc20_9 : j_code jP 79 9 = some (.aload_n 0) := rfl
set_option maxRecDepth 100000 in
theorem xc20_10 : j_code jP 79 10 = some (.getfield 18) := rfl
set_option maxRecDepth 100000 in
theorem xc20_13 : j_code jP 79 13 = some (.iload_n 1) := rfl
set_option maxRecDepth 100000 in
theorem xc20_14 : j_code jP 79 14 = some (.iaload) := rfl
set_option maxRecDepth 100000 in
theorem xc20_15 : j_code jP 79 15 = some (.iconst 1) := rfl
set_option maxRecDepth 100000 in
theorem xc20_16 : j_code jP 79 16 = some (.if_icmp .ne 15) := rfl
set_option maxRecDepth 100000 in
theorem xc20_19 : j_code jP 79 19 = some (.aload_n 0) := rfl
set_option maxRecDepth 100000 in
theorem xc20_20 : j_code jP 79 20 = some (.iload_n 1) := rfl
set_option maxRecDepth 100000 in
theorem xc20_21 : j_code jP 79 21 = some (.invokevirtual 143) := rfl
set_option maxRecDepth 100000 in
theorem xc20_24 : j_code jP 79 24 = some (.ifCond .lt 7) := rfl
set_option maxRecDepth 100000 in
theorem xc20_27 : j_code jP 79 27 = some (.iconst 1) := rfl
set_option maxRecDepth 100000 in
theorem xc20_28 : j_code jP 79 28 = some (.goto 4) := rfl
set_option maxRecDepth 100000 in
theorem xc20_31 : j_code jP 79 31 = some (.iconst 0) := rfl
set_option maxRecDepth 100000 in
theorem xc20_32 : j_code jP 79 32 = some (.ireturn) := rfl
set_option maxRecDepth 1000000 in
theorem xc20_ok {mi : Int32} {shu : Int32} {bus : Int32} {lks : Int32} {ph : List Int32} {sp : List Int32} {ri : List Int32} {ns : Int32} {nt : Int32} {cel : Int32} {len : List Int32} {frm : List Int32} {tto : List Int32} {fit : List Int32} {x1 : Int32} {d : Nat} {h h0 : J_H} (K : KN h [(282, .inl (7, [.ref 327, .int mi, .int shu, .int bus, .ref 283, .ref 284, .ref 285, .ref 286, .ref 287, .ref 288, .ref 289, .ref 290, .ref 291, .ref 292, .ref 293, .int lks, .ref 294, .ref 295, .ref 298])), (285, .inr (.inl (0, ph))), (286, .inr (.inl (0, sp))), (290, .inr (.inl (0, ri))), (327, .inl (2, [.int ns, .ref 328, .ref 329, .ref 330, .ref 331, .int nt, .ref 332, .ref 333, .ref 334, .ref 335, .ref 336, .ref 337, .ref 338, .int cel, .ref 339, .ref 340, .ref 341, .ref 342])), (331, .inr (.inl (0, len))), (334, .inr (.inl (0, frm))), (335, .inr (.inl (0, tto))), (339, .inr (.inl (0, fit)))] h0) : j_V jP d 79 0 (lv_args 0 [.ref 282, .int x1]) [] h (fun rv h' => rv = some (.int (x_canMove shu bus ph sp ri len frm tto fit x1)) ∧ h' = h) := by
  show j_V jP d 79 0 [(0, .ref 282), (1, .int x1)] [] h _
  obtain ⟨lv, elv, L⟩ : ∃ lv, lv = [(0, .ref 282), (1, .int x1)] ∧ LK lv [(0, .ref 282), (1, .int x1)] := ⟨_, rfl, LK.rf⟩
  rw [← elv]
  clear elv
  refine j_V.ldL xc20_M xc20_0 rfl (i := 0) (kd := 2) (v := .ref 282) (pcJ := 1) rfl L rfl rfl rfl ?_
  refine j_V.getK xc20_M xc20_1 (ci := 7) (j := 6) rfl K rfl rfl ?_
  refine j_V.ldL xc20_M xc20_4 rfl (i := 1) (kd := 0) (v := .int x1) (pcJ := 5) rfl L rfl rfl rfl ?_
  refine j_V.iaA xc20_M xc20_5 K rfl ?_
  refine j_V.cut (b := 32) (stJ := [.int ((if (gA ph x1) = 0 then (if (x_target shu bus ph sp ri len frm tto fit x1) < 0 then 0 else 1) else (if (gA ph x1) = 1 then (if (x_target shu bus ph sp ri len frm tto fit x1) < 0 then 0 else 1) else 0)) : Int32)]) (fun v => [(0, .ref 282), (1, .int x1)]) ((if (gA ph x1) = 0 then (if (x_target shu bus ph sp ri len frm tto fit x1) < 0 then 0 else 1) else (if (gA ph x1) = 1 then (if (x_target shu bus ph sp ri len frm tto fit x1) < 0 then 0 else 1) else 0)) : Int32) (fun Q kk => ?_) (fun lv L => ?_)
  · refine j_V.ifc xc20_M xc20_6 (t := 19) rfl (fun c6_0 => ?_) (fun c6_0 => ?_)
    · replace c6_0 : (gA ph x1) = 0 := jd_eq c6_0
      refine j_V.ldL xc20_M xc20_19 rfl (i := 0) (kd := 2) (v := .ref 282) (pcJ := 20) rfl L rfl rfl rfl ?_
      refine j_V.ldL xc20_M xc20_20 rfl (i := 1) (kd := 0) (v := .int x1) (pcJ := 21) rfl L rfl rfl rfl ?_
      refine j_V.cl xc20_M xc20_21 rfl (md := 3) (mj := 85) rfl (by decide) xc19_M (As := [.ref 282, .int x1]) (rest := []) (jk_spl3 (K.at rfl) rfl rfl rfl (Nat.le_of_ble_eq_true rfl) (Nat.le_of_ble_eq_true rfl)) (fun d => xc19_ok (K.fi [282, 285, 286, 290, 327, 331, 334, 335, 339] rfl rfl)) ?_
      rintro r hz ⟨rfl, ez⟩
      rw [ez]
      clear ez
      show j_V jP _ 79 24 lv [.int (x_target shu bus ph sp ri len frm tto fit x1)] h _
      refine j_V.ifc xc20_M xc20_24 (t := 31) rfl (fun c24_1 => ?_) (fun c24_1 => ?_)
      · replace c24_1 : (x_target shu bus ph sp ri len frm tto fit x1) < 0 := jd_lt c24_1
        refine j_V.one xc20_M xc20_31 (by decide) (pcJ := 32) (stJ := [.int 0]) rfl ?_
        exact Eq.subst (motive := fun z => j_V jP _ 79 32 _ (.int z :: []) h Q) (show ((if (gA ph x1) = 0 then (if (x_target shu bus ph sp ri len frm tto fit x1) < 0 then 0 else 1) else (if (gA ph x1) = 1 then (if (x_target shu bus ph sp ri len frm tto fit x1) < 0 then 0 else 1) else 0)) : Int32) = 0 from (if_pos c6_0).trans ((if_pos c24_1).trans (rfl))) (kk _ L)
      · replace c24_1 : ¬ ((x_target shu bus ph sp ri len frm tto fit x1) < 0) := jd_ltn c24_1
        refine j_V.one xc20_M xc20_27 (by decide) (pcJ := 28) (stJ := [.int 1]) rfl ?_
        refine j_V.gto xc20_M xc20_28 (t := 32) rfl ?_
        exact Eq.subst (motive := fun z => j_V jP _ 79 32 _ (.int z :: []) h Q) (show ((if (gA ph x1) = 0 then (if (x_target shu bus ph sp ri len frm tto fit x1) < 0 then 0 else 1) else (if (gA ph x1) = 1 then (if (x_target shu bus ph sp ri len frm tto fit x1) < 0 then 0 else 1) else 0)) : Int32) = 1 from (if_pos c6_0).trans ((if_neg c24_1).trans (rfl))) (kk _ L)
    · replace c6_0 : ¬ ((gA ph x1) = 0) := jd_eqn c6_0
      refine j_V.ldL xc20_M xc20_9 rfl (i := 0) (kd := 2) (v := .ref 282) (pcJ := 10) rfl L rfl rfl rfl ?_
      refine j_V.getK xc20_M xc20_10 (ci := 7) (j := 6) rfl K rfl rfl ?_
      refine j_V.ldL xc20_M xc20_13 rfl (i := 1) (kd := 0) (v := .int x1) (pcJ := 14) rfl L rfl rfl rfl ?_
      refine j_V.iaA xc20_M xc20_14 K rfl ?_
      refine j_V.one xc20_M xc20_15 (by decide) (pcJ := 16) (stJ := [.int 1, .int (gA ph x1)]) rfl ?_
      refine j_V.icmp xc20_M xc20_16 (t := 31) rfl (fun c16_1 => ?_) (fun c16_1 => ?_)
      · replace c16_1 : ¬ ((gA ph x1) = 1) := jd_ne c16_1
        refine j_V.one xc20_M xc20_31 (by decide) (pcJ := 32) (stJ := [.int 0]) rfl ?_
        exact Eq.subst (motive := fun z => j_V jP _ 79 32 _ (.int z :: []) h Q) (show ((if (gA ph x1) = 0 then (if (x_target shu bus ph sp ri len frm tto fit x1) < 0 then 0 else 1) else (if (gA ph x1) = 1 then (if (x_target shu bus ph sp ri len frm tto fit x1) < 0 then 0 else 1) else 0)) : Int32) = 0 from (if_neg c6_0).trans ((if_neg c16_1).trans (rfl))) (kk _ L)
      · replace c16_1 : (gA ph x1) = 1 := jd_nen c16_1
        refine j_V.ldL xc20_M xc20_19 rfl (i := 0) (kd := 2) (v := .ref 282) (pcJ := 20) rfl L rfl rfl rfl ?_
        refine j_V.ldL xc20_M xc20_20 rfl (i := 1) (kd := 0) (v := .int x1) (pcJ := 21) rfl L rfl rfl rfl ?_
        refine j_V.cl xc20_M xc20_21 rfl (md := 3) (mj := 85) rfl (by decide) xc19_M (As := [.ref 282, .int x1]) (rest := []) (jk_spl3 (K.at rfl) rfl rfl rfl (Nat.le_of_ble_eq_true rfl) (Nat.le_of_ble_eq_true rfl)) (fun d => xc19_ok (K.fi [282, 285, 286, 290, 327, 331, 334, 335, 339] rfl rfl)) ?_
        rintro r hz ⟨rfl, ez⟩
        rw [ez]
        clear ez
        show j_V jP _ 79 24 lv [.int (x_target shu bus ph sp ri len frm tto fit x1)] h _
        refine j_V.ifc xc20_M xc20_24 (t := 31) rfl (fun c24_2 => ?_) (fun c24_2 => ?_)
        · replace c24_2 : (x_target shu bus ph sp ri len frm tto fit x1) < 0 := jd_lt c24_2
          refine j_V.one xc20_M xc20_31 (by decide) (pcJ := 32) (stJ := [.int 0]) rfl ?_
          exact Eq.subst (motive := fun z => j_V jP _ 79 32 _ (.int z :: []) h Q) (show ((if (gA ph x1) = 0 then (if (x_target shu bus ph sp ri len frm tto fit x1) < 0 then 0 else 1) else (if (gA ph x1) = 1 then (if (x_target shu bus ph sp ri len frm tto fit x1) < 0 then 0 else 1) else 0)) : Int32) = 0 from (if_neg c6_0).trans ((if_pos c16_1).trans ((if_pos c24_2).trans (rfl)))) (kk _ L)
        · replace c24_2 : ¬ ((x_target shu bus ph sp ri len frm tto fit x1) < 0) := jd_ltn c24_2
          refine j_V.one xc20_M xc20_27 (by decide) (pcJ := 28) (stJ := [.int 1]) rfl ?_
          refine j_V.gto xc20_M xc20_28 (t := 32) rfl ?_
          exact Eq.subst (motive := fun z => j_V jP _ 79 32 _ (.int z :: []) h Q) (show ((if (gA ph x1) = 0 then (if (x_target shu bus ph sp ri len frm tto fit x1) < 0 then 0 else 1) else (if (gA ph x1) = 1 then (if (x_target shu bus ph sp ri len frm tto fit x1) < 0 then 0 else 1) else 0)) : Int32) = 1 from (if_neg c6_0).trans ((if_pos c16_1).trans ((if_neg c24_2).trans (rfl)))) (kk _ L)
  exact j_V.ri xc20_M xc20_32 ⟨congrArg (fun z => some (Value.int z)) (Eq.symm (show (x_canMove shu bus ph sp ri len frm tto fit x1) = ((if (gA ph x1) = 0 then (if (x_target shu bus ph sp ri len frm tto fit x1) < 0 then 0 else 1) else (if (gA ph x1) = 1 then (if (x_target shu bus ph sp ri len frm tto fit x1) < 0 then 0 else 1) else 0)) : Int32) from rfl)), rfl⟩
set_option maxRecDepth 100000 in
theorem xc21_M : j_meth jP 78 = some (yX7_isStuck, cX7_isStuck, 3, (some .boolean), 0, false, 7) := rfl
set_option maxRecDepth 100000 in
theorem xc21_0 : j_code jP 78 0 = some (.iconst 0) := rfl
set_option maxRecDepth 100000 in
theorem xc21_1 : j_code jP 78 1 = some (.istore_n 1) := rfl
set_option maxRecDepth 100000 in
theorem xc21_2 : j_code jP 78 2 = some (.iconst 0) := rfl
set_option maxRecDepth 100000 in
theorem xc21_3 : j_code jP 78 3 = some (.istore_n 2) := rfl
set_option maxRecDepth 100000 in
theorem xc21_4 : j_code jP 78 4 = some (.iload_n 2) := rfl
set_option maxRecDepth 100000 in
theorem xc21_5 : j_code jP 78 5 = some (.aload_n 0) := rfl
set_option maxRecDepth 100000 in
theorem xc21_6 : j_code jP 78 6 = some (.getfield 64) := rfl
set_option maxRecDepth 100000 in
theorem xc21_9 : j_code jP 78 9 = some (.getfield 102) := rfl
set_option maxRecDepth 100000 in
theorem xc21_12 : j_code jP 78 12 = some (.if_icmp .ge 49) := rfl
set_option maxRecDepth 100000 in
theorem xc21_15 : j_code jP 78 15 = some (.aload_n 0) := rfl
set_option maxRecDepth 100000 in
theorem xc21_16 : j_code jP 78 16 = some (.getfield 18) := rfl
set_option maxRecDepth 100000 in
theorem xc21_19 : j_code jP 78 19 = some (.iload_n 2) := rfl
set_option maxRecDepth 100000 in
theorem xc21_20 : j_code jP 78 20 = some (.iaload) := rfl
set_option maxRecDepth 100000 in
theorem xc21_21 : j_code jP 78 21 = some (.iconst 2) := rfl
set_option maxRecDepth 100000 in
theorem xc21_22 : j_code jP 78 22 = some (.if_icmp .eq 11) := rfl
set_option maxRecDepth 100000 in
theorem xc21_25 : j_code jP 78 25 = some (.aload_n 0) := rfl
set_option maxRecDepth 100000 in
theorem xc21_26 : j_code jP 78 26 = some (.iload_n 2) := rfl
set_option maxRecDepth 100000 in
theorem xc21_27 : j_code jP 78 27 = some (.invokevirtual 139) := rfl
set_option maxRecDepth 100000 in
theorem xc21_30 : j_code jP 78 30 = some (.ifCond .eq 5) := rfl
set_option maxRecDepth 100000 in
theorem xc21_33 : j_code jP 78 33 = some (.iconst 0) := rfl
set_option maxRecDepth 100000 in
theorem xc21_34 : j_code jP 78 34 = some (.ireturn) := rfl
set_option maxRecDepth 100000 in
theorem xc21_35 : j_code jP 78 35 = some (.iload_n 1) := rfl
set_option maxRecDepth 100000 in
theorem xc21_36 : j_code jP 78 36 = some (.ifCond .ne 13) := rfl
set_option maxRecDepth 100000 in
theorem xc21_39 : j_code jP 78 39 = some (.aload_n 0) := rfl
set_option maxRecDepth 100000 in
theorem xc21_40 : j_code jP 78 40 = some (.getfield 18) := rfl
set_option maxRecDepth 100000 in
theorem xc21_43 : j_code jP 78 43 = some (.iload_n 2) := rfl
set_option maxRecDepth 100000 in
theorem xc21_44 : j_code jP 78 44 = some (.iaload) := rfl
set_option maxRecDepth 100000 in
theorem xc21_45 : j_code jP 78 45 = some (.iconst 1) := rfl
set_option maxRecDepth 100000 in
theorem xc21_46 : j_code jP 78 46 = some (.if_icmp .ne 7) := rfl
set_option maxRecDepth 100000 in
theorem xc21_49 : j_code jP 78 49 = some (.iconst 1) := rfl
set_option maxRecDepth 100000 in
theorem xc21_50 : j_code jP 78 50 = some (.goto 4) := rfl
set_option maxRecDepth 100000 in
theorem xc21_53 : j_code jP 78 53 = some (.iconst 0) := rfl
set_option maxRecDepth 100000 in
theorem xc21_54 : j_code jP 78 54 = some (.istore_n 1) := rfl
set_option maxRecDepth 100000 in
theorem xc21_55 : j_code jP 78 55 = some (.iinc 2 1) := rfl
set_option maxRecDepth 100000 in
theorem xc21_58 : j_code jP 78 58 = some (.goto (-54)) := rfl
set_option maxRecDepth 100000 in
theorem xc21_61 : j_code jP 78 61 = some (.iload_n 1) := rfl
set_option maxRecDepth 100000 in
theorem xc21_62 : j_code jP 78 62 = some (.ireturn) := rfl
set_option maxRecDepth 1000000 in
theorem xc21_ok_l4 {mi : Int32} {shu : Int32} {bus : Int32} {lks : Int32} {ph : List Int32} {sp : List Int32} {ri : List Int32} {ns : Int32} {nt : Int32} {cel : Int32} {len : List Int32} {frm : List Int32} {tto : List Int32} {fit : List Int32} {d : Nat} {h h0 : J_H} : ∀ (f : Nat) (v2 v1 : Int32) {lv : J_L}, lpN nt v2 = f → LK lv [(0, .ref 282), (1, .int v1), (2, .int v2)] → KN h [(282, .inl (7, [.ref 327, .int mi, .int shu, .int bus, .ref 283, .ref 284, .ref 285, .ref 286, .ref 287, .ref 288, .ref 289, .ref 290, .ref 291, .ref 292, .ref 293, .int lks, .ref 294, .ref 295, .ref 298])), (285, .inr (.inl (0, ph))), (286, .inr (.inl (0, sp))), (290, .inr (.inl (0, ri))), (327, .inl (2, [.int ns, .ref 328, .ref 329, .ref 330, .ref 331, .int nt, .ref 332, .ref 333, .ref 334, .ref 335, .ref 336, .ref 337, .ref 338, .int cel, .ref 339, .ref 340, .ref 341, .ref 342])), (331, .inr (.inl (0, len))), (334, .inr (.inl (0, frm))), (335, .inr (.inl (0, tto))), (339, .inr (.inl (0, fit)))] h0 → j_V jP d 78 4 lv [] h (fun rv h' => rv = some (.int (x_isStuck_l4 shu bus ph sp ri len frm tto fit f v2 v1)) ∧ h' = h) := by
  intro f
  induction f with
  | zero =>
    intro v2 v1 lv e L K
    refine j_V.ldL xc21_M xc21_4 rfl (i := 2) (kd := 0) (v := .int v2) (pcJ := 5) rfl L rfl rfl rfl ?_
    refine j_V.ldL xc21_M xc21_5 rfl (i := 0) (kd := 2) (v := .ref 282) (pcJ := 6) rfl L rfl rfl rfl ?_
    refine j_V.getK xc21_M xc21_6 (ci := 7) (j := 0) rfl K rfl rfl ?_
    refine j_V.getK xc21_M xc21_9 (ci := 2) (j := 5) rfl K rfl rfl ?_
    refine j_V.icmp xc21_M xc21_12 (t := 61) rfl (fun c12_0 => ?_) (fun c12_0 => ?_)
    · replace c12_0 : ¬ (v2 < nt) := jd_ge c12_0
      refine j_V.ldL xc21_M xc21_61 rfl (i := 1) (kd := 0) (v := .int v1) (pcJ := 62) rfl L rfl rfl rfl ?_
      exact j_V.ri xc21_M xc21_62 ⟨congrArg (fun z => some (Value.int z)) (Eq.symm (show (x_isStuck_l4 shu bus ph sp ri len frm tto fit 0 v2 v1) = v1 from rfl)), rfl⟩
    · replace c12_0 : v2 < nt := jd_gen c12_0
      exact absurd c12_0 (lpN_z e)
  | succ f ih =>
    intro v2 v1 lv e L K
    refine j_V.ldL xc21_M xc21_4 rfl (i := 2) (kd := 0) (v := .int v2) (pcJ := 5) rfl L rfl rfl rfl ?_
    refine j_V.ldL xc21_M xc21_5 rfl (i := 0) (kd := 2) (v := .ref 282) (pcJ := 6) rfl L rfl rfl rfl ?_
    refine j_V.getK xc21_M xc21_6 (ci := 7) (j := 0) rfl K rfl rfl ?_
    refine j_V.getK xc21_M xc21_9 (ci := 2) (j := 5) rfl K rfl rfl ?_
    refine j_V.icmp xc21_M xc21_12 (t := 61) rfl (fun c12_0 => ?_) (fun c12_0 => ?_)
    · replace c12_0 : ¬ (v2 < nt) := jd_ge c12_0
      exact absurd (lpN_s e) c12_0
    · replace c12_0 : v2 < nt := jd_gen c12_0
      refine j_V.ldL xc21_M xc21_15 rfl (i := 0) (kd := 2) (v := .ref 282) (pcJ := 16) rfl L rfl rfl rfl ?_
      refine j_V.getK xc21_M xc21_16 (ci := 7) (j := 6) rfl K rfl rfl ?_
      refine j_V.ldL xc21_M xc21_19 rfl (i := 2) (kd := 0) (v := .int v2) (pcJ := 20) rfl L rfl rfl rfl ?_
      refine j_V.iaA xc21_M xc21_20 K rfl ?_
      refine j_V.one xc21_M xc21_21 (by decide) (pcJ := 22) (stJ := [.int 2, .int (gA ph v2)]) rfl ?_
      refine j_V.icmp xc21_M xc21_22 (t := 33) rfl (fun c22_0 => ?_) (fun c22_0 => ?_)
      · replace c22_0 : (gA ph v2) = 2 := jd_eq c22_0
        refine j_V.one xc21_M xc21_33 (by decide) (pcJ := 34) (stJ := [.int 0]) rfl ?_
        exact j_V.ri xc21_M xc21_34 ⟨congrArg (fun z => some (Value.int z)) (Eq.symm (show (x_isStuck_l4 shu bus ph sp ri len frm tto fit (f + 1) v2 v1) = 0 from (if_pos c22_0).trans (rfl))), rfl⟩
      · replace c22_0 : ¬ ((gA ph v2) = 2) := jd_eqn c22_0
        refine j_V.ldL xc21_M xc21_25 rfl (i := 0) (kd := 2) (v := .ref 282) (pcJ := 26) rfl L rfl rfl rfl ?_
        refine j_V.ldL xc21_M xc21_26 rfl (i := 2) (kd := 0) (v := .int v2) (pcJ := 27) rfl L rfl rfl rfl ?_
        refine j_V.cl xc21_M xc21_27 rfl (md := 3) (mj := 79) rfl (by decide) xc20_M (As := [.ref 282, .int v2]) (rest := []) (jk_spl3 (K.at rfl) rfl rfl rfl (Nat.le_of_ble_eq_true rfl) (Nat.le_of_ble_eq_true rfl)) (fun d => xc20_ok (K.fi [282, 285, 286, 290, 327, 331, 334, 335, 339] rfl rfl)) ?_
        rintro r hz ⟨rfl, ez⟩
        rw [ez]
        clear ez
        show j_V jP _ 78 30 lv [.int (x_canMove shu bus ph sp ri len frm tto fit v2)] h _
        refine j_V.ifc xc21_M xc21_30 (t := 35) rfl (fun c30_1 => ?_) (fun c30_1 => ?_)
        · replace c30_1 : (x_canMove shu bus ph sp ri len frm tto fit v2) = 0 := jd_eq c30_1
          refine j_V.ldL xc21_M xc21_35 rfl (i := 1) (kd := 0) (v := .int v1) (pcJ := 36) rfl L rfl rfl rfl ?_
          refine j_V.cut (b := 54) (stJ := [.int ((if v1 = 0 then (if (gA ph v2) = 1 then 1 else 0) else 1) : Int32)]) (fun v => [(0, .ref 282), (1, .int v1), (2, .int v2)]) ((if v1 = 0 then (if (gA ph v2) = 1 then 1 else 0) else 1) : Int32) (fun Q kk => ?_) (fun lv L => ?_)
          · refine j_V.ifc xc21_M xc21_36 (t := 49) rfl (fun c36_0 => ?_) (fun c36_0 => ?_)
            · replace c36_0 : ¬ (v1 = 0) := jd_ne c36_0
              refine j_V.one xc21_M xc21_49 (by decide) (pcJ := 50) (stJ := [.int 1]) rfl ?_
              refine j_V.gto xc21_M xc21_50 (t := 54) rfl ?_
              exact Eq.subst (motive := fun z => j_V jP _ 78 54 _ (.int z :: []) h Q) (show ((if v1 = 0 then (if (gA ph v2) = 1 then 1 else 0) else 1) : Int32) = 1 from (if_neg c36_0).trans (rfl)) (kk _ L)
            · replace c36_0 : v1 = 0 := jd_nen c36_0
              refine j_V.ldL xc21_M xc21_39 rfl (i := 0) (kd := 2) (v := .ref 282) (pcJ := 40) rfl L rfl rfl rfl ?_
              refine j_V.getK xc21_M xc21_40 (ci := 7) (j := 6) rfl K rfl rfl ?_
              refine j_V.ldL xc21_M xc21_43 rfl (i := 2) (kd := 0) (v := .int v2) (pcJ := 44) rfl L rfl rfl rfl ?_
              refine j_V.iaA xc21_M xc21_44 K rfl ?_
              refine j_V.one xc21_M xc21_45 (by decide) (pcJ := 46) (stJ := [.int 1, .int (gA ph v2)]) rfl ?_
              refine j_V.icmp xc21_M xc21_46 (t := 53) rfl (fun c46_1 => ?_) (fun c46_1 => ?_)
              · replace c46_1 : ¬ ((gA ph v2) = 1) := jd_ne c46_1
                refine j_V.one xc21_M xc21_53 (by decide) (pcJ := 54) (stJ := [.int 0]) rfl ?_
                exact Eq.subst (motive := fun z => j_V jP _ 78 54 _ (.int z :: []) h Q) (show ((if v1 = 0 then (if (gA ph v2) = 1 then 1 else 0) else 1) : Int32) = 0 from (if_pos c36_0).trans ((if_neg c46_1).trans (rfl))) (kk _ L)
              · replace c46_1 : (gA ph v2) = 1 := jd_nen c46_1
                refine j_V.one xc21_M xc21_49 (by decide) (pcJ := 50) (stJ := [.int 1]) rfl ?_
                refine j_V.gto xc21_M xc21_50 (t := 54) rfl ?_
                exact Eq.subst (motive := fun z => j_V jP _ 78 54 _ (.int z :: []) h Q) (show ((if v1 = 0 then (if (gA ph v2) = 1 then 1 else 0) else 1) : Int32) = 1 from (if_pos c36_0).trans ((if_pos c46_1).trans (rfl))) (kk _ L)
          refine j_V.stL xc21_M xc21_54 rfl (i := 1) (kd := 0) (kl' := [(0, .ref 282), (1, .int ((if v1 = 0 then (if (gA ph v2) = 1 then 1 else 0) else 1) : Int32)), (2, .int v2)]) (pcJ := 55) rfl L rfl (by decide) rfl rfl rfl (fun lv L => ?_)
          refine j_V.inL xc21_M xc21_55 (i := 2) (kl' := [(0, .ref 282), (1, .int ((if v1 = 0 then (if (gA ph v2) = 1 then 1 else 0) else 1) : Int32)), (2, .int (v2 + 1))]) (pcJ := 58) L rfl rfl rfl rfl (fun lv L => ?_)
          refine j_V.gto xc21_M xc21_58 (t := 4) rfl ?_
          refine j_V.mono (ih ((v2 + 1)) (((if v1 = 0 then (if (gA ph v2) = 1 then 1 else 0) else 1) : Int32)) (lpN_n e) L K) ?_
          rintro r hz ⟨rfl, rfl⟩
          exact ⟨congrArg (fun z => some (Value.int z)) (Eq.symm (show (x_isStuck_l4 shu bus ph sp ri len frm tto fit (f + 1) v2 v1) = (x_isStuck_l4 shu bus ph sp ri len frm tto fit f ((v2 + 1)) (((if v1 = 0 then (if (gA ph v2) = 1 then 1 else 0) else 1) : Int32))) from (if_neg c22_0).trans ((if_pos c30_1).trans (rfl)))), rfl⟩
        · replace c30_1 : ¬ ((x_canMove shu bus ph sp ri len frm tto fit v2) = 0) := jd_eqn c30_1
          refine j_V.one xc21_M xc21_33 (by decide) (pcJ := 34) (stJ := [.int 0]) rfl ?_
          exact j_V.ri xc21_M xc21_34 ⟨congrArg (fun z => some (Value.int z)) (Eq.symm (show (x_isStuck_l4 shu bus ph sp ri len frm tto fit (f + 1) v2 v1) = 0 from (if_neg c22_0).trans ((if_neg c30_1).trans (rfl)))), rfl⟩
set_option maxRecDepth 1000000 in
theorem xc21_ok {mi : Int32} {shu : Int32} {bus : Int32} {lks : Int32} {ph : List Int32} {sp : List Int32} {ri : List Int32} {ns : Int32} {nt : Int32} {cel : Int32} {len : List Int32} {frm : List Int32} {tto : List Int32} {fit : List Int32} {d : Nat} {h h0 : J_H} (K : KN h [(282, .inl (7, [.ref 327, .int mi, .int shu, .int bus, .ref 283, .ref 284, .ref 285, .ref 286, .ref 287, .ref 288, .ref 289, .ref 290, .ref 291, .ref 292, .ref 293, .int lks, .ref 294, .ref 295, .ref 298])), (285, .inr (.inl (0, ph))), (286, .inr (.inl (0, sp))), (290, .inr (.inl (0, ri))), (327, .inl (2, [.int ns, .ref 328, .ref 329, .ref 330, .ref 331, .int nt, .ref 332, .ref 333, .ref 334, .ref 335, .ref 336, .ref 337, .ref 338, .int cel, .ref 339, .ref 340, .ref 341, .ref 342])), (331, .inr (.inl (0, len))), (334, .inr (.inl (0, frm))), (335, .inr (.inl (0, tto))), (339, .inr (.inl (0, fit)))] h0) : j_V jP d 78 0 (lv_args 0 [.ref 282]) [] h (fun rv h' => rv = some (.int (x_isStuck shu bus ph sp ri nt len frm tto fit)) ∧ h' = h) := by
  show j_V jP d 78 0 [(0, .ref 282)] [] h _
  obtain ⟨lv, elv, L⟩ : ∃ lv, lv = [(0, .ref 282)] ∧ LK lv [(0, .ref 282)] := ⟨_, rfl, LK.rf⟩
  rw [← elv]
  clear elv
  refine j_V.one xc21_M xc21_0 (by decide) (pcJ := 1) (stJ := [.int 0]) rfl ?_
  refine j_V.stL xc21_M xc21_1 rfl (i := 1) (kd := 0) (kl' := [(0, .ref 282), (1, .int 0)]) (pcJ := 2) rfl L rfl (by decide) rfl rfl rfl (fun lv L => ?_)
  refine j_V.one xc21_M xc21_2 (by decide) (pcJ := 3) (stJ := [.int 0]) rfl ?_
  refine j_V.stL xc21_M xc21_3 rfl (i := 2) (kd := 0) (kl' := [(0, .ref 282), (1, .int 0), (2, .int 0)]) (pcJ := 4) rfl L rfl (by decide) rfl rfl rfl (fun lv L => ?_)
  refine j_V.mono (xc21_ok_l4 _ (0) (0) rfl L K) ?_
  rintro r hz ⟨rfl, rfl⟩
  exact ⟨congrArg (fun z => some (Value.int z)) (Eq.symm (show (x_isStuck shu bus ph sp ri nt len frm tto fit) = (x_isStuck_l4 shu bus ph sp ri len frm tto fit (lpN nt 0) 0 0) from rfl)), rfl⟩
set_option maxRecDepth 100000 in
theorem xc22_M : j_meth jP 81 = some (yX7_waitsFor, cX7_waitsFor, 6, (some .int), 1, false, 7) := rfl
set_option maxRecDepth 100000 in
theorem xc22_0 : j_code jP 81 0 = some (.aload_n 0) := rfl
set_option maxRecDepth 100000 in
theorem xc22_1 : j_code jP 81 1 = some (.getfield 18) := rfl
set_option maxRecDepth 100000 in
theorem xc22_4 : j_code jP 81 4 = some (.iload_n 1) := rfl
set_option maxRecDepth 100000 in
theorem xc22_5 : j_code jP 81 5 = some (.iaload) := rfl
set_option maxRecDepth 100000 in
theorem xc22_6 : j_code jP 81 6 = some (.iconst 1) := rfl
set_option maxRecDepth 100000 in
theorem xc22_7 : j_code jP 81 7 = some (.if_icmp .ne 11) := rfl
set_option maxRecDepth 100000 in
theorem xc22_10 : j_code jP 81 10 = some (.aload_n 0) := rfl
set_option maxRecDepth 100000 in
theorem xc22_11 : j_code jP 81 11 = some (.iload_n 1) := rfl
set_option maxRecDepth 100000 in
theorem xc22_12 : j_code jP 81 12 = some (.invokevirtual 139) := rfl
set_option maxRecDepth 100000 in
theorem xc22_15 : j_code jP 81 15 = some (.ifCond .eq 5) := rfl
set_option maxRecDepth 100000 in
theorem xc22_18 : j_code jP 81 18 = some (.iconst 0) := rfl
set_option maxRecDepth 100000 in
theorem xc22_19 : j_code jP 81 19 = some (.ireturn) := rfl
set_option maxRecDepth 100000 in
theorem xc22_20 : j_code jP 81 20 = some (.aload_n 0) := rfl
set_option maxRecDepth 100000 in
theorem xc22_21 : j_code jP 81 21 = some (.getfield 33) := rfl
set_option maxRecDepth 100000 in
theorem xc22_24 : j_code jP 81 24 = some (.aload_n 0) := rfl
set_option maxRecDepth 100000 in
theorem xc22_25 : j_code jP 81 25 = some (.iload_n 1) := rfl
set_option maxRecDepth 100000 in
theorem xc22_26 : j_code jP 81 26 = some (.invokevirtual 146) := rfl
set_option maxRecDepth 100000 in
theorem xc22_29 : j_code jP 81 29 = some (.iaload) := rfl
set_option maxRecDepth 100000 in
theorem xc22_30 : j_code jP 81 30 = some (.istore_n 2) := rfl
set_option maxRecDepth 100000 in
theorem xc22_31 : j_code jP 81 31 = some (.iload_n 2) := rfl
set_option maxRecDepth 100000 in
theorem xc22_32 : j_code jP 81 32 = some (.iconst (-1)) := rfl
set_option maxRecDepth 100000 in
theorem xc22_33 : j_code jP 81 33 = some (.if_icmp .eq 7) := rfl
set_option maxRecDepth 100000 in
theorem xc22_36 : j_code jP 81 36 = some (.iconst 1) := rfl
set_option maxRecDepth 100000 in
theorem xc22_37 : j_code jP 81 37 = some (.iload_n 2) := rfl
set_option maxRecDepth 100000 in
theorem xc22_38 : j_code jP 81 38 = some (.ishl) := rfl
set_option maxRecDepth 100000 in
theorem xc22_39 : j_code jP 81 39 = some (.ireturn) := rfl
set_option maxRecDepth 100000 in
theorem xc22_40 : j_code jP 81 40 = some (.aload_n 0) := rfl
set_option maxRecDepth 100000 in
theorem xc22_41 : j_code jP 81 41 = some (.getfield 64) := rfl
set_option maxRecDepth 100000 in
theorem xc22_44 : j_code jP 81 44 = some (.getfield 149) := rfl
set_option maxRecDepth 100000 in
theorem xc22_47 : j_code jP 81 47 = some (.iload_n 1) := rfl
set_option maxRecDepth 100000 in
theorem xc22_48 : j_code jP 81 48 = some (.iaload) := rfl
set_option maxRecDepth 100000 in
theorem xc22_49 : j_code jP 81 49 = some (.aload_n 0) := rfl
set_option maxRecDepth 100000 in
theorem xc22_50 : j_code jP 81 50 = some (.getfield 64) := rfl
set_option maxRecDepth 100000 in
theorem xc22_53 : j_code jP 81 53 = some (.aload_n 0) := rfl
set_option maxRecDepth 100000 in
theorem xc22_54 : j_code jP 81 54 = some (.iload_n 1) := rfl
set_option maxRecDepth 100000 in
theorem xc22_55 : j_code jP 81 55 = some (.invokevirtual 152) := rfl
set_option maxRecDepth 100000 in
theorem xc22_58 : j_code jP 81 58 = some (.invokevirtual 155) := rfl
set_option maxRecDepth 100000 in
theorem xc22_61 : j_code jP 81 61 = some (.iand) := rfl
set_option maxRecDepth 100000 in
theorem xc22_62 : j_code jP 81 62 = some (.istore_n 3) := rfl
set_option maxRecDepth 100000 in
theorem xc22_63 : j_code jP 81 63 = some (.iconst 0) := rfl
set_option maxRecDepth 100000 in
theorem xc22_64 : j_code jP 81 64 = some (.istore 4) := rfl
set_option maxRecDepth 100000 in
theorem xc22_66 : j_code jP 81 66 = some (.iconst 0) := rfl
set_option maxRecDepth 100000 in
theorem xc22_67 : j_code jP 81 67 = some (.istore 5) := rfl
set_option maxRecDepth 100000 in
theorem xc22_69 : j_code jP 81 69 = some (.iload 5) := rfl
set_option maxRecDepth 100000 in
theorem xc22_71 : j_code jP 81 71 = some (.aload_n 0) := rfl
set_option maxRecDepth 100000 in
theorem xc22_72 : j_code jP 81 72 = some (.getfield 64) := rfl
set_option maxRecDepth 100000 in
theorem xc22_75 : j_code jP 81 75 = some (.getfield 102) := rfl
set_option maxRecDepth 100000 in
theorem xc22_78 : j_code jP 81 78 = some (.if_icmp .ge 43) := rfl
set_option maxRecDepth 100000 in
theorem xc22_81 : j_code jP 81 81 = some (.aload_n 0) := rfl
set_option maxRecDepth 100000 in
theorem xc22_82 : j_code jP 81 82 = some (.getfield 24) := rfl
set_option maxRecDepth 100000 in
theorem xc22_85 : j_code jP 81 85 = some (.iload 5) := rfl
set_option maxRecDepth 100000 in
theorem xc22_87 : j_code jP 81 87 = some (.iaload) := rfl
set_option maxRecDepth 100000 in
theorem xc22_88 : j_code jP 81 88 = some (.iconst (-1)) := rfl
set_option maxRecDepth 100000 in
theorem xc22_89 : j_code jP 81 89 = some (.if_icmp .eq 26) := rfl
set_option maxRecDepth 100000 in
theorem xc22_92 : j_code jP 81 92 = some (.iload_n 3) := rfl
set_option maxRecDepth 100000 in
theorem xc22_93 : j_code jP 81 93 = some (.aload_n 0) := rfl
set_option maxRecDepth 100000 in
theorem xc22_94 : j_code jP 81 94 = some (.getfield 24) := rfl
set_option maxRecDepth 100000 in
theorem xc22_97 : j_code jP 81 97 = some (.iload 5) := rfl
set_option maxRecDepth 100000 in
theorem xc22_99 : j_code jP 81 99 = some (.iaload) := rfl
set_option maxRecDepth 100000 in
theorem xc22_100 : j_code jP 81 100 = some (.ishr) := rfl
set_option maxRecDepth 100000 in
theorem xc22_101 : j_code jP 81 101 = some (.iconst 1) := rfl
set_option maxRecDepth 100000 in
theorem xc22_102 : j_code jP 81 102 = some (.iand) := rfl
set_option maxRecDepth 100000 in
theorem xc22_103 : j_code jP 81 103 = some (.ifCond .eq 12) := rfl
set_option maxRecDepth 100000 in
theorem xc22_106 : j_code jP 81 106 = some (.iload 4) := rfl
set_option maxRecDepth 100000 in
theorem xc22_108 : j_code jP 81 108 = some (.iconst 1) := rfl
set_option maxRecDepth 100000 in
theorem xc22_109 : j_code jP 81 109 = some (.iload 5) := rfl
set_option maxRecDepth 100000 in
theorem xc22_111 : j_code jP 81 111 = some (.ishl) := rfl
set_option maxRecDepth 100000 in
theorem xc22_112 : j_code jP 81 112 = some (.ior) := rfl
set_option maxRecDepth 100000 in
theorem xc22_113 : j_code jP 81 113 = some (.istore 4) := rfl
set_option maxRecDepth 100000 in
theorem xc22_115 : j_code jP 81 115 = some (.iinc 5 1) := rfl
set_option maxRecDepth 100000 in
theorem xc22_118 : j_code jP 81 118 = some (.goto (-49)) := rfl
set_option maxRecDepth 100000 in
theorem xc22_121 : j_code jP 81 121 = some (.iload 4) := rfl
set_option maxRecDepth 100000 in
theorem xc22_123 : j_code jP 81 123 = some (.ireturn) := rfl
set_option maxRecDepth 1000000 in
theorem xc22_ok_l69 {mi : Int32} {shu : Int32} {bus : Int32} {lks : Int32} {ph : List Int32} {sp : List Int32} {ce : List Int32} {ri : List Int32} {ns : Int32} {nt : Int32} {cel : Int32} {tra : List Int32} {len : List Int32} {frm : List Int32} {tto : List Int32} {fit : List Int32} {v1 v2 v3 : Int32} {d : Nat} {h h0 : J_H} : ∀ (f : Nat) (v5 v4 : Int32) {lv : J_L}, lpN nt v5 = f → LK lv [(0, .ref 282), (1, .int v1), (2, .int v2), (3, .int v3), (4, .int v4), (5, .int v5)] → KN h [(282, .inl (7, [.ref 327, .int mi, .int shu, .int bus, .ref 283, .ref 284, .ref 285, .ref 286, .ref 287, .ref 288, .ref 289, .ref 290, .ref 291, .ref 292, .ref 293, .int lks, .ref 294, .ref 295, .ref 298])), (285, .inr (.inl (0, ph))), (286, .inr (.inl (0, sp))), (287, .inr (.inl (0, ce))), (290, .inr (.inl (0, ri))), (327, .inl (2, [.int ns, .ref 328, .ref 329, .ref 330, .ref 331, .int nt, .ref 332, .ref 333, .ref 334, .ref 335, .ref 336, .ref 337, .ref 338, .int cel, .ref 339, .ref 340, .ref 341, .ref 342])), (330, .inr (.inl (0, tra))), (331, .inr (.inl (0, len))), (334, .inr (.inl (0, frm))), (335, .inr (.inl (0, tto))), (339, .inr (.inl (0, fit)))] h0 → j_V jP d 81 69 lv [] h (fun rv h' => rv = some (.int (x_waitsFor_l69 ce v1 v2 v3 f v5 v4)) ∧ h' = h) := by
  intro f
  induction f with
  | zero =>
    intro v5 v4 lv e L K
    refine j_V.ldL xc22_M xc22_69 rfl (i := 5) (kd := 0) (v := .int v5) (pcJ := 71) rfl L rfl rfl rfl ?_
    refine j_V.ldL xc22_M xc22_71 rfl (i := 0) (kd := 2) (v := .ref 282) (pcJ := 72) rfl L rfl rfl rfl ?_
    refine j_V.getK xc22_M xc22_72 (ci := 7) (j := 0) rfl K rfl rfl ?_
    refine j_V.getK xc22_M xc22_75 (ci := 2) (j := 5) rfl K rfl rfl ?_
    refine j_V.icmp xc22_M xc22_78 (t := 121) rfl (fun c78_0 => ?_) (fun c78_0 => ?_)
    · replace c78_0 : ¬ (v5 < nt) := jd_ge c78_0
      refine j_V.ldL xc22_M xc22_121 rfl (i := 4) (kd := 0) (v := .int v4) (pcJ := 123) rfl L rfl rfl rfl ?_
      exact j_V.ri xc22_M xc22_123 ⟨congrArg (fun z => some (Value.int z)) (Eq.symm (show (x_waitsFor_l69 ce v1 v2 v3 0 v5 v4) = v4 from rfl)), rfl⟩
    · replace c78_0 : v5 < nt := jd_gen c78_0
      exact absurd c78_0 (lpN_z e)
  | succ f ih =>
    intro v5 v4 lv e L K
    refine j_V.ldL xc22_M xc22_69 rfl (i := 5) (kd := 0) (v := .int v5) (pcJ := 71) rfl L rfl rfl rfl ?_
    refine j_V.ldL xc22_M xc22_71 rfl (i := 0) (kd := 2) (v := .ref 282) (pcJ := 72) rfl L rfl rfl rfl ?_
    refine j_V.getK xc22_M xc22_72 (ci := 7) (j := 0) rfl K rfl rfl ?_
    refine j_V.getK xc22_M xc22_75 (ci := 2) (j := 5) rfl K rfl rfl ?_
    refine j_V.icmp xc22_M xc22_78 (t := 121) rfl (fun c78_0 => ?_) (fun c78_0 => ?_)
    · replace c78_0 : ¬ (v5 < nt) := jd_ge c78_0
      exact absurd (lpN_s e) c78_0
    · replace c78_0 : v5 < nt := jd_gen c78_0
      refine j_V.ldL xc22_M xc22_81 rfl (i := 0) (kd := 2) (v := .ref 282) (pcJ := 82) rfl L rfl rfl rfl ?_
      refine j_V.getK xc22_M xc22_82 (ci := 7) (j := 8) rfl K rfl rfl ?_
      refine j_V.ldL xc22_M xc22_85 rfl (i := 5) (kd := 0) (v := .int v5) (pcJ := 87) rfl L rfl rfl rfl ?_
      refine j_V.iaA xc22_M xc22_87 K rfl ?_
      refine j_V.one xc22_M xc22_88 (by decide) (pcJ := 89) (stJ := [.int (-1), .int (gA ce v5)]) rfl ?_
      refine j_V.cut (b := 115) (stJ := []) (fun v => [(0, .ref 282), (1, .int v1), (2, .int v2), (3, .int v3), (4, .int v), (5, .int v5)]) ((if (gA ce v5) = (-1) then v4 else (if ((v3 >>> ((gA ce v5) &&& 31)) &&& 1) = 0 then v4 else (v4 ||| (1 <<< (v5 &&& 31))))) : Int32) (fun Q kk => ?_) (fun lv L => ?_)
      · refine j_V.icmp xc22_M xc22_89 (t := 115) rfl (fun c89_0 => ?_) (fun c89_0 => ?_)
        · replace c89_0 : (gA ce v5) = (-1) := jd_eq c89_0
          exact kk _ (Eq.subst (motive := fun z => LK _ ((fun v => [(0, .ref 282), (1, .int v1), (2, .int v2), (3, .int v3), (4, .int v), (5, .int v5)]) z)) (show v4 = ((if (gA ce v5) = (-1) then v4 else (if ((v3 >>> ((gA ce v5) &&& 31)) &&& 1) = 0 then v4 else (v4 ||| (1 <<< (v5 &&& 31))))) : Int32) from Eq.symm ((if_pos c89_0).trans (rfl))) L)
        · replace c89_0 : ¬ ((gA ce v5) = (-1)) := jd_eqn c89_0
          refine j_V.ldL xc22_M xc22_92 rfl (i := 3) (kd := 0) (v := .int v3) (pcJ := 93) rfl L rfl rfl rfl ?_
          refine j_V.ldL xc22_M xc22_93 rfl (i := 0) (kd := 2) (v := .ref 282) (pcJ := 94) rfl L rfl rfl rfl ?_
          refine j_V.getK xc22_M xc22_94 (ci := 7) (j := 8) rfl K rfl rfl ?_
          refine j_V.ldL xc22_M xc22_97 rfl (i := 5) (kd := 0) (v := .int v5) (pcJ := 99) rfl L rfl rfl rfl ?_
          refine j_V.iaA xc22_M xc22_99 K rfl ?_
          refine j_V.one xc22_M xc22_100 (by decide) (pcJ := 101) (stJ := [.int (v3 >>> ((gA ce v5) &&& 31))]) rfl ?_
          refine j_V.one xc22_M xc22_101 (by decide) (pcJ := 102) (stJ := [.int 1, .int (v3 >>> ((gA ce v5) &&& 31))]) rfl ?_
          refine j_V.one xc22_M xc22_102 (by decide) (pcJ := 103) (stJ := [.int ((v3 >>> ((gA ce v5) &&& 31)) &&& 1)]) rfl ?_
          refine j_V.ifc xc22_M xc22_103 (t := 115) rfl (fun c103_1 => ?_) (fun c103_1 => ?_)
          · replace c103_1 : ((v3 >>> ((gA ce v5) &&& 31)) &&& 1) = 0 := jd_eq c103_1
            exact kk _ (Eq.subst (motive := fun z => LK _ ((fun v => [(0, .ref 282), (1, .int v1), (2, .int v2), (3, .int v3), (4, .int v), (5, .int v5)]) z)) (show v4 = ((if (gA ce v5) = (-1) then v4 else (if ((v3 >>> ((gA ce v5) &&& 31)) &&& 1) = 0 then v4 else (v4 ||| (1 <<< (v5 &&& 31))))) : Int32) from Eq.symm ((if_neg c89_0).trans ((if_pos c103_1).trans (rfl)))) L)
          · replace c103_1 : ¬ (((v3 >>> ((gA ce v5) &&& 31)) &&& 1) = 0) := jd_eqn c103_1
            refine j_V.ldL xc22_M xc22_106 rfl (i := 4) (kd := 0) (v := .int v4) (pcJ := 108) rfl L rfl rfl rfl ?_
            refine j_V.one xc22_M xc22_108 (by decide) (pcJ := 109) (stJ := [.int 1, .int v4]) rfl ?_
            refine j_V.ldL xc22_M xc22_109 rfl (i := 5) (kd := 0) (v := .int v5) (pcJ := 111) rfl L rfl rfl rfl ?_
            refine j_V.one xc22_M xc22_111 (by decide) (pcJ := 112) (stJ := [.int (1 <<< (v5 &&& 31)), .int v4]) rfl ?_
            refine j_V.one xc22_M xc22_112 (by decide) (pcJ := 113) (stJ := [.int (v4 ||| (1 <<< (v5 &&& 31)))]) rfl ?_
            refine j_V.stL xc22_M xc22_113 rfl (i := 4) (kd := 0) (kl' := [(0, .ref 282), (1, .int v1), (2, .int v2), (3, .int v3), (4, .int (v4 ||| (1 <<< (v5 &&& 31)))), (5, .int v5)]) (pcJ := 115) rfl L rfl (by decide) rfl rfl rfl (fun lv L => ?_)
            exact kk _ (Eq.subst (motive := fun z => LK _ ((fun v => [(0, .ref 282), (1, .int v1), (2, .int v2), (3, .int v3), (4, .int v), (5, .int v5)]) z)) (show (v4 ||| (1 <<< (v5 &&& 31))) = ((if (gA ce v5) = (-1) then v4 else (if ((v3 >>> ((gA ce v5) &&& 31)) &&& 1) = 0 then v4 else (v4 ||| (1 <<< (v5 &&& 31))))) : Int32) from Eq.symm ((if_neg c89_0).trans ((if_neg c103_1).trans (rfl)))) L)
      refine j_V.inL xc22_M xc22_115 (i := 5) (kl' := [(0, .ref 282), (1, .int v1), (2, .int v2), (3, .int v3), (4, .int ((if (gA ce v5) = (-1) then v4 else (if ((v3 >>> ((gA ce v5) &&& 31)) &&& 1) = 0 then v4 else (v4 ||| (1 <<< (v5 &&& 31))))) : Int32)), (5, .int (v5 + 1))]) (pcJ := 118) L rfl rfl rfl rfl (fun lv L => ?_)
      refine j_V.gto xc22_M xc22_118 (t := 69) rfl ?_
      refine j_V.mono (ih ((v5 + 1)) (((if (gA ce v5) = (-1) then v4 else (if ((v3 >>> ((gA ce v5) &&& 31)) &&& 1) = 0 then v4 else (v4 ||| (1 <<< (v5 &&& 31))))) : Int32)) (lpN_n e) L K) ?_
      rintro r hz ⟨rfl, rfl⟩
      exact ⟨congrArg (fun z => some (Value.int z)) (Eq.symm (show (x_waitsFor_l69 ce v1 v2 v3 (f + 1) v5 v4) = (x_waitsFor_l69 ce v1 v2 v3 f ((v5 + 1)) (((if (gA ce v5) = (-1) then v4 else (if ((v3 >>> ((gA ce v5) &&& 31)) &&& 1) = 0 then v4 else (v4 ||| (1 <<< (v5 &&& 31))))) : Int32))) from rfl)), rfl⟩
set_option maxRecDepth 1000000 in
theorem xc22_ok {mi : Int32} {shu : Int32} {bus : Int32} {lks : Int32} {ph : List Int32} {sp : List Int32} {ce : List Int32} {ri : List Int32} {ns : Int32} {nt : Int32} {cel : Int32} {tra : List Int32} {len : List Int32} {frm : List Int32} {tto : List Int32} {fit : List Int32} {x1 : Int32} {d : Nat} {h h0 : J_H} (K : KN h [(282, .inl (7, [.ref 327, .int mi, .int shu, .int bus, .ref 283, .ref 284, .ref 285, .ref 286, .ref 287, .ref 288, .ref 289, .ref 290, .ref 291, .ref 292, .ref 293, .int lks, .ref 294, .ref 295, .ref 298])), (285, .inr (.inl (0, ph))), (286, .inr (.inl (0, sp))), (287, .inr (.inl (0, ce))), (290, .inr (.inl (0, ri))), (327, .inl (2, [.int ns, .ref 328, .ref 329, .ref 330, .ref 331, .int nt, .ref 332, .ref 333, .ref 334, .ref 335, .ref 336, .ref 337, .ref 338, .int cel, .ref 339, .ref 340, .ref 341, .ref 342])), (330, .inr (.inl (0, tra))), (331, .inr (.inl (0, len))), (334, .inr (.inl (0, frm))), (335, .inr (.inl (0, tto))), (339, .inr (.inl (0, fit)))] h0) : j_V jP d 81 0 (lv_args 0 [.ref 282, .int x1]) [] h (fun rv h' => rv = some (.int (x_waitsFor shu bus ph sp ce ri nt tra len frm tto fit x1)) ∧ h' = h) := by
  show j_V jP d 81 0 [(0, .ref 282), (1, .int x1)] [] h _
  obtain ⟨lv, elv, L⟩ : ∃ lv, lv = [(0, .ref 282), (1, .int x1)] ∧ LK lv [(0, .ref 282), (1, .int x1)] := ⟨_, rfl, LK.rf⟩
  rw [← elv]
  clear elv
  refine j_V.ldL xc22_M xc22_0 rfl (i := 0) (kd := 2) (v := .ref 282) (pcJ := 1) rfl L rfl rfl rfl ?_
  refine j_V.getK xc22_M xc22_1 (ci := 7) (j := 6) rfl K rfl rfl ?_
  refine j_V.ldL xc22_M xc22_4 rfl (i := 1) (kd := 0) (v := .int x1) (pcJ := 5) rfl L rfl rfl rfl ?_
  refine j_V.iaA xc22_M xc22_5 K rfl ?_
  refine j_V.one xc22_M xc22_6 (by decide) (pcJ := 7) (stJ := [.int 1, .int (gA ph x1)]) rfl ?_
  refine j_V.icmp xc22_M xc22_7 (t := 18) rfl (fun c7_0 => ?_) (fun c7_0 => ?_)
  · replace c7_0 : ¬ ((gA ph x1) = 1) := jd_ne c7_0
    refine j_V.one xc22_M xc22_18 (by decide) (pcJ := 19) (stJ := [.int 0]) rfl ?_
    exact j_V.ri xc22_M xc22_19 ⟨congrArg (fun z => some (Value.int z)) (Eq.symm (show (x_waitsFor shu bus ph sp ce ri nt tra len frm tto fit x1) = 0 from (if_neg c7_0).trans (rfl))), rfl⟩
  · replace c7_0 : (gA ph x1) = 1 := jd_nen c7_0
    refine j_V.ldL xc22_M xc22_10 rfl (i := 0) (kd := 2) (v := .ref 282) (pcJ := 11) rfl L rfl rfl rfl ?_
    refine j_V.ldL xc22_M xc22_11 rfl (i := 1) (kd := 0) (v := .int x1) (pcJ := 12) rfl L rfl rfl rfl ?_
    refine j_V.cl xc22_M xc22_12 rfl (md := 3) (mj := 79) rfl (by decide) xc20_M (As := [.ref 282, .int x1]) (rest := []) (jk_spl3 (K.at rfl) rfl rfl rfl (Nat.le_of_ble_eq_true rfl) (Nat.le_of_ble_eq_true rfl)) (fun d => xc20_ok (K.fi [282, 285, 286, 290, 327, 331, 334, 335, 339] rfl rfl)) ?_
    rintro r hz ⟨rfl, ez⟩
    rw [ez]
    clear ez
    show j_V jP _ 81 15 lv [.int (x_canMove shu bus ph sp ri len frm tto fit x1)] h _
    refine j_V.ifc xc22_M xc22_15 (t := 20) rfl (fun c15_1 => ?_) (fun c15_1 => ?_)
    · replace c15_1 : (x_canMove shu bus ph sp ri len frm tto fit x1) = 0 := jd_eq c15_1
      refine j_V.ldL xc22_M xc22_20 rfl (i := 0) (kd := 2) (v := .ref 282) (pcJ := 21) rfl L rfl rfl rfl ?_
      refine j_V.getK xc22_M xc22_21 (ci := 7) (j := 11) rfl K rfl rfl ?_
      refine j_V.ldL xc22_M xc22_24 rfl (i := 0) (kd := 2) (v := .ref 282) (pcJ := 25) rfl L rfl rfl rfl ?_
      refine j_V.ldL xc22_M xc22_25 rfl (i := 1) (kd := 0) (v := .int x1) (pcJ := 26) rfl L rfl rfl rfl ?_
      refine j_V.cl xc22_M xc22_26 rfl (md := 3) (mj := 84) rfl (by decide) xc17_M (As := [.ref 282, .int x1]) (rest := [.ref 290]) (jk_spl3 (K.at rfl) rfl rfl rfl (Nat.le_of_ble_eq_true rfl) (Nat.le_of_ble_eq_true rfl)) (fun d => xc17_ok (K.fi [282, 286, 327, 335] rfl rfl)) ?_
      rintro r hz ⟨rfl, ez⟩
      rw [ez]
      clear ez
      show j_V jP _ 81 29 lv [.int (x_sectionAhead sp tto x1), .ref 290] h _
      refine j_V.iaA xc22_M xc22_29 K rfl ?_
      refine j_V.stL xc22_M xc22_30 rfl (i := 2) (kd := 0) (kl' := [(0, .ref 282), (1, .int x1), (2, .int (gA ri (x_sectionAhead sp tto x1)))]) (pcJ := 31) rfl L rfl (by decide) rfl rfl rfl (fun lv L => ?_)
      refine j_V.ldL xc22_M xc22_31 rfl (i := 2) (kd := 0) (v := .int (gA ri (x_sectionAhead sp tto x1))) (pcJ := 32) rfl L rfl rfl rfl ?_
      refine j_V.one xc22_M xc22_32 (by decide) (pcJ := 33) (stJ := [.int (-1), .int (gA ri (x_sectionAhead sp tto x1))]) rfl ?_
      refine j_V.icmp xc22_M xc22_33 (t := 40) rfl (fun c33_2 => ?_) (fun c33_2 => ?_)
      · replace c33_2 : (gA ri (x_sectionAhead sp tto x1)) = (-1) := jd_eq c33_2
        refine j_V.ldL xc22_M xc22_40 rfl (i := 0) (kd := 2) (v := .ref 282) (pcJ := 41) rfl L rfl rfl rfl ?_
        refine j_V.getK xc22_M xc22_41 (ci := 7) (j := 0) rfl K rfl rfl ?_
        refine j_V.getK xc22_M xc22_44 (ci := 2) (j := 14) rfl K rfl rfl ?_
        refine j_V.ldL xc22_M xc22_47 rfl (i := 1) (kd := 0) (v := .int x1) (pcJ := 48) rfl L rfl rfl rfl ?_
        refine j_V.iaA xc22_M xc22_48 K rfl ?_
        refine j_V.ldL xc22_M xc22_49 rfl (i := 0) (kd := 2) (v := .ref 282) (pcJ := 50) rfl L rfl rfl rfl ?_
        refine j_V.getK xc22_M xc22_50 (ci := 7) (j := 0) rfl K rfl rfl ?_
        refine j_V.ldL xc22_M xc22_53 rfl (i := 0) (kd := 2) (v := .ref 282) (pcJ := 54) rfl L rfl rfl rfl ?_
        refine j_V.ldL xc22_M xc22_54 rfl (i := 1) (kd := 0) (v := .int x1) (pcJ := 55) rfl L rfl rfl rfl ?_
        refine j_V.cl xc22_M xc22_55 rfl (md := 3) (mj := 83) rfl (by decide) xc16_M (As := [.ref 282, .int x1]) (rest := [.ref 327, .int (gA fit x1)]) (jk_spl3 (K.at rfl) rfl rfl rfl (Nat.le_of_ble_eq_true rfl) (Nat.le_of_ble_eq_true rfl)) (fun d => xc16_ok (K.fi [282, 286, 327, 335] rfl rfl)) ?_
        rintro r hz ⟨rfl, ez⟩
        rw [ez]
        clear ez
        show j_V jP _ 81 58 lv [.int (x_nextStation sp tto x1), .ref 327, .int (gA fit x1)] h _
        refine j_V.cl xc22_M xc22_58 rfl (md := 3) (mj := 23) rfl (by decide) xc00_M (As := [.ref 327, .int (x_nextStation sp tto x1)]) (rest := [.int (gA fit x1)]) (jk_spl3 (K.at rfl) rfl rfl rfl (Nat.le_of_ble_eq_true rfl) (Nat.le_of_ble_eq_true rfl)) (fun d => xc00_ok (K.fi [327, 330] rfl rfl)) ?_
        rintro r hz ⟨rfl, ez⟩
        rw [ez]
        clear ez
        show j_V jP _ 81 61 lv [.int (x_cellsOf tra (x_nextStation sp tto x1)), .int (gA fit x1)] h _
        refine j_V.one xc22_M xc22_61 (by decide) (pcJ := 62) (stJ := [.int ((gA fit x1) &&& (x_cellsOf tra (x_nextStation sp tto x1)))]) rfl ?_
        refine j_V.stL xc22_M xc22_62 rfl (i := 3) (kd := 0) (kl' := [(0, .ref 282), (1, .int x1), (2, .int (gA ri (x_sectionAhead sp tto x1))), (3, .int ((gA fit x1) &&& (x_cellsOf tra (x_nextStation sp tto x1))))]) (pcJ := 63) rfl L rfl (by decide) rfl rfl rfl (fun lv L => ?_)
        refine j_V.one xc22_M xc22_63 (by decide) (pcJ := 64) (stJ := [.int 0]) rfl ?_
        refine j_V.stL xc22_M xc22_64 rfl (i := 4) (kd := 0) (kl' := [(0, .ref 282), (1, .int x1), (2, .int (gA ri (x_sectionAhead sp tto x1))), (3, .int ((gA fit x1) &&& (x_cellsOf tra (x_nextStation sp tto x1)))), (4, .int 0)]) (pcJ := 66) rfl L rfl (by decide) rfl rfl rfl (fun lv L => ?_)
        refine j_V.one xc22_M xc22_66 (by decide) (pcJ := 67) (stJ := [.int 0]) rfl ?_
        refine j_V.stL xc22_M xc22_67 rfl (i := 5) (kd := 0) (kl' := [(0, .ref 282), (1, .int x1), (2, .int (gA ri (x_sectionAhead sp tto x1))), (3, .int ((gA fit x1) &&& (x_cellsOf tra (x_nextStation sp tto x1)))), (4, .int 0), (5, .int 0)]) (pcJ := 69) rfl L rfl (by decide) rfl rfl rfl (fun lv L => ?_)
        refine j_V.mono (xc22_ok_l69 _ (0) (0) rfl L K) ?_
        rintro r hz ⟨rfl, rfl⟩
        exact ⟨congrArg (fun z => some (Value.int z)) (Eq.symm (show (x_waitsFor shu bus ph sp ce ri nt tra len frm tto fit x1) = (x_waitsFor_l69 ce x1 ((gA ri (x_sectionAhead sp tto x1))) (((gA fit x1) &&& (x_cellsOf tra (x_nextStation sp tto x1)))) (lpN nt 0) 0 0) from (if_pos c7_0).trans ((if_pos c15_1).trans ((if_pos c33_2).trans (rfl))))), rfl⟩
      · replace c33_2 : ¬ ((gA ri (x_sectionAhead sp tto x1)) = (-1)) := jd_eqn c33_2
        refine j_V.one xc22_M xc22_36 (by decide) (pcJ := 37) (stJ := [.int 1]) rfl ?_
        refine j_V.ldL xc22_M xc22_37 rfl (i := 2) (kd := 0) (v := .int (gA ri (x_sectionAhead sp tto x1))) (pcJ := 38) rfl L rfl rfl rfl ?_
        refine j_V.one xc22_M xc22_38 (by decide) (pcJ := 39) (stJ := [.int (1 <<< ((gA ri (x_sectionAhead sp tto x1)) &&& 31))]) rfl ?_
        exact j_V.ri xc22_M xc22_39 ⟨congrArg (fun z => some (Value.int z)) (Eq.symm (show (x_waitsFor shu bus ph sp ce ri nt tra len frm tto fit x1) = (1 <<< ((gA ri (x_sectionAhead sp tto x1)) &&& 31)) from (if_pos c7_0).trans ((if_pos c15_1).trans ((if_neg c33_2).trans (rfl))))), rfl⟩
    · replace c15_1 : ¬ ((x_canMove shu bus ph sp ri len frm tto fit x1) = 0) := jd_eqn c15_1
      refine j_V.one xc22_M xc22_18 (by decide) (pcJ := 19) (stJ := [.int 0]) rfl ?_
      exact j_V.ri xc22_M xc22_19 ⟨congrArg (fun z => some (Value.int z)) (Eq.symm (show (x_waitsFor shu bus ph sp ce ri nt tra len frm tto fit x1) = 0 from (if_pos c7_0).trans ((if_neg c15_1).trans (rfl)))), rfl⟩
set_option maxRecDepth 100000 in
theorem xc23_M : j_meth jP 87 = some (yX7_hasLink, cX7_hasLink, 5, (some .boolean), 3, false, 7) := rfl
set_option maxRecDepth 100000 in
theorem xc23_0 : j_code jP 87 0 = some (.iconst 0) := rfl
set_option maxRecDepth 100000 in
theorem xc23_1 : j_code jP 87 1 = some (.istore 4) := rfl
set_option maxRecDepth 100000 in
theorem xc23_3 : j_code jP 87 3 = some (.iload 4) := rfl
set_option maxRecDepth 100000 in
theorem xc23_5 : j_code jP 87 5 = some (.aload_n 0) := rfl
set_option maxRecDepth 100000 in
theorem xc23_6 : j_code jP 87 6 = some (.getfield 78) := rfl
set_option maxRecDepth 100000 in
theorem xc23_9 : j_code jP 87 9 = some (.if_icmp .ge 54) := rfl
set_option maxRecDepth 100000 in
theorem xc23_12 : j_code jP 87 12 = some (.aload_n 0) := rfl
set_option maxRecDepth 100000 in
theorem xc23_13 : j_code jP 87 13 = some (.getfield 45) := rfl
set_option maxRecDepth 100000 in
theorem xc23_16 : j_code jP 87 16 = some (.iconst 3) := rfl
set_option maxRecDepth 100000 in
theorem xc23_17 : j_code jP 87 17 = some (.iload 4) := rfl
set_option maxRecDepth 100000 in
theorem xc23_19 : j_code jP 87 19 = some (.imul) := rfl
set_option maxRecDepth 100000 in
theorem xc23_20 : j_code jP 87 20 = some (.iaload) := rfl
set_option maxRecDepth 100000 in
theorem xc23_21 : j_code jP 87 21 = some (.iload_n 1) := rfl
set_option maxRecDepth 100000 in
theorem xc23_22 : j_code jP 87 22 = some (.if_icmp .ne 35) := rfl
set_option maxRecDepth 100000 in
theorem xc23_25 : j_code jP 87 25 = some (.aload_n 0) := rfl
set_option maxRecDepth 100000 in
theorem xc23_26 : j_code jP 87 26 = some (.getfield 45) := rfl
set_option maxRecDepth 100000 in
theorem xc23_29 : j_code jP 87 29 = some (.iconst 3) := rfl
set_option maxRecDepth 100000 in
theorem xc23_30 : j_code jP 87 30 = some (.iload 4) := rfl
set_option maxRecDepth 100000 in
theorem xc23_32 : j_code jP 87 32 = some (.imul) := rfl
set_option maxRecDepth 100000 in
theorem xc23_33 : j_code jP 87 33 = some (.iconst 1) := rfl
set_option maxRecDepth 100000 in
theorem xc23_34 : j_code jP 87 34 = some (.iadd) := rfl
set_option maxRecDepth 100000 in
theorem xc23_35 : j_code jP 87 35 = some (.iaload) := rfl
set_option maxRecDepth 100000 in
theorem xc23_36 : j_code jP 87 36 = some (.iload_n 2) := rfl
set_option maxRecDepth 100000 in
theorem xc23_37 : j_code jP 87 37 = some (.if_icmp .ne 20) := rfl
set_option maxRecDepth 100000 in
theorem xc23_40 : j_code jP 87 40 = some (.aload_n 0) := rfl
set_option maxRecDepth 100000 in
theorem xc23_41 : j_code jP 87 41 = some (.getfield 45) := rfl
set_option maxRecDepth 100000 in
theorem xc23_44 : j_code jP 87 44 = some (.iconst 3) := rfl
set_option maxRecDepth 100000 in
theorem xc23_45 : j_code jP 87 45 = some (.iload 4) := rfl
set_option maxRecDepth 100000 in
theorem xc23_47 : j_code jP 87 47 = some (.imul) := rfl
set_option maxRecDepth 100000 in
theorem xc23_48 : j_code jP 87 48 = some (.iconst 2) := rfl
set_option maxRecDepth 100000 in
theorem xc23_49 : j_code jP 87 49 = some (.iadd) := rfl
set_option maxRecDepth 100000 in
theorem xc23_50 : j_code jP 87 50 = some (.iaload) := rfl
set_option maxRecDepth 100000 in
theorem xc23_51 : j_code jP 87 51 = some (.iload_n 3) := rfl
set_option maxRecDepth 100000 in
theorem xc23_52 : j_code jP 87 52 = some (.if_icmp .ne 5) := rfl
set_option maxRecDepth 100000 in
theorem xc23_55 : j_code jP 87 55 = some (.iconst 1) := rfl
set_option maxRecDepth 100000 in
theorem xc23_56 : j_code jP 87 56 = some (.ireturn) := rfl
set_option maxRecDepth 100000 in
theorem xc23_57 : j_code jP 87 57 = some (.iinc 4 1) := rfl
set_option maxRecDepth 100000 in
theorem xc23_60 : j_code jP 87 60 = some (.goto (-57)) := rfl
set_option maxRecDepth 100000 in
theorem xc23_63 : j_code jP 87 63 = some (.iconst 0) := rfl
set_option maxRecDepth 100000 in
theorem xc23_64 : j_code jP 87 64 = some (.ireturn) := rfl
set_option maxRecDepth 1000000 in
theorem xc23_ok_l3 {mi : Int32} {shu : Int32} {bus : Int32} {lks : Int32} {lkd : List Int32} {v1 v2 v3 : Int32} {d : Nat} {h h0 : J_H} : ∀ (f : Nat) (v4 : Int32) {lv : J_L}, lpN lks v4 = f → LK lv [(0, .ref 282), (1, .int v1), (2, .int v2), (3, .int v3), (4, .int v4)] → KN h [(282, .inl (7, [.ref 327, .int mi, .int shu, .int bus, .ref 283, .ref 284, .ref 285, .ref 286, .ref 287, .ref 288, .ref 289, .ref 290, .ref 291, .ref 292, .ref 293, .int lks, .ref 294, .ref 295, .ref 298])), (294, .inr (.inl (0, lkd)))] h0 → j_V jP d 87 3 lv [] h (fun rv h' => rv = some (.int (x_hasLink_l3 lkd v1 v2 v3 f v4)) ∧ h' = h) := by
  intro f
  induction f with
  | zero =>
    intro v4 lv e L K
    refine j_V.ldL xc23_M xc23_3 rfl (i := 4) (kd := 0) (v := .int v4) (pcJ := 5) rfl L rfl rfl rfl ?_
    refine j_V.ldL xc23_M xc23_5 rfl (i := 0) (kd := 2) (v := .ref 282) (pcJ := 6) rfl L rfl rfl rfl ?_
    refine j_V.getK xc23_M xc23_6 (ci := 7) (j := 15) rfl K rfl rfl ?_
    refine j_V.icmp xc23_M xc23_9 (t := 63) rfl (fun c9_0 => ?_) (fun c9_0 => ?_)
    · replace c9_0 : ¬ (v4 < lks) := jd_ge c9_0
      refine j_V.one xc23_M xc23_63 (by decide) (pcJ := 64) (stJ := [.int 0]) rfl ?_
      exact j_V.ri xc23_M xc23_64 ⟨congrArg (fun z => some (Value.int z)) (Eq.symm (show (x_hasLink_l3 lkd v1 v2 v3 0 v4) = 0 from rfl)), rfl⟩
    · replace c9_0 : v4 < lks := jd_gen c9_0
      exact absurd c9_0 (lpN_z e)
  | succ f ih =>
    intro v4 lv e L K
    refine j_V.ldL xc23_M xc23_3 rfl (i := 4) (kd := 0) (v := .int v4) (pcJ := 5) rfl L rfl rfl rfl ?_
    refine j_V.ldL xc23_M xc23_5 rfl (i := 0) (kd := 2) (v := .ref 282) (pcJ := 6) rfl L rfl rfl rfl ?_
    refine j_V.getK xc23_M xc23_6 (ci := 7) (j := 15) rfl K rfl rfl ?_
    refine j_V.icmp xc23_M xc23_9 (t := 63) rfl (fun c9_0 => ?_) (fun c9_0 => ?_)
    · replace c9_0 : ¬ (v4 < lks) := jd_ge c9_0
      exact absurd (lpN_s e) c9_0
    · replace c9_0 : v4 < lks := jd_gen c9_0
      refine j_V.ldL xc23_M xc23_12 rfl (i := 0) (kd := 2) (v := .ref 282) (pcJ := 13) rfl L rfl rfl rfl ?_
      refine j_V.getK xc23_M xc23_13 (ci := 7) (j := 16) rfl K rfl rfl ?_
      refine j_V.one xc23_M xc23_16 (by decide) (pcJ := 17) (stJ := [.int 3, .ref 294]) rfl ?_
      refine j_V.ldL xc23_M xc23_17 rfl (i := 4) (kd := 0) (v := .int v4) (pcJ := 19) rfl L rfl rfl rfl ?_
      refine j_V.one xc23_M xc23_19 (by decide) (pcJ := 20) (stJ := [.int (3 * v4), .ref 294]) rfl ?_
      refine j_V.iaA xc23_M xc23_20 K rfl ?_
      refine j_V.ldL xc23_M xc23_21 rfl (i := 1) (kd := 0) (v := .int v1) (pcJ := 22) rfl L rfl rfl rfl ?_
      refine j_V.icmp xc23_M xc23_22 (t := 57) rfl (fun c22_0 => ?_) (fun c22_0 => ?_)
      · replace c22_0 : ¬ ((gA lkd (3 * v4)) = v1) := jd_ne c22_0
        refine j_V.inL xc23_M xc23_57 (i := 4) (kl' := [(0, .ref 282), (1, .int v1), (2, .int v2), (3, .int v3), (4, .int (v4 + 1))]) (pcJ := 60) L rfl rfl rfl rfl (fun lv L => ?_)
        refine j_V.gto xc23_M xc23_60 (t := 3) rfl ?_
        refine j_V.mono (ih ((v4 + 1)) (lpN_n e) L K) ?_
        rintro r hz ⟨rfl, rfl⟩
        exact ⟨congrArg (fun z => some (Value.int z)) (Eq.symm (show (x_hasLink_l3 lkd v1 v2 v3 (f + 1) v4) = (x_hasLink_l3 lkd v1 v2 v3 f ((v4 + 1))) from (if_neg c22_0).trans (rfl))), rfl⟩
      · replace c22_0 : (gA lkd (3 * v4)) = v1 := jd_nen c22_0
        refine j_V.ldL xc23_M xc23_25 rfl (i := 0) (kd := 2) (v := .ref 282) (pcJ := 26) rfl L rfl rfl rfl ?_
        refine j_V.getK xc23_M xc23_26 (ci := 7) (j := 16) rfl K rfl rfl ?_
        refine j_V.one xc23_M xc23_29 (by decide) (pcJ := 30) (stJ := [.int 3, .ref 294]) rfl ?_
        refine j_V.ldL xc23_M xc23_30 rfl (i := 4) (kd := 0) (v := .int v4) (pcJ := 32) rfl L rfl rfl rfl ?_
        refine j_V.one xc23_M xc23_32 (by decide) (pcJ := 33) (stJ := [.int (3 * v4), .ref 294]) rfl ?_
        refine j_V.one xc23_M xc23_33 (by decide) (pcJ := 34) (stJ := [.int 1, .int (3 * v4), .ref 294]) rfl ?_
        refine j_V.one xc23_M xc23_34 (by decide) (pcJ := 35) (stJ := [.int ((3 * v4) + 1), .ref 294]) rfl ?_
        refine j_V.iaA xc23_M xc23_35 K rfl ?_
        refine j_V.ldL xc23_M xc23_36 rfl (i := 2) (kd := 0) (v := .int v2) (pcJ := 37) rfl L rfl rfl rfl ?_
        refine j_V.icmp xc23_M xc23_37 (t := 57) rfl (fun c37_1 => ?_) (fun c37_1 => ?_)
        · replace c37_1 : ¬ ((gA lkd ((3 * v4) + 1)) = v2) := jd_ne c37_1
          refine j_V.inL xc23_M xc23_57 (i := 4) (kl' := [(0, .ref 282), (1, .int v1), (2, .int v2), (3, .int v3), (4, .int (v4 + 1))]) (pcJ := 60) L rfl rfl rfl rfl (fun lv L => ?_)
          refine j_V.gto xc23_M xc23_60 (t := 3) rfl ?_
          refine j_V.mono (ih ((v4 + 1)) (lpN_n e) L K) ?_
          rintro r hz ⟨rfl, rfl⟩
          exact ⟨congrArg (fun z => some (Value.int z)) (Eq.symm (show (x_hasLink_l3 lkd v1 v2 v3 (f + 1) v4) = (x_hasLink_l3 lkd v1 v2 v3 f ((v4 + 1))) from (if_pos c22_0).trans ((if_neg c37_1).trans (rfl)))), rfl⟩
        · replace c37_1 : (gA lkd ((3 * v4) + 1)) = v2 := jd_nen c37_1
          refine j_V.ldL xc23_M xc23_40 rfl (i := 0) (kd := 2) (v := .ref 282) (pcJ := 41) rfl L rfl rfl rfl ?_
          refine j_V.getK xc23_M xc23_41 (ci := 7) (j := 16) rfl K rfl rfl ?_
          refine j_V.one xc23_M xc23_44 (by decide) (pcJ := 45) (stJ := [.int 3, .ref 294]) rfl ?_
          refine j_V.ldL xc23_M xc23_45 rfl (i := 4) (kd := 0) (v := .int v4) (pcJ := 47) rfl L rfl rfl rfl ?_
          refine j_V.one xc23_M xc23_47 (by decide) (pcJ := 48) (stJ := [.int (3 * v4), .ref 294]) rfl ?_
          refine j_V.one xc23_M xc23_48 (by decide) (pcJ := 49) (stJ := [.int 2, .int (3 * v4), .ref 294]) rfl ?_
          refine j_V.one xc23_M xc23_49 (by decide) (pcJ := 50) (stJ := [.int ((3 * v4) + 2), .ref 294]) rfl ?_
          refine j_V.iaA xc23_M xc23_50 K rfl ?_
          refine j_V.ldL xc23_M xc23_51 rfl (i := 3) (kd := 0) (v := .int v3) (pcJ := 52) rfl L rfl rfl rfl ?_
          refine j_V.icmp xc23_M xc23_52 (t := 57) rfl (fun c52_2 => ?_) (fun c52_2 => ?_)
          · replace c52_2 : ¬ ((gA lkd ((3 * v4) + 2)) = v3) := jd_ne c52_2
            refine j_V.inL xc23_M xc23_57 (i := 4) (kl' := [(0, .ref 282), (1, .int v1), (2, .int v2), (3, .int v3), (4, .int (v4 + 1))]) (pcJ := 60) L rfl rfl rfl rfl (fun lv L => ?_)
            refine j_V.gto xc23_M xc23_60 (t := 3) rfl ?_
            refine j_V.mono (ih ((v4 + 1)) (lpN_n e) L K) ?_
            rintro r hz ⟨rfl, rfl⟩
            exact ⟨congrArg (fun z => some (Value.int z)) (Eq.symm (show (x_hasLink_l3 lkd v1 v2 v3 (f + 1) v4) = (x_hasLink_l3 lkd v1 v2 v3 f ((v4 + 1))) from (if_pos c22_0).trans ((if_pos c37_1).trans ((if_neg c52_2).trans (rfl))))), rfl⟩
          · replace c52_2 : (gA lkd ((3 * v4) + 2)) = v3 := jd_nen c52_2
            refine j_V.one xc23_M xc23_55 (by decide) (pcJ := 56) (stJ := [.int 1]) rfl ?_
            exact j_V.ri xc23_M xc23_56 ⟨congrArg (fun z => some (Value.int z)) (Eq.symm (show (x_hasLink_l3 lkd v1 v2 v3 (f + 1) v4) = 1 from (if_pos c22_0).trans ((if_pos c37_1).trans ((if_pos c52_2).trans (rfl))))), rfl⟩
set_option maxRecDepth 1000000 in
theorem xc23_ok {mi : Int32} {shu : Int32} {bus : Int32} {lks : Int32} {lkd : List Int32} {x1 x2 x3 : Int32} {d : Nat} {h h0 : J_H} (K : KN h [(282, .inl (7, [.ref 327, .int mi, .int shu, .int bus, .ref 283, .ref 284, .ref 285, .ref 286, .ref 287, .ref 288, .ref 289, .ref 290, .ref 291, .ref 292, .ref 293, .int lks, .ref 294, .ref 295, .ref 298])), (294, .inr (.inl (0, lkd)))] h0) : j_V jP d 87 0 (lv_args 0 [.ref 282, .int x1, .int x2, .int x3]) [] h (fun rv h' => rv = some (.int (x_hasLink lks lkd x1 x2 x3)) ∧ h' = h) := by
  show j_V jP d 87 0 [(0, .ref 282), (1, .int x1), (2, .int x2), (3, .int x3)] [] h _
  obtain ⟨lv, elv, L⟩ : ∃ lv, lv = [(0, .ref 282), (1, .int x1), (2, .int x2), (3, .int x3)] ∧ LK lv [(0, .ref 282), (1, .int x1), (2, .int x2), (3, .int x3)] := ⟨_, rfl, LK.rf⟩
  rw [← elv]
  clear elv
  refine j_V.one xc23_M xc23_0 (by decide) (pcJ := 1) (stJ := [.int 0]) rfl ?_
  refine j_V.stL xc23_M xc23_1 rfl (i := 4) (kd := 0) (kl' := [(0, .ref 282), (1, .int x1), (2, .int x2), (3, .int x3), (4, .int 0)]) (pcJ := 3) rfl L rfl (by decide) rfl rfl rfl (fun lv L => ?_)
  refine j_V.mono (xc23_ok_l3 _ (0) rfl L K) ?_
  rintro r hz ⟨rfl, rfl⟩
  exact ⟨congrArg (fun z => some (Value.int z)) (Eq.symm (show (x_hasLink lks lkd x1 x2 x3) = (x_hasLink_l3 lkd x1 x2 x3 (lpN lks 0) 0) from rfl)), rfl⟩
set_option maxRecDepth 100000 in
theorem xc24_M : j_meth jP 88 = some (yX7_linkKeeps, cX7_linkKeeps, 5, (some .boolean), 1, false, 7) := rfl
set_option maxRecDepth 100000 in
theorem xc24_0 : j_code jP 88 0 = some (.aload_n 0) := rfl
set_option maxRecDepth 100000 in
theorem xc24_1 : j_code jP 88 1 = some (.getfield 45) := rfl
set_option maxRecDepth 100000 in
theorem xc24_4 : j_code jP 88 4 = some (.iconst 3) := rfl
set_option maxRecDepth 100000 in
theorem xc24_5 : j_code jP 88 5 = some (.iload_n 1) := rfl
set_option maxRecDepth 100000 in
theorem xc24_6 : j_code jP 88 6 = some (.imul) := rfl
set_option maxRecDepth 100000 in
theorem xc24_7 : j_code jP 88 7 = some (.iaload) := rfl
set_option maxRecDepth 100000 in
theorem xc24_8 : j_code jP 88 8 = some (.istore_n 2) := rfl
set_option maxRecDepth 100000 in
theorem xc24_9 : j_code jP 88 9 = some (.aload_n 0) := rfl
set_option maxRecDepth 100000 in
theorem xc24_10 : j_code jP 88 10 = some (.getfield 45) := rfl
set_option maxRecDepth 100000 in
theorem xc24_13 : j_code jP 88 13 = some (.iconst 3) := rfl
set_option maxRecDepth 100000 in
theorem xc24_14 : j_code jP 88 14 = some (.iload_n 1) := rfl
set_option maxRecDepth 100000 in
theorem xc24_15 : j_code jP 88 15 = some (.imul) := rfl
set_option maxRecDepth 100000 in
theorem xc24_16 : j_code jP 88 16 = some (.iconst 1) := rfl
set_option maxRecDepth 100000 in
theorem xc24_17 : j_code jP 88 17 = some (.iadd) := rfl
set_option maxRecDepth 100000 in
theorem xc24_18 : j_code jP 88 18 = some (.iaload) := rfl
set_option maxRecDepth 100000 in
theorem xc24_19 : j_code jP 88 19 = some (.istore_n 3) := rfl
set_option maxRecDepth 100000 in
theorem xc24_20 : j_code jP 88 20 = some (.aload_n 0) := rfl
set_option maxRecDepth 100000 in
theorem xc24_21 : j_code jP 88 21 = some (.getfield 45) := rfl
set_option maxRecDepth 100000 in
theorem xc24_24 : j_code jP 88 24 = some (.iconst 3) := rfl
set_option maxRecDepth 100000 in
theorem xc24_25 : j_code jP 88 25 = some (.iload_n 1) := rfl
set_option maxRecDepth 100000 in
theorem xc24_26 : j_code jP 88 26 = some (.imul) := rfl
set_option maxRecDepth 100000 in
theorem xc24_27 : j_code jP 88 27 = some (.iconst 2) := rfl
set_option maxRecDepth 100000 in
theorem xc24_28 : j_code jP 88 28 = some (.iadd) := rfl
set_option maxRecDepth 100000 in
theorem xc24_29 : j_code jP 88 29 = some (.iaload) := rfl
set_option maxRecDepth 100000 in
theorem xc24_30 : j_code jP 88 30 = some (.istore 4) := rfl
set_option maxRecDepth 100000 in
theorem xc24_32 : j_code jP 88 32 = some (.aload_n 0) := rfl
set_option maxRecDepth 100000 in
theorem xc24_33 : j_code jP 88 33 = some (.getfield 18) := rfl
set_option maxRecDepth 100000 in
theorem xc24_36 : j_code jP 88 36 = some (.iload_n 2) := rfl
set_option maxRecDepth 100000 in
theorem xc24_37 : j_code jP 88 37 = some (.iaload) := rfl
set_option maxRecDepth 100000 in
theorem xc24_38 : j_code jP 88 38 = some (.iconst 1) := rfl
set_option maxRecDepth 100000 in
theorem xc24_39 : j_code jP 88 39 = some (.if_icmp .ne 44) := rfl
set_option maxRecDepth 100000 in
theorem xc24_42 : j_code jP 88 42 = some (.aload_n 0) := rfl
set_option maxRecDepth 100000 in
theorem xc24_43 : j_code jP 88 43 = some (.getfield 21) := rfl
set_option maxRecDepth 100000 in
theorem xc24_46 : j_code jP 88 46 = some (.iload_n 2) := rfl
set_option maxRecDepth 100000 in
theorem xc24_47 : j_code jP 88 47 = some (.iaload) := rfl
set_option maxRecDepth 100000 in
theorem xc24_48 : j_code jP 88 48 = some (.iload_n 3) := rfl
set_option maxRecDepth 100000 in
theorem xc24_49 : j_code jP 88 49 = some (.if_icmp .ne 34) := rfl
set_option maxRecDepth 100000 in
theorem xc24_52 : j_code jP 88 52 = some (.aload_n 0) := rfl
set_option maxRecDepth 100000 in
theorem xc24_53 : j_code jP 88 53 = some (.getfield 18) := rfl
set_option maxRecDepth 100000 in
theorem xc24_56 : j_code jP 88 56 = some (.iload 4) := rfl
set_option maxRecDepth 100000 in
theorem xc24_58 : j_code jP 88 58 = some (.iaload) := rfl
set_option maxRecDepth 100000 in
theorem xc24_59 : j_code jP 88 59 = some (.iconst 3) := rfl
set_option maxRecDepth 100000 in
theorem xc24_60 : j_code jP 88 60 = some (.if_icmp .eq 23) := rfl
set_option maxRecDepth 100000 in
theorem xc24_63 : j_code jP 88 63 = some (.aload_n 0) := rfl
set_option maxRecDepth 100000 in
theorem xc24_64 : j_code jP 88 64 = some (.getfield 39) := rfl
set_option maxRecDepth 100000 in
theorem xc24_67 : j_code jP 88 67 = some (.iload 4) := rfl
set_option maxRecDepth 100000 in
theorem xc24_69 : j_code jP 88 69 = some (.bipush 7) := rfl
set_option maxRecDepth 100000 in
theorem xc24_71 : j_code jP 88 71 = some (.imul) := rfl
set_option maxRecDepth 100000 in
theorem xc24_72 : j_code jP 88 72 = some (.iload_n 3) := rfl
set_option maxRecDepth 100000 in
theorem xc24_73 : j_code jP 88 73 = some (.iadd) := rfl
set_option maxRecDepth 100000 in
theorem xc24_74 : j_code jP 88 74 = some (.iaload) := rfl
set_option maxRecDepth 100000 in
theorem xc24_75 : j_code jP 88 75 = some (.iconst (-1)) := rfl
set_option maxRecDepth 100000 in
theorem xc24_76 : j_code jP 88 76 = some (.if_icmp .ne 7) := rfl
set_option maxRecDepth 100000 in
theorem xc24_79 : j_code jP 88 79 = some (.iconst 1) := rfl
set_option maxRecDepth 100000 in
theorem xc24_80 : j_code jP 88 80 = some (.goto 4) := rfl
set_option maxRecDepth 100000 in
theorem xc24_83 : j_code jP 88 83 = some (.iconst 0) := rfl
set_option maxRecDepth 100000 in
theorem xc24_84 : j_code jP 88 84 = some (.ireturn) := rfl
set_option maxRecDepth 1000000 in
theorem xc24_ok {mi : Int32} {shu : Int32} {bus : Int32} {lks : Int32} {ph : List Int32} {sp : List Int32} {cm : List Int32} {lkd : List Int32} {x1 : Int32} {d : Nat} {h h0 : J_H} (K : KN h [(282, .inl (7, [.ref 327, .int mi, .int shu, .int bus, .ref 283, .ref 284, .ref 285, .ref 286, .ref 287, .ref 288, .ref 289, .ref 290, .ref 291, .ref 292, .ref 293, .int lks, .ref 294, .ref 295, .ref 298])), (285, .inr (.inl (0, ph))), (286, .inr (.inl (0, sp))), (292, .inr (.inl (0, cm))), (294, .inr (.inl (0, lkd)))] h0) : j_V jP d 88 0 (lv_args 0 [.ref 282, .int x1]) [] h (fun rv h' => rv = some (.int (x_linkKeeps ph sp cm lkd x1)) ∧ h' = h) := by
  show j_V jP d 88 0 [(0, .ref 282), (1, .int x1)] [] h _
  obtain ⟨lv, elv, L⟩ : ∃ lv, lv = [(0, .ref 282), (1, .int x1)] ∧ LK lv [(0, .ref 282), (1, .int x1)] := ⟨_, rfl, LK.rf⟩
  rw [← elv]
  clear elv
  refine j_V.ldL xc24_M xc24_0 rfl (i := 0) (kd := 2) (v := .ref 282) (pcJ := 1) rfl L rfl rfl rfl ?_
  refine j_V.getK xc24_M xc24_1 (ci := 7) (j := 16) rfl K rfl rfl ?_
  refine j_V.one xc24_M xc24_4 (by decide) (pcJ := 5) (stJ := [.int 3, .ref 294]) rfl ?_
  refine j_V.ldL xc24_M xc24_5 rfl (i := 1) (kd := 0) (v := .int x1) (pcJ := 6) rfl L rfl rfl rfl ?_
  refine j_V.one xc24_M xc24_6 (by decide) (pcJ := 7) (stJ := [.int (3 * x1), .ref 294]) rfl ?_
  refine j_V.iaA xc24_M xc24_7 K rfl ?_
  refine j_V.stL xc24_M xc24_8 rfl (i := 2) (kd := 0) (kl' := [(0, .ref 282), (1, .int x1), (2, .int (gA lkd (3 * x1)))]) (pcJ := 9) rfl L rfl (by decide) rfl rfl rfl (fun lv L => ?_)
  refine j_V.ldL xc24_M xc24_9 rfl (i := 0) (kd := 2) (v := .ref 282) (pcJ := 10) rfl L rfl rfl rfl ?_
  refine j_V.getK xc24_M xc24_10 (ci := 7) (j := 16) rfl K rfl rfl ?_
  refine j_V.one xc24_M xc24_13 (by decide) (pcJ := 14) (stJ := [.int 3, .ref 294]) rfl ?_
  refine j_V.ldL xc24_M xc24_14 rfl (i := 1) (kd := 0) (v := .int x1) (pcJ := 15) rfl L rfl rfl rfl ?_
  refine j_V.one xc24_M xc24_15 (by decide) (pcJ := 16) (stJ := [.int (3 * x1), .ref 294]) rfl ?_
  refine j_V.one xc24_M xc24_16 (by decide) (pcJ := 17) (stJ := [.int 1, .int (3 * x1), .ref 294]) rfl ?_
  refine j_V.one xc24_M xc24_17 (by decide) (pcJ := 18) (stJ := [.int ((3 * x1) + 1), .ref 294]) rfl ?_
  refine j_V.iaA xc24_M xc24_18 K rfl ?_
  refine j_V.stL xc24_M xc24_19 rfl (i := 3) (kd := 0) (kl' := [(0, .ref 282), (1, .int x1), (2, .int (gA lkd (3 * x1))), (3, .int (gA lkd ((3 * x1) + 1)))]) (pcJ := 20) rfl L rfl (by decide) rfl rfl rfl (fun lv L => ?_)
  refine j_V.ldL xc24_M xc24_20 rfl (i := 0) (kd := 2) (v := .ref 282) (pcJ := 21) rfl L rfl rfl rfl ?_
  refine j_V.getK xc24_M xc24_21 (ci := 7) (j := 16) rfl K rfl rfl ?_
  refine j_V.one xc24_M xc24_24 (by decide) (pcJ := 25) (stJ := [.int 3, .ref 294]) rfl ?_
  refine j_V.ldL xc24_M xc24_25 rfl (i := 1) (kd := 0) (v := .int x1) (pcJ := 26) rfl L rfl rfl rfl ?_
  refine j_V.one xc24_M xc24_26 (by decide) (pcJ := 27) (stJ := [.int (3 * x1), .ref 294]) rfl ?_
  refine j_V.one xc24_M xc24_27 (by decide) (pcJ := 28) (stJ := [.int 2, .int (3 * x1), .ref 294]) rfl ?_
  refine j_V.one xc24_M xc24_28 (by decide) (pcJ := 29) (stJ := [.int ((3 * x1) + 2), .ref 294]) rfl ?_
  refine j_V.iaA xc24_M xc24_29 K rfl ?_
  refine j_V.stL xc24_M xc24_30 rfl (i := 4) (kd := 0) (kl' := [(0, .ref 282), (1, .int x1), (2, .int (gA lkd (3 * x1))), (3, .int (gA lkd ((3 * x1) + 1))), (4, .int (gA lkd ((3 * x1) + 2)))]) (pcJ := 32) rfl L rfl (by decide) rfl rfl rfl (fun lv L => ?_)
  refine j_V.ldL xc24_M xc24_32 rfl (i := 0) (kd := 2) (v := .ref 282) (pcJ := 33) rfl L rfl rfl rfl ?_
  refine j_V.getK xc24_M xc24_33 (ci := 7) (j := 6) rfl K rfl rfl ?_
  refine j_V.ldL xc24_M xc24_36 rfl (i := 2) (kd := 0) (v := .int (gA lkd (3 * x1))) (pcJ := 37) rfl L rfl rfl rfl ?_
  refine j_V.iaA xc24_M xc24_37 K rfl ?_
  refine j_V.one xc24_M xc24_38 (by decide) (pcJ := 39) (stJ := [.int 1, .int (gA ph (gA lkd (3 * x1)))]) rfl ?_
  refine j_V.cut (b := 84) (stJ := [.int ((if (gA ph (gA lkd (3 * x1))) = 1 then (if (gA sp (gA lkd (3 * x1))) = (gA lkd ((3 * x1) + 1)) then (if (gA ph (gA lkd ((3 * x1) + 2))) = 3 then 0 else (if (gA cm (((gA lkd ((3 * x1) + 2)) * 7) + (gA lkd ((3 * x1) + 1)))) = (-1) then 1 else 0)) else 0) else 0) : Int32)]) (fun v => [(0, .ref 282), (1, .int x1), (2, .int (gA lkd (3 * x1))), (3, .int (gA lkd ((3 * x1) + 1))), (4, .int (gA lkd ((3 * x1) + 2)))]) ((if (gA ph (gA lkd (3 * x1))) = 1 then (if (gA sp (gA lkd (3 * x1))) = (gA lkd ((3 * x1) + 1)) then (if (gA ph (gA lkd ((3 * x1) + 2))) = 3 then 0 else (if (gA cm (((gA lkd ((3 * x1) + 2)) * 7) + (gA lkd ((3 * x1) + 1)))) = (-1) then 1 else 0)) else 0) else 0) : Int32) (fun Q kk => ?_) (fun lv L => ?_)
  · refine j_V.icmp xc24_M xc24_39 (t := 83) rfl (fun c39_0 => ?_) (fun c39_0 => ?_)
    · replace c39_0 : ¬ ((gA ph (gA lkd (3 * x1))) = 1) := jd_ne c39_0
      refine j_V.one xc24_M xc24_83 (by decide) (pcJ := 84) (stJ := [.int 0]) rfl ?_
      exact Eq.subst (motive := fun z => j_V jP _ 88 84 _ (.int z :: []) h Q) (show ((if (gA ph (gA lkd (3 * x1))) = 1 then (if (gA sp (gA lkd (3 * x1))) = (gA lkd ((3 * x1) + 1)) then (if (gA ph (gA lkd ((3 * x1) + 2))) = 3 then 0 else (if (gA cm (((gA lkd ((3 * x1) + 2)) * 7) + (gA lkd ((3 * x1) + 1)))) = (-1) then 1 else 0)) else 0) else 0) : Int32) = 0 from (if_neg c39_0).trans (rfl)) (kk _ L)
    · replace c39_0 : (gA ph (gA lkd (3 * x1))) = 1 := jd_nen c39_0
      refine j_V.ldL xc24_M xc24_42 rfl (i := 0) (kd := 2) (v := .ref 282) (pcJ := 43) rfl L rfl rfl rfl ?_
      refine j_V.getK xc24_M xc24_43 (ci := 7) (j := 7) rfl K rfl rfl ?_
      refine j_V.ldL xc24_M xc24_46 rfl (i := 2) (kd := 0) (v := .int (gA lkd (3 * x1))) (pcJ := 47) rfl L rfl rfl rfl ?_
      refine j_V.iaA xc24_M xc24_47 K rfl ?_
      refine j_V.ldL xc24_M xc24_48 rfl (i := 3) (kd := 0) (v := .int (gA lkd ((3 * x1) + 1))) (pcJ := 49) rfl L rfl rfl rfl ?_
      refine j_V.icmp xc24_M xc24_49 (t := 83) rfl (fun c49_1 => ?_) (fun c49_1 => ?_)
      · replace c49_1 : ¬ ((gA sp (gA lkd (3 * x1))) = (gA lkd ((3 * x1) + 1))) := jd_ne c49_1
        refine j_V.one xc24_M xc24_83 (by decide) (pcJ := 84) (stJ := [.int 0]) rfl ?_
        exact Eq.subst (motive := fun z => j_V jP _ 88 84 _ (.int z :: []) h Q) (show ((if (gA ph (gA lkd (3 * x1))) = 1 then (if (gA sp (gA lkd (3 * x1))) = (gA lkd ((3 * x1) + 1)) then (if (gA ph (gA lkd ((3 * x1) + 2))) = 3 then 0 else (if (gA cm (((gA lkd ((3 * x1) + 2)) * 7) + (gA lkd ((3 * x1) + 1)))) = (-1) then 1 else 0)) else 0) else 0) : Int32) = 0 from (if_pos c39_0).trans ((if_neg c49_1).trans (rfl))) (kk _ L)
      · replace c49_1 : (gA sp (gA lkd (3 * x1))) = (gA lkd ((3 * x1) + 1)) := jd_nen c49_1
        refine j_V.ldL xc24_M xc24_52 rfl (i := 0) (kd := 2) (v := .ref 282) (pcJ := 53) rfl L rfl rfl rfl ?_
        refine j_V.getK xc24_M xc24_53 (ci := 7) (j := 6) rfl K rfl rfl ?_
        refine j_V.ldL xc24_M xc24_56 rfl (i := 4) (kd := 0) (v := .int (gA lkd ((3 * x1) + 2))) (pcJ := 58) rfl L rfl rfl rfl ?_
        refine j_V.iaA xc24_M xc24_58 K rfl ?_
        refine j_V.one xc24_M xc24_59 (by decide) (pcJ := 60) (stJ := [.int 3, .int (gA ph (gA lkd ((3 * x1) + 2)))]) rfl ?_
        refine j_V.icmp xc24_M xc24_60 (t := 83) rfl (fun c60_2 => ?_) (fun c60_2 => ?_)
        · replace c60_2 : (gA ph (gA lkd ((3 * x1) + 2))) = 3 := jd_eq c60_2
          refine j_V.one xc24_M xc24_83 (by decide) (pcJ := 84) (stJ := [.int 0]) rfl ?_
          exact Eq.subst (motive := fun z => j_V jP _ 88 84 _ (.int z :: []) h Q) (show ((if (gA ph (gA lkd (3 * x1))) = 1 then (if (gA sp (gA lkd (3 * x1))) = (gA lkd ((3 * x1) + 1)) then (if (gA ph (gA lkd ((3 * x1) + 2))) = 3 then 0 else (if (gA cm (((gA lkd ((3 * x1) + 2)) * 7) + (gA lkd ((3 * x1) + 1)))) = (-1) then 1 else 0)) else 0) else 0) : Int32) = 0 from (if_pos c39_0).trans ((if_pos c49_1).trans ((if_pos c60_2).trans (rfl)))) (kk _ L)
        · replace c60_2 : ¬ ((gA ph (gA lkd ((3 * x1) + 2))) = 3) := jd_eqn c60_2
          refine j_V.ldL xc24_M xc24_63 rfl (i := 0) (kd := 2) (v := .ref 282) (pcJ := 64) rfl L rfl rfl rfl ?_
          refine j_V.getK xc24_M xc24_64 (ci := 7) (j := 13) rfl K rfl rfl ?_
          refine j_V.ldL xc24_M xc24_67 rfl (i := 4) (kd := 0) (v := .int (gA lkd ((3 * x1) + 2))) (pcJ := 69) rfl L rfl rfl rfl ?_
          refine j_V.one xc24_M xc24_69 (by decide) (pcJ := 71) (stJ := [.int 7, .int (gA lkd ((3 * x1) + 2)), .ref 292]) rfl ?_
          refine j_V.one xc24_M xc24_71 (by decide) (pcJ := 72) (stJ := [.int ((gA lkd ((3 * x1) + 2)) * 7), .ref 292]) rfl ?_
          refine j_V.ldL xc24_M xc24_72 rfl (i := 3) (kd := 0) (v := .int (gA lkd ((3 * x1) + 1))) (pcJ := 73) rfl L rfl rfl rfl ?_
          refine j_V.one xc24_M xc24_73 (by decide) (pcJ := 74) (stJ := [.int (((gA lkd ((3 * x1) + 2)) * 7) + (gA lkd ((3 * x1) + 1))), .ref 292]) rfl ?_
          refine j_V.iaA xc24_M xc24_74 K rfl ?_
          refine j_V.one xc24_M xc24_75 (by decide) (pcJ := 76) (stJ := [.int (-1), .int (gA cm (((gA lkd ((3 * x1) + 2)) * 7) + (gA lkd ((3 * x1) + 1))))]) rfl ?_
          refine j_V.icmp xc24_M xc24_76 (t := 83) rfl (fun c76_3 => ?_) (fun c76_3 => ?_)
          · replace c76_3 : ¬ ((gA cm (((gA lkd ((3 * x1) + 2)) * 7) + (gA lkd ((3 * x1) + 1)))) = (-1)) := jd_ne c76_3
            refine j_V.one xc24_M xc24_83 (by decide) (pcJ := 84) (stJ := [.int 0]) rfl ?_
            exact Eq.subst (motive := fun z => j_V jP _ 88 84 _ (.int z :: []) h Q) (show ((if (gA ph (gA lkd (3 * x1))) = 1 then (if (gA sp (gA lkd (3 * x1))) = (gA lkd ((3 * x1) + 1)) then (if (gA ph (gA lkd ((3 * x1) + 2))) = 3 then 0 else (if (gA cm (((gA lkd ((3 * x1) + 2)) * 7) + (gA lkd ((3 * x1) + 1)))) = (-1) then 1 else 0)) else 0) else 0) : Int32) = 0 from (if_pos c39_0).trans ((if_pos c49_1).trans ((if_neg c60_2).trans ((if_neg c76_3).trans (rfl))))) (kk _ L)
          · replace c76_3 : (gA cm (((gA lkd ((3 * x1) + 2)) * 7) + (gA lkd ((3 * x1) + 1)))) = (-1) := jd_nen c76_3
            refine j_V.one xc24_M xc24_79 (by decide) (pcJ := 80) (stJ := [.int 1]) rfl ?_
            refine j_V.gto xc24_M xc24_80 (t := 84) rfl ?_
            exact Eq.subst (motive := fun z => j_V jP _ 88 84 _ (.int z :: []) h Q) (show ((if (gA ph (gA lkd (3 * x1))) = 1 then (if (gA sp (gA lkd (3 * x1))) = (gA lkd ((3 * x1) + 1)) then (if (gA ph (gA lkd ((3 * x1) + 2))) = 3 then 0 else (if (gA cm (((gA lkd ((3 * x1) + 2)) * 7) + (gA lkd ((3 * x1) + 1)))) = (-1) then 1 else 0)) else 0) else 0) : Int32) = 1 from (if_pos c39_0).trans ((if_pos c49_1).trans ((if_neg c60_2).trans ((if_pos c76_3).trans (rfl))))) (kk _ L)
  exact j_V.ri xc24_M xc24_84 ⟨congrArg (fun z => some (Value.int z)) (Eq.symm (show (x_linkKeeps ph sp cm lkd x1) = ((if (gA ph (gA lkd (3 * x1))) = 1 then (if (gA sp (gA lkd (3 * x1))) = (gA lkd ((3 * x1) + 1)) then (if (gA ph (gA lkd ((3 * x1) + 2))) = 3 then 0 else (if (gA cm (((gA lkd ((3 * x1) + 2)) * 7) + (gA lkd ((3 * x1) + 1)))) = (-1) then 1 else 0)) else 0) else 0) : Int32) from rfl)), rfl⟩
set_option maxRecDepth 100000 in
theorem xc25_M : j_meth jP 89 = some (yX7_isKept, cX7_isKept, 3, (some .boolean), 1, false, 7) := rfl
set_option maxRecDepth 100000 in
theorem xc25_0 : j_code jP 89 0 = some (.iconst 0) := rfl
set_option maxRecDepth 100000 in
theorem xc25_1 : j_code jP 89 1 = some (.istore_n 2) := rfl
set_option maxRecDepth 100000 in
theorem xc25_2 : j_code jP 89 2 = some (.iload_n 2) := rfl
set_option maxRecDepth 100000 in
theorem xc25_3 : j_code jP 89 3 = some (.aload_n 0) := rfl
set_option maxRecDepth 100000 in
theorem xc25_4 : j_code jP 89 4 = some (.getfield 78) := rfl
set_option maxRecDepth 100000 in
theorem xc25_7 : j_code jP 89 7 = some (.if_icmp .ge 31) := rfl
set_option maxRecDepth 100000 in
theorem xc25_10 : j_code jP 89 10 = some (.aload_n 0) := rfl
set_option maxRecDepth 100000 in
theorem xc25_11 : j_code jP 89 11 = some (.getfield 45) := rfl
set_option maxRecDepth 100000 in
theorem xc25_14 : j_code jP 89 14 = some (.iconst 3) := rfl
set_option maxRecDepth 100000 in
theorem xc25_15 : j_code jP 89 15 = some (.iload_n 2) := rfl
set_option maxRecDepth 100000 in
theorem xc25_16 : j_code jP 89 16 = some (.imul) := rfl
set_option maxRecDepth 100000 in
theorem xc25_17 : j_code jP 89 17 = some (.iaload) := rfl
set_option maxRecDepth 100000 in
theorem xc25_18 : j_code jP 89 18 = some (.iload_n 1) := rfl
set_option maxRecDepth 100000 in
theorem xc25_19 : j_code jP 89 19 = some (.if_icmp .ne 13) := rfl
set_option maxRecDepth 100000 in
theorem xc25_22 : j_code jP 89 22 = some (.aload_n 0) := rfl
set_option maxRecDepth 100000 in
theorem xc25_23 : j_code jP 89 23 = some (.iload_n 2) := rfl
set_option maxRecDepth 100000 in
theorem xc25_24 : j_code jP 89 24 = some (.invokevirtual 170) := rfl
set_option maxRecDepth 100000 in
theorem xc25_27 : j_code jP 89 27 = some (.ifCond .eq 5) := rfl
set_option maxRecDepth 100000 in
theorem xc25_30 : j_code jP 89 30 = some (.iconst 1) := rfl
set_option maxRecDepth 100000 in
theorem xc25_31 : j_code jP 89 31 = some (.ireturn) := rfl
set_option maxRecDepth 100000 in
theorem xc25_32 : j_code jP 89 32 = some (.iinc 2 1) := rfl
set_option maxRecDepth 100000 in
theorem xc25_35 : j_code jP 89 35 = some (.goto (-33)) := rfl
set_option maxRecDepth 100000 in
theorem xc25_38 : j_code jP 89 38 = some (.iconst 0) := rfl
set_option maxRecDepth 100000 in
theorem xc25_39 : j_code jP 89 39 = some (.ireturn) := rfl
set_option maxRecDepth 1000000 in
theorem xc25_ok_l2 {mi : Int32} {shu : Int32} {bus : Int32} {lks : Int32} {ph : List Int32} {sp : List Int32} {cm : List Int32} {lkd : List Int32} {v1 : Int32} {d : Nat} {h h0 : J_H} : ∀ (f : Nat) (v2 : Int32) {lv : J_L}, lpN lks v2 = f → LK lv [(0, .ref 282), (1, .int v1), (2, .int v2)] → KN h [(282, .inl (7, [.ref 327, .int mi, .int shu, .int bus, .ref 283, .ref 284, .ref 285, .ref 286, .ref 287, .ref 288, .ref 289, .ref 290, .ref 291, .ref 292, .ref 293, .int lks, .ref 294, .ref 295, .ref 298])), (285, .inr (.inl (0, ph))), (286, .inr (.inl (0, sp))), (292, .inr (.inl (0, cm))), (294, .inr (.inl (0, lkd)))] h0 → j_V jP d 89 2 lv [] h (fun rv h' => rv = some (.int (x_isKept_l2 ph sp cm lkd v1 f v2)) ∧ h' = h) := by
  intro f
  induction f with
  | zero =>
    intro v2 lv e L K
    refine j_V.ldL xc25_M xc25_2 rfl (i := 2) (kd := 0) (v := .int v2) (pcJ := 3) rfl L rfl rfl rfl ?_
    refine j_V.ldL xc25_M xc25_3 rfl (i := 0) (kd := 2) (v := .ref 282) (pcJ := 4) rfl L rfl rfl rfl ?_
    refine j_V.getK xc25_M xc25_4 (ci := 7) (j := 15) rfl K rfl rfl ?_
    refine j_V.icmp xc25_M xc25_7 (t := 38) rfl (fun c7_0 => ?_) (fun c7_0 => ?_)
    · replace c7_0 : ¬ (v2 < lks) := jd_ge c7_0
      refine j_V.one xc25_M xc25_38 (by decide) (pcJ := 39) (stJ := [.int 0]) rfl ?_
      exact j_V.ri xc25_M xc25_39 ⟨congrArg (fun z => some (Value.int z)) (Eq.symm (show (x_isKept_l2 ph sp cm lkd v1 0 v2) = 0 from rfl)), rfl⟩
    · replace c7_0 : v2 < lks := jd_gen c7_0
      exact absurd c7_0 (lpN_z e)
  | succ f ih =>
    intro v2 lv e L K
    refine j_V.ldL xc25_M xc25_2 rfl (i := 2) (kd := 0) (v := .int v2) (pcJ := 3) rfl L rfl rfl rfl ?_
    refine j_V.ldL xc25_M xc25_3 rfl (i := 0) (kd := 2) (v := .ref 282) (pcJ := 4) rfl L rfl rfl rfl ?_
    refine j_V.getK xc25_M xc25_4 (ci := 7) (j := 15) rfl K rfl rfl ?_
    refine j_V.icmp xc25_M xc25_7 (t := 38) rfl (fun c7_0 => ?_) (fun c7_0 => ?_)
    · replace c7_0 : ¬ (v2 < lks) := jd_ge c7_0
      exact absurd (lpN_s e) c7_0
    · replace c7_0 : v2 < lks := jd_gen c7_0
      refine j_V.ldL xc25_M xc25_10 rfl (i := 0) (kd := 2) (v := .ref 282) (pcJ := 11) rfl L rfl rfl rfl ?_
      refine j_V.getK xc25_M xc25_11 (ci := 7) (j := 16) rfl K rfl rfl ?_
      refine j_V.one xc25_M xc25_14 (by decide) (pcJ := 15) (stJ := [.int 3, .ref 294]) rfl ?_
      refine j_V.ldL xc25_M xc25_15 rfl (i := 2) (kd := 0) (v := .int v2) (pcJ := 16) rfl L rfl rfl rfl ?_
      refine j_V.one xc25_M xc25_16 (by decide) (pcJ := 17) (stJ := [.int (3 * v2), .ref 294]) rfl ?_
      refine j_V.iaA xc25_M xc25_17 K rfl ?_
      refine j_V.ldL xc25_M xc25_18 rfl (i := 1) (kd := 0) (v := .int v1) (pcJ := 19) rfl L rfl rfl rfl ?_
      refine j_V.icmp xc25_M xc25_19 (t := 32) rfl (fun c19_0 => ?_) (fun c19_0 => ?_)
      · replace c19_0 : ¬ ((gA lkd (3 * v2)) = v1) := jd_ne c19_0
        refine j_V.inL xc25_M xc25_32 (i := 2) (kl' := [(0, .ref 282), (1, .int v1), (2, .int (v2 + 1))]) (pcJ := 35) L rfl rfl rfl rfl (fun lv L => ?_)
        refine j_V.gto xc25_M xc25_35 (t := 2) rfl ?_
        refine j_V.mono (ih ((v2 + 1)) (lpN_n e) L K) ?_
        rintro r hz ⟨rfl, rfl⟩
        exact ⟨congrArg (fun z => some (Value.int z)) (Eq.symm (show (x_isKept_l2 ph sp cm lkd v1 (f + 1) v2) = (x_isKept_l2 ph sp cm lkd v1 f ((v2 + 1))) from (if_neg c19_0).trans (rfl))), rfl⟩
      · replace c19_0 : (gA lkd (3 * v2)) = v1 := jd_nen c19_0
        refine j_V.ldL xc25_M xc25_22 rfl (i := 0) (kd := 2) (v := .ref 282) (pcJ := 23) rfl L rfl rfl rfl ?_
        refine j_V.ldL xc25_M xc25_23 rfl (i := 2) (kd := 0) (v := .int v2) (pcJ := 24) rfl L rfl rfl rfl ?_
        refine j_V.cl xc25_M xc25_24 rfl (md := 3) (mj := 88) rfl (by decide) xc24_M (As := [.ref 282, .int v2]) (rest := []) (jk_spl3 (K.at rfl) rfl rfl rfl (Nat.le_of_ble_eq_true rfl) (Nat.le_of_ble_eq_true rfl)) (fun d => xc24_ok (K.fi [282, 285, 286, 292, 294] rfl rfl)) ?_
        rintro r hz ⟨rfl, ez⟩
        rw [ez]
        clear ez
        show j_V jP _ 89 27 lv [.int (x_linkKeeps ph sp cm lkd v2)] h _
        refine j_V.ifc xc25_M xc25_27 (t := 32) rfl (fun c27_1 => ?_) (fun c27_1 => ?_)
        · replace c27_1 : (x_linkKeeps ph sp cm lkd v2) = 0 := jd_eq c27_1
          refine j_V.inL xc25_M xc25_32 (i := 2) (kl' := [(0, .ref 282), (1, .int v1), (2, .int (v2 + 1))]) (pcJ := 35) L rfl rfl rfl rfl (fun lv L => ?_)
          refine j_V.gto xc25_M xc25_35 (t := 2) rfl ?_
          refine j_V.mono (ih ((v2 + 1)) (lpN_n e) L K) ?_
          rintro r hz ⟨rfl, rfl⟩
          exact ⟨congrArg (fun z => some (Value.int z)) (Eq.symm (show (x_isKept_l2 ph sp cm lkd v1 (f + 1) v2) = (x_isKept_l2 ph sp cm lkd v1 f ((v2 + 1))) from (if_pos c19_0).trans ((if_pos c27_1).trans (rfl)))), rfl⟩
        · replace c27_1 : ¬ ((x_linkKeeps ph sp cm lkd v2) = 0) := jd_eqn c27_1
          refine j_V.one xc25_M xc25_30 (by decide) (pcJ := 31) (stJ := [.int 1]) rfl ?_
          exact j_V.ri xc25_M xc25_31 ⟨congrArg (fun z => some (Value.int z)) (Eq.symm (show (x_isKept_l2 ph sp cm lkd v1 (f + 1) v2) = 1 from (if_pos c19_0).trans ((if_neg c27_1).trans (rfl)))), rfl⟩
set_option maxRecDepth 1000000 in
theorem xc25_ok {mi : Int32} {shu : Int32} {bus : Int32} {lks : Int32} {ph : List Int32} {sp : List Int32} {cm : List Int32} {lkd : List Int32} {x1 : Int32} {d : Nat} {h h0 : J_H} (K : KN h [(282, .inl (7, [.ref 327, .int mi, .int shu, .int bus, .ref 283, .ref 284, .ref 285, .ref 286, .ref 287, .ref 288, .ref 289, .ref 290, .ref 291, .ref 292, .ref 293, .int lks, .ref 294, .ref 295, .ref 298])), (285, .inr (.inl (0, ph))), (286, .inr (.inl (0, sp))), (292, .inr (.inl (0, cm))), (294, .inr (.inl (0, lkd)))] h0) : j_V jP d 89 0 (lv_args 0 [.ref 282, .int x1]) [] h (fun rv h' => rv = some (.int (x_isKept lks ph sp cm lkd x1)) ∧ h' = h) := by
  show j_V jP d 89 0 [(0, .ref 282), (1, .int x1)] [] h _
  obtain ⟨lv, elv, L⟩ : ∃ lv, lv = [(0, .ref 282), (1, .int x1)] ∧ LK lv [(0, .ref 282), (1, .int x1)] := ⟨_, rfl, LK.rf⟩
  rw [← elv]
  clear elv
  refine j_V.one xc25_M xc25_0 (by decide) (pcJ := 1) (stJ := [.int 0]) rfl ?_
  refine j_V.stL xc25_M xc25_1 rfl (i := 2) (kd := 0) (kl' := [(0, .ref 282), (1, .int x1), (2, .int 0)]) (pcJ := 2) rfl L rfl (by decide) rfl rfl rfl (fun lv L => ?_)
  refine j_V.mono (xc25_ok_l2 _ (0) rfl L K) ?_
  rintro r hz ⟨rfl, rfl⟩
  exact ⟨congrArg (fun z => some (Value.int z)) (Eq.symm (show (x_isKept lks ph sp cm lkd x1) = (x_isKept_l2 ph sp cm lkd x1 (lpN lks 0) 0) from rfl)), rfl⟩
set_option maxRecDepth 100000 in
theorem xc26_M : j_meth jP 94 = some (yX7_nextDue, cX7_nextDue, 4, (some .int), 1, false, 7) := rfl
set_option maxRecDepth 100000 in
theorem xc26_0 : j_code jP 94 0 = some (.iload_n 1) := rfl
set_option maxRecDepth 100000 in
theorem xc26_1 : j_code jP 94 1 = some (.istore_n 2) := rfl
set_option maxRecDepth 100000 in
theorem xc26_2 : j_code jP 94 2 = some (.iconst 0) := rfl
set_option maxRecDepth 100000 in
theorem xc26_3 : j_code jP 94 3 = some (.istore_n 3) := rfl
set_option maxRecDepth 100000 in
theorem xc26_4 : j_code jP 94 4 = some (.iload_n 3) := rfl
set_option maxRecDepth 100000 in
theorem xc26_5 : j_code jP 94 5 = some (.aload_n 0) := rfl
set_option maxRecDepth 100000 in
theorem xc26_6 : j_code jP 94 6 = some (.getfield 64) := rfl
set_option maxRecDepth 100000 in
theorem xc26_9 : j_code jP 94 9 = some (.getfield 102) := rfl
set_option maxRecDepth 100000 in
theorem xc26_12 : j_code jP 94 12 = some (.if_icmp .ge 87) := rfl
set_option maxRecDepth 100000 in
theorem xc26_15 : j_code jP 94 15 = some (.aload_n 0) := rfl
set_option maxRecDepth 100000 in
theorem xc26_16 : j_code jP 94 16 = some (.getfield 18) := rfl
set_option maxRecDepth 100000 in
theorem xc26_19 : j_code jP 94 19 = some (.iload_n 3) := rfl
set_option maxRecDepth 100000 in
theorem xc26_20 : j_code jP 94 20 = some (.iaload) := rfl
set_option maxRecDepth 100000 in
theorem xc26_21 : j_code jP 94 21 = some (.iconst 2) := rfl
set_option maxRecDepth 100000 in
theorem xc26_22 : j_code jP 94 22 = some (.if_icmp .ne 14) := rfl
set_option maxRecDepth 100000 in
theorem xc26_25 : j_code jP 94 25 = some (.iload_n 2) := rfl
set_option maxRecDepth 100000 in
theorem xc26_26 : j_code jP 94 26 = some (.aload_n 0) := rfl
set_option maxRecDepth 100000 in
theorem xc26_27 : j_code jP 94 27 = some (.getfield 27) := rfl
set_option maxRecDepth 100000 in
theorem xc26_30 : j_code jP 94 30 = some (.iload_n 3) := rfl
set_option maxRecDepth 100000 in
theorem xc26_31 : j_code jP 94 31 = some (.iaload) := rfl
set_option maxRecDepth 100000 in
theorem xc26_32 : j_code jP 94 32 = some (.invokestatic 200) := rfl
set_option maxRecDepth 100000 in
theorem xc26_35 : j_code jP 94 35 = some (.istore_n 2) := rfl
set_option maxRecDepth 100000 in
theorem xc26_36 : j_code jP 94 36 = some (.aload_n 0) := rfl
set_option maxRecDepth 100000 in
theorem xc26_37 : j_code jP 94 37 = some (.getfield 30) := rfl
set_option maxRecDepth 100000 in
theorem xc26_40 : j_code jP 94 40 = some (.iload_n 3) := rfl
set_option maxRecDepth 100000 in
theorem xc26_41 : j_code jP 94 41 = some (.iaload) := rfl
set_option maxRecDepth 100000 in
theorem xc26_42 : j_code jP 94 42 = some (.aload_n 0) := rfl
set_option maxRecDepth 100000 in
theorem xc26_43 : j_code jP 94 43 = some (.getfield 68) := rfl
set_option maxRecDepth 100000 in
theorem xc26_46 : j_code jP 94 46 = some (.if_icmp .lt 14) := rfl
set_option maxRecDepth 100000 in
theorem xc26_49 : j_code jP 94 49 = some (.iload_n 2) := rfl
set_option maxRecDepth 100000 in
theorem xc26_50 : j_code jP 94 50 = some (.aload_n 0) := rfl
set_option maxRecDepth 100000 in
theorem xc26_51 : j_code jP 94 51 = some (.getfield 30) := rfl
set_option maxRecDepth 100000 in
theorem xc26_54 : j_code jP 94 54 = some (.iload_n 3) := rfl
set_option maxRecDepth 100000 in
theorem xc26_55 : j_code jP 94 55 = some (.iaload) := rfl
set_option maxRecDepth 100000 in
theorem xc26_56 : j_code jP 94 56 = some (.invokestatic 200) := rfl
set_option maxRecDepth 100000 in
theorem xc26_59 : j_code jP 94 59 = some (.istore_n 2) := rfl
set_option maxRecDepth 100000 in
theorem xc26_60 : j_code jP 94 60 = some (.aload_n 0) := rfl
set_option maxRecDepth 100000 in
theorem xc26_61 : j_code jP 94 61 = some (.getfield 18) := rfl
set_option maxRecDepth 100000 in
theorem xc26_64 : j_code jP 94 64 = some (.iload_n 3) := rfl
set_option maxRecDepth 100000 in
theorem xc26_65 : j_code jP 94 65 = some (.iaload) := rfl
set_option maxRecDepth 100000 in
theorem xc26_66 : j_code jP 94 66 = some (.ifCond .ne 27) := rfl
set_option maxRecDepth 100000 in
theorem xc26_69 : j_code jP 94 69 = some (.aload_n 0) := rfl
set_option maxRecDepth 100000 in
theorem xc26_70 : j_code jP 94 70 = some (.getfield 15) := rfl
set_option maxRecDepth 100000 in
theorem xc26_73 : j_code jP 94 73 = some (.iload_n 3) := rfl
set_option maxRecDepth 100000 in
theorem xc26_74 : j_code jP 94 74 = some (.iaload) := rfl
set_option maxRecDepth 100000 in
theorem xc26_75 : j_code jP 94 75 = some (.aload_n 0) := rfl
set_option maxRecDepth 100000 in
theorem xc26_76 : j_code jP 94 76 = some (.getfield 68) := rfl
set_option maxRecDepth 100000 in
theorem xc26_79 : j_code jP 94 79 = some (.if_icmp .lt 14) := rfl
set_option maxRecDepth 100000 in
theorem xc26_82 : j_code jP 94 82 = some (.iload_n 2) := rfl
set_option maxRecDepth 100000 in
theorem xc26_83 : j_code jP 94 83 = some (.aload_n 0) := rfl
set_option maxRecDepth 100000 in
theorem xc26_84 : j_code jP 94 84 = some (.getfield 15) := rfl
set_option maxRecDepth 100000 in
theorem xc26_87 : j_code jP 94 87 = some (.iload_n 3) := rfl
set_option maxRecDepth 100000 in
theorem xc26_88 : j_code jP 94 88 = some (.iaload) := rfl
set_option maxRecDepth 100000 in
theorem xc26_89 : j_code jP 94 89 = some (.invokestatic 200) := rfl
set_option maxRecDepth 100000 in
theorem xc26_92 : j_code jP 94 92 = some (.istore_n 2) := rfl
set_option maxRecDepth 100000 in
theorem xc26_93 : j_code jP 94 93 = some (.iinc 3 1) := rfl
set_option maxRecDepth 100000 in
theorem xc26_96 : j_code jP 94 96 = some (.goto (-92)) := rfl
set_option maxRecDepth 100000 in
theorem xc26_99 : j_code jP 94 99 = some (.iload_n 2) := rfl
set_option maxRecDepth 100000 in
theorem xc26_100 : j_code jP 94 100 = some (.ireturn) := rfl
set_option maxRecDepth 1000000 in
theorem xc26_ok_l4 {mi : Int32} {shu : Int32} {bus : Int32} {lks : Int32} {sta : List Int32} {ph : List Int32} {du : List Int32} {he : List Int32} {ns : Int32} {nt : Int32} {cel : Int32} {v1 : Int32} {d : Nat} {h h0 : J_H} : ∀ (f : Nat) (v3 v2 : Int32) {lv : J_L}, lpN nt v3 = f → LK lv [(0, .ref 282), (1, .int v1), (2, .int v2), (3, .int v3)] → KN h [(282, .inl (7, [.ref 327, .int mi, .int shu, .int bus, .ref 283, .ref 284, .ref 285, .ref 286, .ref 287, .ref 288, .ref 289, .ref 290, .ref 291, .ref 292, .ref 293, .int lks, .ref 294, .ref 295, .ref 298])), (284, .inr (.inl (0, sta))), (285, .inr (.inl (0, ph))), (288, .inr (.inl (0, du))), (289, .inr (.inl (0, he))), (327, .inl (2, [.int ns, .ref 328, .ref 329, .ref 330, .ref 331, .int nt, .ref 332, .ref 333, .ref 334, .ref 335, .ref 336, .ref 337, .ref 338, .int cel, .ref 339, .ref 340, .ref 341, .ref 342]))] h0 → j_V jP d 94 4 lv [] h (fun rv h' => rv = some (.int (x_nextDue_l4 mi sta ph du he v1 f v3 v2)) ∧ h' = h) := by
  intro f
  induction f with
  | zero =>
    intro v3 v2 lv e L K
    refine j_V.ldL xc26_M xc26_4 rfl (i := 3) (kd := 0) (v := .int v3) (pcJ := 5) rfl L rfl rfl rfl ?_
    refine j_V.ldL xc26_M xc26_5 rfl (i := 0) (kd := 2) (v := .ref 282) (pcJ := 6) rfl L rfl rfl rfl ?_
    refine j_V.getK xc26_M xc26_6 (ci := 7) (j := 0) rfl K rfl rfl ?_
    refine j_V.getK xc26_M xc26_9 (ci := 2) (j := 5) rfl K rfl rfl ?_
    refine j_V.icmp xc26_M xc26_12 (t := 99) rfl (fun c12_0 => ?_) (fun c12_0 => ?_)
    · replace c12_0 : ¬ (v3 < nt) := jd_ge c12_0
      refine j_V.ldL xc26_M xc26_99 rfl (i := 2) (kd := 0) (v := .int v2) (pcJ := 100) rfl L rfl rfl rfl ?_
      exact j_V.ri xc26_M xc26_100 ⟨congrArg (fun z => some (Value.int z)) (Eq.symm (show (x_nextDue_l4 mi sta ph du he v1 0 v3 v2) = v2 from rfl)), rfl⟩
    · replace c12_0 : v3 < nt := jd_gen c12_0
      exact absurd c12_0 (lpN_z e)
  | succ f ih =>
    intro v3 v2 lv e L K
    refine j_V.ldL xc26_M xc26_4 rfl (i := 3) (kd := 0) (v := .int v3) (pcJ := 5) rfl L rfl rfl rfl ?_
    refine j_V.ldL xc26_M xc26_5 rfl (i := 0) (kd := 2) (v := .ref 282) (pcJ := 6) rfl L rfl rfl rfl ?_
    refine j_V.getK xc26_M xc26_6 (ci := 7) (j := 0) rfl K rfl rfl ?_
    refine j_V.getK xc26_M xc26_9 (ci := 2) (j := 5) rfl K rfl rfl ?_
    refine j_V.icmp xc26_M xc26_12 (t := 99) rfl (fun c12_0 => ?_) (fun c12_0 => ?_)
    · replace c12_0 : ¬ (v3 < nt) := jd_ge c12_0
      exact absurd (lpN_s e) c12_0
    · replace c12_0 : v3 < nt := jd_gen c12_0
      refine j_V.ldL xc26_M xc26_15 rfl (i := 0) (kd := 2) (v := .ref 282) (pcJ := 16) rfl L rfl rfl rfl ?_
      refine j_V.getK xc26_M xc26_16 (ci := 7) (j := 6) rfl K rfl rfl ?_
      refine j_V.ldL xc26_M xc26_19 rfl (i := 3) (kd := 0) (v := .int v3) (pcJ := 20) rfl L rfl rfl rfl ?_
      refine j_V.iaA xc26_M xc26_20 K rfl ?_
      refine j_V.one xc26_M xc26_21 (by decide) (pcJ := 22) (stJ := [.int 2, .int (gA ph v3)]) rfl ?_
      refine j_V.cut (b := 36) (stJ := []) (fun v => [(0, .ref 282), (1, .int v1), (2, .int v), (3, .int v3)]) ((if (gA ph v3) = 2 then (iMn v2 (gA du v3)) else v2) : Int32) (fun Q kk => ?_) (fun lv L => ?_)
      · refine j_V.icmp xc26_M xc26_22 (t := 36) rfl (fun c22_0 => ?_) (fun c22_0 => ?_)
        · replace c22_0 : ¬ ((gA ph v3) = 2) := jd_ne c22_0
          exact kk _ (Eq.subst (motive := fun z => LK _ ((fun v => [(0, .ref 282), (1, .int v1), (2, .int v), (3, .int v3)]) z)) (show v2 = ((if (gA ph v3) = 2 then (iMn v2 (gA du v3)) else v2) : Int32) from Eq.symm ((if_neg c22_0).trans (rfl))) L)
        · replace c22_0 : (gA ph v3) = 2 := jd_nen c22_0
          refine j_V.ldL xc26_M xc26_25 rfl (i := 2) (kd := 0) (v := .int v2) (pcJ := 26) rfl L rfl rfl rfl ?_
          refine j_V.ldL xc26_M xc26_26 rfl (i := 0) (kd := 2) (v := .ref 282) (pcJ := 27) rfl L rfl rfl rfl ?_
          refine j_V.getK xc26_M xc26_27 (ci := 7) (j := 9) rfl K rfl rfl ?_
          refine j_V.ldL xc26_M xc26_30 rfl (i := 3) (kd := 0) (v := .int v3) (pcJ := 31) rfl L rfl rfl rfl ?_
          refine j_V.iaA xc26_M xc26_31 K rfl ?_
          refine j_V.mn xc26_M xc26_32 rfl rfl (Nat.le_of_ble_eq_true rfl) ?_
          refine j_V.stL xc26_M xc26_35 rfl (i := 2) (kd := 0) (kl' := [(0, .ref 282), (1, .int v1), (2, .int (iMn v2 (gA du v3))), (3, .int v3)]) (pcJ := 36) rfl L rfl (by decide) rfl rfl rfl (fun lv L => ?_)
          exact kk _ (Eq.subst (motive := fun z => LK _ ((fun v => [(0, .ref 282), (1, .int v1), (2, .int v), (3, .int v3)]) z)) (show (iMn v2 (gA du v3)) = ((if (gA ph v3) = 2 then (iMn v2 (gA du v3)) else v2) : Int32) from Eq.symm ((if_pos c22_0).trans (rfl))) L)
      refine j_V.ldL xc26_M xc26_36 rfl (i := 0) (kd := 2) (v := .ref 282) (pcJ := 37) rfl L rfl rfl rfl ?_
      refine j_V.getK xc26_M xc26_37 (ci := 7) (j := 10) rfl K rfl rfl ?_
      refine j_V.ldL xc26_M xc26_40 rfl (i := 3) (kd := 0) (v := .int v3) (pcJ := 41) rfl L rfl rfl rfl ?_
      refine j_V.iaA xc26_M xc26_41 K rfl ?_
      refine j_V.ldL xc26_M xc26_42 rfl (i := 0) (kd := 2) (v := .ref 282) (pcJ := 43) rfl L rfl rfl rfl ?_
      refine j_V.getK xc26_M xc26_43 (ci := 7) (j := 1) rfl K rfl rfl ?_
      refine j_V.cut (b := 60) (stJ := []) (fun v => [(0, .ref 282), (1, .int v1), (2, .int v), (3, .int v3)]) ((if (gA he v3) < mi then ((if (gA ph v3) = 2 then (iMn v2 (gA du v3)) else v2) : Int32) else (iMn ((if (gA ph v3) = 2 then (iMn v2 (gA du v3)) else v2) : Int32) (gA he v3))) : Int32) (fun Q kk => ?_) (fun lv L => ?_)
      · refine j_V.icmp xc26_M xc26_46 (t := 60) rfl (fun c46_0 => ?_) (fun c46_0 => ?_)
        · replace c46_0 : (gA he v3) < mi := jd_lt c46_0
          exact kk _ (Eq.subst (motive := fun z => LK _ ((fun v => [(0, .ref 282), (1, .int v1), (2, .int v), (3, .int v3)]) z)) (show ((if (gA ph v3) = 2 then (iMn v2 (gA du v3)) else v2) : Int32) = ((if (gA he v3) < mi then ((if (gA ph v3) = 2 then (iMn v2 (gA du v3)) else v2) : Int32) else (iMn ((if (gA ph v3) = 2 then (iMn v2 (gA du v3)) else v2) : Int32) (gA he v3))) : Int32) from Eq.symm ((if_pos c46_0).trans (rfl))) L)
        · replace c46_0 : ¬ ((gA he v3) < mi) := jd_ltn c46_0
          refine j_V.ldL xc26_M xc26_49 rfl (i := 2) (kd := 0) (v := .int ((if (gA ph v3) = 2 then (iMn v2 (gA du v3)) else v2) : Int32)) (pcJ := 50) rfl L rfl rfl rfl ?_
          refine j_V.ldL xc26_M xc26_50 rfl (i := 0) (kd := 2) (v := .ref 282) (pcJ := 51) rfl L rfl rfl rfl ?_
          refine j_V.getK xc26_M xc26_51 (ci := 7) (j := 10) rfl K rfl rfl ?_
          refine j_V.ldL xc26_M xc26_54 rfl (i := 3) (kd := 0) (v := .int v3) (pcJ := 55) rfl L rfl rfl rfl ?_
          refine j_V.iaA xc26_M xc26_55 K rfl ?_
          refine j_V.mn xc26_M xc26_56 rfl rfl (Nat.le_of_ble_eq_true rfl) ?_
          refine j_V.stL xc26_M xc26_59 rfl (i := 2) (kd := 0) (kl' := [(0, .ref 282), (1, .int v1), (2, .int (iMn ((if (gA ph v3) = 2 then (iMn v2 (gA du v3)) else v2) : Int32) (gA he v3))), (3, .int v3)]) (pcJ := 60) rfl L rfl (by decide) rfl rfl rfl (fun lv L => ?_)
          exact kk _ (Eq.subst (motive := fun z => LK _ ((fun v => [(0, .ref 282), (1, .int v1), (2, .int v), (3, .int v3)]) z)) (show (iMn ((if (gA ph v3) = 2 then (iMn v2 (gA du v3)) else v2) : Int32) (gA he v3)) = ((if (gA he v3) < mi then ((if (gA ph v3) = 2 then (iMn v2 (gA du v3)) else v2) : Int32) else (iMn ((if (gA ph v3) = 2 then (iMn v2 (gA du v3)) else v2) : Int32) (gA he v3))) : Int32) from Eq.symm ((if_neg c46_0).trans (rfl))) L)
      refine j_V.ldL xc26_M xc26_60 rfl (i := 0) (kd := 2) (v := .ref 282) (pcJ := 61) rfl L rfl rfl rfl ?_
      refine j_V.getK xc26_M xc26_61 (ci := 7) (j := 6) rfl K rfl rfl ?_
      refine j_V.ldL xc26_M xc26_64 rfl (i := 3) (kd := 0) (v := .int v3) (pcJ := 65) rfl L rfl rfl rfl ?_
      refine j_V.iaA xc26_M xc26_65 K rfl ?_
      refine j_V.cut (b := 93) (stJ := []) (fun v => [(0, .ref 282), (1, .int v1), (2, .int v), (3, .int v3)]) ((if (gA ph v3) = 0 then (if (gA sta v3) < mi then ((if (gA he v3) < mi then ((if (gA ph v3) = 2 then (iMn v2 (gA du v3)) else v2) : Int32) else (iMn ((if (gA ph v3) = 2 then (iMn v2 (gA du v3)) else v2) : Int32) (gA he v3))) : Int32) else (iMn ((if (gA he v3) < mi then ((if (gA ph v3) = 2 then (iMn v2 (gA du v3)) else v2) : Int32) else (iMn ((if (gA ph v3) = 2 then (iMn v2 (gA du v3)) else v2) : Int32) (gA he v3))) : Int32) (gA sta v3))) else ((if (gA he v3) < mi then ((if (gA ph v3) = 2 then (iMn v2 (gA du v3)) else v2) : Int32) else (iMn ((if (gA ph v3) = 2 then (iMn v2 (gA du v3)) else v2) : Int32) (gA he v3))) : Int32)) : Int32) (fun Q kk => ?_) (fun lv L => ?_)
      · refine j_V.ifc xc26_M xc26_66 (t := 93) rfl (fun c66_0 => ?_) (fun c66_0 => ?_)
        · replace c66_0 : ¬ ((gA ph v3) = 0) := jd_ne c66_0
          exact kk _ (Eq.subst (motive := fun z => LK _ ((fun v => [(0, .ref 282), (1, .int v1), (2, .int v), (3, .int v3)]) z)) (show ((if (gA he v3) < mi then ((if (gA ph v3) = 2 then (iMn v2 (gA du v3)) else v2) : Int32) else (iMn ((if (gA ph v3) = 2 then (iMn v2 (gA du v3)) else v2) : Int32) (gA he v3))) : Int32) = ((if (gA ph v3) = 0 then (if (gA sta v3) < mi then ((if (gA he v3) < mi then ((if (gA ph v3) = 2 then (iMn v2 (gA du v3)) else v2) : Int32) else (iMn ((if (gA ph v3) = 2 then (iMn v2 (gA du v3)) else v2) : Int32) (gA he v3))) : Int32) else (iMn ((if (gA he v3) < mi then ((if (gA ph v3) = 2 then (iMn v2 (gA du v3)) else v2) : Int32) else (iMn ((if (gA ph v3) = 2 then (iMn v2 (gA du v3)) else v2) : Int32) (gA he v3))) : Int32) (gA sta v3))) else ((if (gA he v3) < mi then ((if (gA ph v3) = 2 then (iMn v2 (gA du v3)) else v2) : Int32) else (iMn ((if (gA ph v3) = 2 then (iMn v2 (gA du v3)) else v2) : Int32) (gA he v3))) : Int32)) : Int32) from Eq.symm ((if_neg c66_0).trans (rfl))) L)
        · replace c66_0 : (gA ph v3) = 0 := jd_nen c66_0
          refine j_V.ldL xc26_M xc26_69 rfl (i := 0) (kd := 2) (v := .ref 282) (pcJ := 70) rfl L rfl rfl rfl ?_
          refine j_V.getK xc26_M xc26_70 (ci := 7) (j := 5) rfl K rfl rfl ?_
          refine j_V.ldL xc26_M xc26_73 rfl (i := 3) (kd := 0) (v := .int v3) (pcJ := 74) rfl L rfl rfl rfl ?_
          refine j_V.iaA xc26_M xc26_74 K rfl ?_
          refine j_V.ldL xc26_M xc26_75 rfl (i := 0) (kd := 2) (v := .ref 282) (pcJ := 76) rfl L rfl rfl rfl ?_
          refine j_V.getK xc26_M xc26_76 (ci := 7) (j := 1) rfl K rfl rfl ?_
          refine j_V.icmp xc26_M xc26_79 (t := 93) rfl (fun c79_1 => ?_) (fun c79_1 => ?_)
          · replace c79_1 : (gA sta v3) < mi := jd_lt c79_1
            exact kk _ (Eq.subst (motive := fun z => LK _ ((fun v => [(0, .ref 282), (1, .int v1), (2, .int v), (3, .int v3)]) z)) (show ((if (gA he v3) < mi then ((if (gA ph v3) = 2 then (iMn v2 (gA du v3)) else v2) : Int32) else (iMn ((if (gA ph v3) = 2 then (iMn v2 (gA du v3)) else v2) : Int32) (gA he v3))) : Int32) = ((if (gA ph v3) = 0 then (if (gA sta v3) < mi then ((if (gA he v3) < mi then ((if (gA ph v3) = 2 then (iMn v2 (gA du v3)) else v2) : Int32) else (iMn ((if (gA ph v3) = 2 then (iMn v2 (gA du v3)) else v2) : Int32) (gA he v3))) : Int32) else (iMn ((if (gA he v3) < mi then ((if (gA ph v3) = 2 then (iMn v2 (gA du v3)) else v2) : Int32) else (iMn ((if (gA ph v3) = 2 then (iMn v2 (gA du v3)) else v2) : Int32) (gA he v3))) : Int32) (gA sta v3))) else ((if (gA he v3) < mi then ((if (gA ph v3) = 2 then (iMn v2 (gA du v3)) else v2) : Int32) else (iMn ((if (gA ph v3) = 2 then (iMn v2 (gA du v3)) else v2) : Int32) (gA he v3))) : Int32)) : Int32) from Eq.symm ((if_pos c66_0).trans ((if_pos c79_1).trans (rfl)))) L)
          · replace c79_1 : ¬ ((gA sta v3) < mi) := jd_ltn c79_1
            refine j_V.ldL xc26_M xc26_82 rfl (i := 2) (kd := 0) (v := .int ((if (gA he v3) < mi then ((if (gA ph v3) = 2 then (iMn v2 (gA du v3)) else v2) : Int32) else (iMn ((if (gA ph v3) = 2 then (iMn v2 (gA du v3)) else v2) : Int32) (gA he v3))) : Int32)) (pcJ := 83) rfl L rfl rfl rfl ?_
            refine j_V.ldL xc26_M xc26_83 rfl (i := 0) (kd := 2) (v := .ref 282) (pcJ := 84) rfl L rfl rfl rfl ?_
            refine j_V.getK xc26_M xc26_84 (ci := 7) (j := 5) rfl K rfl rfl ?_
            refine j_V.ldL xc26_M xc26_87 rfl (i := 3) (kd := 0) (v := .int v3) (pcJ := 88) rfl L rfl rfl rfl ?_
            refine j_V.iaA xc26_M xc26_88 K rfl ?_
            refine j_V.mn xc26_M xc26_89 rfl rfl (Nat.le_of_ble_eq_true rfl) ?_
            refine j_V.stL xc26_M xc26_92 rfl (i := 2) (kd := 0) (kl' := [(0, .ref 282), (1, .int v1), (2, .int (iMn ((if (gA he v3) < mi then ((if (gA ph v3) = 2 then (iMn v2 (gA du v3)) else v2) : Int32) else (iMn ((if (gA ph v3) = 2 then (iMn v2 (gA du v3)) else v2) : Int32) (gA he v3))) : Int32) (gA sta v3))), (3, .int v3)]) (pcJ := 93) rfl L rfl (by decide) rfl rfl rfl (fun lv L => ?_)
            exact kk _ (Eq.subst (motive := fun z => LK _ ((fun v => [(0, .ref 282), (1, .int v1), (2, .int v), (3, .int v3)]) z)) (show (iMn ((if (gA he v3) < mi then ((if (gA ph v3) = 2 then (iMn v2 (gA du v3)) else v2) : Int32) else (iMn ((if (gA ph v3) = 2 then (iMn v2 (gA du v3)) else v2) : Int32) (gA he v3))) : Int32) (gA sta v3)) = ((if (gA ph v3) = 0 then (if (gA sta v3) < mi then ((if (gA he v3) < mi then ((if (gA ph v3) = 2 then (iMn v2 (gA du v3)) else v2) : Int32) else (iMn ((if (gA ph v3) = 2 then (iMn v2 (gA du v3)) else v2) : Int32) (gA he v3))) : Int32) else (iMn ((if (gA he v3) < mi then ((if (gA ph v3) = 2 then (iMn v2 (gA du v3)) else v2) : Int32) else (iMn ((if (gA ph v3) = 2 then (iMn v2 (gA du v3)) else v2) : Int32) (gA he v3))) : Int32) (gA sta v3))) else ((if (gA he v3) < mi then ((if (gA ph v3) = 2 then (iMn v2 (gA du v3)) else v2) : Int32) else (iMn ((if (gA ph v3) = 2 then (iMn v2 (gA du v3)) else v2) : Int32) (gA he v3))) : Int32)) : Int32) from Eq.symm ((if_pos c66_0).trans ((if_neg c79_1).trans (rfl)))) L)
      refine j_V.inL xc26_M xc26_93 (i := 3) (kl' := [(0, .ref 282), (1, .int v1), (2, .int ((if (gA ph v3) = 0 then (if (gA sta v3) < mi then ((if (gA he v3) < mi then ((if (gA ph v3) = 2 then (iMn v2 (gA du v3)) else v2) : Int32) else (iMn ((if (gA ph v3) = 2 then (iMn v2 (gA du v3)) else v2) : Int32) (gA he v3))) : Int32) else (iMn ((if (gA he v3) < mi then ((if (gA ph v3) = 2 then (iMn v2 (gA du v3)) else v2) : Int32) else (iMn ((if (gA ph v3) = 2 then (iMn v2 (gA du v3)) else v2) : Int32) (gA he v3))) : Int32) (gA sta v3))) else ((if (gA he v3) < mi then ((if (gA ph v3) = 2 then (iMn v2 (gA du v3)) else v2) : Int32) else (iMn ((if (gA ph v3) = 2 then (iMn v2 (gA du v3)) else v2) : Int32) (gA he v3))) : Int32)) : Int32)), (3, .int (v3 + 1))]) (pcJ := 96) L rfl rfl rfl rfl (fun lv L => ?_)
      refine j_V.gto xc26_M xc26_96 (t := 4) rfl ?_
      refine j_V.mono (ih ((v3 + 1)) (((if (gA ph v3) = 0 then (if (gA sta v3) < mi then ((if (gA he v3) < mi then ((if (gA ph v3) = 2 then (iMn v2 (gA du v3)) else v2) : Int32) else (iMn ((if (gA ph v3) = 2 then (iMn v2 (gA du v3)) else v2) : Int32) (gA he v3))) : Int32) else (iMn ((if (gA he v3) < mi then ((if (gA ph v3) = 2 then (iMn v2 (gA du v3)) else v2) : Int32) else (iMn ((if (gA ph v3) = 2 then (iMn v2 (gA du v3)) else v2) : Int32) (gA he v3))) : Int32) (gA sta v3))) else ((if (gA he v3) < mi then ((if (gA ph v3) = 2 then (iMn v2 (gA du v3)) else v2) : Int32) else (iMn ((if (gA ph v3) = 2 then (iMn v2 (gA du v3)) else v2) : Int32) (gA he v3))) : Int32)) : Int32)) (lpN_n e) L K) ?_
      rintro r hz ⟨rfl, rfl⟩
      exact ⟨congrArg (fun z => some (Value.int z)) (Eq.symm (show (x_nextDue_l4 mi sta ph du he v1 (f + 1) v3 v2) = (x_nextDue_l4 mi sta ph du he v1 f ((v3 + 1)) (((if (gA ph v3) = 0 then (if (gA sta v3) < mi then ((if (gA he v3) < mi then ((if (gA ph v3) = 2 then (iMn v2 (gA du v3)) else v2) : Int32) else (iMn ((if (gA ph v3) = 2 then (iMn v2 (gA du v3)) else v2) : Int32) (gA he v3))) : Int32) else (iMn ((if (gA he v3) < mi then ((if (gA ph v3) = 2 then (iMn v2 (gA du v3)) else v2) : Int32) else (iMn ((if (gA ph v3) = 2 then (iMn v2 (gA du v3)) else v2) : Int32) (gA he v3))) : Int32) (gA sta v3))) else ((if (gA he v3) < mi then ((if (gA ph v3) = 2 then (iMn v2 (gA du v3)) else v2) : Int32) else (iMn ((if (gA ph v3) = 2 then (iMn v2 (gA du v3)) else v2) : Int32) (gA he v3))) : Int32)) : Int32))) from rfl)), rfl⟩
set_option maxRecDepth 1000000 in
theorem xc26_ok {mi : Int32} {shu : Int32} {bus : Int32} {lks : Int32} {sta : List Int32} {ph : List Int32} {du : List Int32} {he : List Int32} {ns : Int32} {nt : Int32} {cel : Int32} {x1 : Int32} {d : Nat} {h h0 : J_H} (K : KN h [(282, .inl (7, [.ref 327, .int mi, .int shu, .int bus, .ref 283, .ref 284, .ref 285, .ref 286, .ref 287, .ref 288, .ref 289, .ref 290, .ref 291, .ref 292, .ref 293, .int lks, .ref 294, .ref 295, .ref 298])), (284, .inr (.inl (0, sta))), (285, .inr (.inl (0, ph))), (288, .inr (.inl (0, du))), (289, .inr (.inl (0, he))), (327, .inl (2, [.int ns, .ref 328, .ref 329, .ref 330, .ref 331, .int nt, .ref 332, .ref 333, .ref 334, .ref 335, .ref 336, .ref 337, .ref 338, .int cel, .ref 339, .ref 340, .ref 341, .ref 342]))] h0) : j_V jP d 94 0 (lv_args 0 [.ref 282, .int x1]) [] h (fun rv h' => rv = some (.int (x_nextDue mi sta ph du he nt x1)) ∧ h' = h) := by
  show j_V jP d 94 0 [(0, .ref 282), (1, .int x1)] [] h _
  obtain ⟨lv, elv, L⟩ : ∃ lv, lv = [(0, .ref 282), (1, .int x1)] ∧ LK lv [(0, .ref 282), (1, .int x1)] := ⟨_, rfl, LK.rf⟩
  rw [← elv]
  clear elv
  refine j_V.ldL xc26_M xc26_0 rfl (i := 1) (kd := 0) (v := .int x1) (pcJ := 1) rfl L rfl rfl rfl ?_
  refine j_V.stL xc26_M xc26_1 rfl (i := 2) (kd := 0) (kl' := [(0, .ref 282), (1, .int x1), (2, .int x1)]) (pcJ := 2) rfl L rfl (by decide) rfl rfl rfl (fun lv L => ?_)
  refine j_V.one xc26_M xc26_2 (by decide) (pcJ := 3) (stJ := [.int 0]) rfl ?_
  refine j_V.stL xc26_M xc26_3 rfl (i := 3) (kd := 0) (kl' := [(0, .ref 282), (1, .int x1), (2, .int x1), (3, .int 0)]) (pcJ := 4) rfl L rfl (by decide) rfl rfl rfl (fun lv L => ?_)
  refine j_V.mono (xc26_ok_l4 _ (0) (x1) rfl L K) ?_
  rintro r hz ⟨rfl, rfl⟩
  exact ⟨congrArg (fun z => some (Value.int z)) (Eq.symm (show (x_nextDue mi sta ph du he nt x1) = (x_nextDue_l4 mi sta ph du he x1 (lpN nt 0) 0 x1) from rfl)), rfl⟩
set_option maxRecDepth 100000 in
theorem xc27_M : j_meth jP 49 = some (yX5_firstThrough, cX5_firstThrough, 8, (some .int), 3, false, 5) := rfl
set_option maxRecDepth 100000 in
theorem xc27_0 : j_code jP 49 0 = some (.iconst 0) := rfl
set_option maxRecDepth 100000 in
theorem xc27_1 : j_code jP 49 1 = some (.istore 4) := rfl
set_option maxRecDepth 100000 in
theorem xc27_3 : j_code jP 49 3 = some (.iload 4) := rfl
set_option maxRecDepth 100000 in
theorem xc27_5 : j_code jP 49 5 = some (.aload_n 1) := rfl
set_option maxRecDepth 100000 in
theorem xc27_6 : j_code jP 49 6 = some (.getfield 24) := rfl
set_option maxRecDepth 100000 in
theorem xc27_9 : j_code jP 49 9 = some (.if_icmp .ge 78) := rfl
set_option maxRecDepth 100000 in
theorem xc27_12 : j_code jP 49 12 = some (.iload_n 2) := rfl
set_option maxRecDepth 100000 in
theorem xc27_13 : j_code jP 49 13 = some (.iload 4) := rfl
set_option maxRecDepth 100000 in
theorem xc27_15 : j_code jP 49 15 = some (.ishr) := rfl
set_option maxRecDepth 100000 in
theorem xc27_16 : j_code jP 49 16 = some (.iconst 1) := rfl
set_option maxRecDepth 100000 in
theorem xc27_17 : j_code jP 49 17 = some (.iand) := rfl
set_option maxRecDepth 100000 in
theorem xc27_18 : j_code jP 49 18 = some (.ifCond .eq 63) := rfl
set_option maxRecDepth 100000 in
theorem xc27_21 : j_code jP 49 21 = some (.aload_n 1) := rfl
set_option maxRecDepth 100000 in
theorem xc27_22 : j_code jP 49 22 = some (.getfield 43) := rfl
set_option maxRecDepth 100000 in
theorem xc27_25 : j_code jP 49 25 = some (.iload 4) := rfl
set_option maxRecDepth 100000 in
theorem xc27_27 : j_code jP 49 27 = some (.iaload) := rfl
set_option maxRecDepth 100000 in
theorem xc27_28 : j_code jP 49 28 = some (.iload_n 3) := rfl
set_option maxRecDepth 100000 in
theorem xc27_29 : j_code jP 49 29 = some (.iand) := rfl
set_option maxRecDepth 100000 in
theorem xc27_30 : j_code jP 49 30 = some (.istore 5) := rfl
set_option maxRecDepth 100000 in
theorem xc27_32 : j_code jP 49 32 = some (.iload 5) := rfl
set_option maxRecDepth 100000 in
theorem xc27_34 : j_code jP 49 34 = some (.iload 5) := rfl
set_option maxRecDepth 100000 in
theorem xc27_36 : j_code jP 49 36 = some (.iconst 1) := rfl
set_option maxRecDepth 100000 in
theorem xc27_37 : j_code jP 49 37 = some (.ishr) := rfl
set_option maxRecDepth 100000 in
theorem xc27_38 : j_code jP 49 38 = some (.ior) := rfl
set_option maxRecDepth 100000 in
theorem xc27_39 : j_code jP 49 39 = some (.iload 5) := rfl
set_option maxRecDepth 100000 in
theorem xc27_41 : j_code jP 49 41 = some (.iconst 2) := rfl
set_option maxRecDepth 100000 in
theorem xc27_42 : j_code jP 49 42 = some (.ishr) := rfl
set_option maxRecDepth 100000 in
theorem xc27_43 : j_code jP 49 43 = some (.ior) := rfl
set_option maxRecDepth 100000 in
theorem xc27_44 : j_code jP 49 44 = some (.istore 6) := rfl
set_option maxRecDepth 100000 in
theorem xc27_46 : j_code jP 49 46 = some (.aload_n 1) := rfl
set_option maxRecDepth 100000 in
theorem xc27_47 : j_code jP 49 47 = some (.getfield 46) := rfl
set_option maxRecDepth 100000 in
theorem xc27_50 : j_code jP 49 50 = some (.iload 4) := rfl
set_option maxRecDepth 100000 in
theorem xc27_52 : j_code jP 49 52 = some (.bipush 7) := rfl
set_option maxRecDepth 100000 in
theorem xc27_54 : j_code jP 49 54 = some (.imul) := rfl
set_option maxRecDepth 100000 in
theorem xc27_55 : j_code jP 49 55 = some (.aload_n 0) := rfl
set_option maxRecDepth 100000 in
theorem xc27_56 : j_code jP 49 56 = some (.getfield 15) := rfl
set_option maxRecDepth 100000 in
theorem xc27_59 : j_code jP 49 59 = some (.iload 4) := rfl
set_option maxRecDepth 100000 in
theorem xc27_61 : j_code jP 49 61 = some (.iaload) := rfl
set_option maxRecDepth 100000 in
theorem xc27_62 : j_code jP 49 62 = some (.iconst 3) := rfl
set_option maxRecDepth 100000 in
theorem xc27_63 : j_code jP 49 63 = some (.idiv) := rfl
set_option maxRecDepth 100000 in
theorem xc27_64 : j_code jP 49 64 = some (.iadd) := rfl
set_option maxRecDepth 100000 in
theorem xc27_65 : j_code jP 49 65 = some (.iaload) := rfl
set_option maxRecDepth 100000 in
theorem xc27_66 : j_code jP 49 66 = some (.istore 7) := rfl
set_option maxRecDepth 100000 in
theorem xc27_68 : j_code jP 49 68 = some (.iload 6) := rfl
set_option maxRecDepth 100000 in
theorem xc27_70 : j_code jP 49 70 = some (.iload 7) := rfl
set_option maxRecDepth 100000 in
theorem xc27_72 : j_code jP 49 72 = some (.iand) := rfl
set_option maxRecDepth 100000 in
theorem xc27_73 : j_code jP 49 73 = some (.iload 7) := rfl
set_option maxRecDepth 100000 in
theorem xc27_75 : j_code jP 49 75 = some (.if_icmp .ne 6) := rfl
set_option maxRecDepth 100000 in
theorem xc27_78 : j_code jP 49 78 = some (.iload 4) := rfl
set_option maxRecDepth 100000 in
theorem xc27_80 : j_code jP 49 80 = some (.ireturn) := rfl
set_option maxRecDepth 100000 in
theorem xc27_81 : j_code jP 49 81 = some (.iinc 4 1) := rfl
set_option maxRecDepth 100000 in
theorem xc27_84 : j_code jP 49 84 = some (.goto (-81)) := rfl
set_option maxRecDepth 100000 in
theorem xc27_87 : j_code jP 49 87 = some (.iconst (-1)) := rfl
set_option maxRecDepth 100000 in
theorem xc27_88 : j_code jP 49 88 = some (.ireturn) := rfl
set_option maxRecDepth 1000000 in
theorem xc27_ok_l3 {rl : Int32} {sea : List Int32} {ns : Int32} {nt : Int32} {cel : Int32} {fit : List Int32} {way : List Int32} {v2 v3 : Int32} {d : Nat} {h h0 : J_H} : ∀ (f : Nat) (v4 : Int32) {lv : J_L}, lpN nt v4 = f → LK lv [(0, .ref 295), (1, .ref 327), (2, .int v2), (3, .int v3), (4, .int v4)] → KN h [(295, .inl (5, [.ref 296, .int rl, .ref 297])), (297, .inr (.inl (0, sea))), (327, .inl (2, [.int ns, .ref 328, .ref 329, .ref 330, .ref 331, .int nt, .ref 332, .ref 333, .ref 334, .ref 335, .ref 336, .ref 337, .ref 338, .int cel, .ref 339, .ref 340, .ref 341, .ref 342])), (339, .inr (.inl (0, fit))), (340, .inr (.inl (0, way)))] h0 → j_V jP d 49 3 lv [] h (fun rv h' => rv = some (.int (x_firstThrough_l3 sea fit way v2 v3 f v4)) ∧ h' = h) := by
  intro f
  induction f with
  | zero =>
    intro v4 lv e L K
    refine j_V.ldL xc27_M xc27_3 rfl (i := 4) (kd := 0) (v := .int v4) (pcJ := 5) rfl L rfl rfl rfl ?_
    refine j_V.ldL xc27_M xc27_5 rfl (i := 1) (kd := 2) (v := .ref 327) (pcJ := 6) rfl L rfl rfl rfl ?_
    refine j_V.getK xc27_M xc27_6 (ci := 2) (j := 5) rfl K rfl rfl ?_
    refine j_V.icmp xc27_M xc27_9 (t := 87) rfl (fun c9_0 => ?_) (fun c9_0 => ?_)
    · replace c9_0 : ¬ (v4 < nt) := jd_ge c9_0
      refine j_V.one xc27_M xc27_87 (by decide) (pcJ := 88) (stJ := [.int (-1)]) rfl ?_
      exact j_V.ri xc27_M xc27_88 ⟨congrArg (fun z => some (Value.int z)) (Eq.symm (show (x_firstThrough_l3 sea fit way v2 v3 0 v4) = (-1) from rfl)), rfl⟩
    · replace c9_0 : v4 < nt := jd_gen c9_0
      exact absurd c9_0 (lpN_z e)
  | succ f ih =>
    intro v4 lv e L K
    refine j_V.ldL xc27_M xc27_3 rfl (i := 4) (kd := 0) (v := .int v4) (pcJ := 5) rfl L rfl rfl rfl ?_
    refine j_V.ldL xc27_M xc27_5 rfl (i := 1) (kd := 2) (v := .ref 327) (pcJ := 6) rfl L rfl rfl rfl ?_
    refine j_V.getK xc27_M xc27_6 (ci := 2) (j := 5) rfl K rfl rfl ?_
    refine j_V.icmp xc27_M xc27_9 (t := 87) rfl (fun c9_0 => ?_) (fun c9_0 => ?_)
    · replace c9_0 : ¬ (v4 < nt) := jd_ge c9_0
      exact absurd (lpN_s e) c9_0
    · replace c9_0 : v4 < nt := jd_gen c9_0
      refine j_V.ldL xc27_M xc27_12 rfl (i := 2) (kd := 0) (v := .int v2) (pcJ := 13) rfl L rfl rfl rfl ?_
      refine j_V.ldL xc27_M xc27_13 rfl (i := 4) (kd := 0) (v := .int v4) (pcJ := 15) rfl L rfl rfl rfl ?_
      refine j_V.one xc27_M xc27_15 (by decide) (pcJ := 16) (stJ := [.int (v2 >>> (v4 &&& 31))]) rfl ?_
      refine j_V.one xc27_M xc27_16 (by decide) (pcJ := 17) (stJ := [.int 1, .int (v2 >>> (v4 &&& 31))]) rfl ?_
      refine j_V.one xc27_M xc27_17 (by decide) (pcJ := 18) (stJ := [.int ((v2 >>> (v4 &&& 31)) &&& 1)]) rfl ?_
      refine j_V.ifc xc27_M xc27_18 (t := 81) rfl (fun c18_0 => ?_) (fun c18_0 => ?_)
      · replace c18_0 : ((v2 >>> (v4 &&& 31)) &&& 1) = 0 := jd_eq c18_0
        refine j_V.inL xc27_M xc27_81 (i := 4) (kl' := [(0, .ref 295), (1, .ref 327), (2, .int v2), (3, .int v3), (4, .int (v4 + 1))]) (pcJ := 84) L rfl rfl rfl rfl (fun lv L => ?_)
        refine j_V.gto xc27_M xc27_84 (t := 3) rfl ?_
        refine j_V.mono (ih ((v4 + 1)) (lpN_n e) L K) ?_
        rintro r hz ⟨rfl, rfl⟩
        exact ⟨congrArg (fun z => some (Value.int z)) (Eq.symm (show (x_firstThrough_l3 sea fit way v2 v3 (f + 1) v4) = (x_firstThrough_l3 sea fit way v2 v3 f ((v4 + 1))) from (if_pos c18_0).trans (rfl))), rfl⟩
      · replace c18_0 : ¬ (((v2 >>> (v4 &&& 31)) &&& 1) = 0) := jd_eqn c18_0
        refine j_V.ldL xc27_M xc27_21 rfl (i := 1) (kd := 2) (v := .ref 327) (pcJ := 22) rfl L rfl rfl rfl ?_
        refine j_V.getK xc27_M xc27_22 (ci := 2) (j := 14) rfl K rfl rfl ?_
        refine j_V.ldL xc27_M xc27_25 rfl (i := 4) (kd := 0) (v := .int v4) (pcJ := 27) rfl L rfl rfl rfl ?_
        refine j_V.iaA xc27_M xc27_27 K rfl ?_
        refine j_V.ldL xc27_M xc27_28 rfl (i := 3) (kd := 0) (v := .int v3) (pcJ := 29) rfl L rfl rfl rfl ?_
        refine j_V.one xc27_M xc27_29 (by decide) (pcJ := 30) (stJ := [.int ((gA fit v4) &&& v3)]) rfl ?_
        refine j_V.stL xc27_M xc27_30 rfl (i := 5) (kd := 0) (kl' := [(0, .ref 295), (1, .ref 327), (2, .int v2), (3, .int v3), (4, .int v4), (5, .int ((gA fit v4) &&& v3))]) (pcJ := 32) rfl L rfl (by decide) rfl rfl rfl (fun lv L => ?_)
        refine j_V.ldL xc27_M xc27_32 rfl (i := 5) (kd := 0) (v := .int ((gA fit v4) &&& v3)) (pcJ := 34) rfl L rfl rfl rfl ?_
        refine j_V.ldL xc27_M xc27_34 rfl (i := 5) (kd := 0) (v := .int ((gA fit v4) &&& v3)) (pcJ := 36) rfl L rfl rfl rfl ?_
        refine j_V.one xc27_M xc27_36 (by decide) (pcJ := 37) (stJ := [.int 1, .int ((gA fit v4) &&& v3), .int ((gA fit v4) &&& v3)]) rfl ?_
        refine j_V.one xc27_M xc27_37 (by decide) (pcJ := 38) (stJ := [.int (((gA fit v4) &&& v3) >>> (1 &&& 31)), .int ((gA fit v4) &&& v3)]) rfl ?_
        refine j_V.one xc27_M xc27_38 (by decide) (pcJ := 39) (stJ := [.int (((gA fit v4) &&& v3) ||| (((gA fit v4) &&& v3) >>> (1 &&& 31)))]) rfl ?_
        refine j_V.ldL xc27_M xc27_39 rfl (i := 5) (kd := 0) (v := .int ((gA fit v4) &&& v3)) (pcJ := 41) rfl L rfl rfl rfl ?_
        refine j_V.one xc27_M xc27_41 (by decide) (pcJ := 42) (stJ := [.int 2, .int ((gA fit v4) &&& v3), .int (((gA fit v4) &&& v3) ||| (((gA fit v4) &&& v3) >>> (1 &&& 31)))]) rfl ?_
        refine j_V.one xc27_M xc27_42 (by decide) (pcJ := 43) (stJ := [.int (((gA fit v4) &&& v3) >>> (2 &&& 31)), .int (((gA fit v4) &&& v3) ||| (((gA fit v4) &&& v3) >>> (1 &&& 31)))]) rfl ?_
        refine j_V.one xc27_M xc27_43 (by decide) (pcJ := 44) (stJ := [.int ((((gA fit v4) &&& v3) ||| (((gA fit v4) &&& v3) >>> (1 &&& 31))) ||| (((gA fit v4) &&& v3) >>> (2 &&& 31)))]) rfl ?_
        refine j_V.stL xc27_M xc27_44 rfl (i := 6) (kd := 0) (kl' := [(0, .ref 295), (1, .ref 327), (2, .int v2), (3, .int v3), (4, .int v4), (5, .int ((gA fit v4) &&& v3)), (6, .int ((((gA fit v4) &&& v3) ||| (((gA fit v4) &&& v3) >>> (1 &&& 31))) ||| (((gA fit v4) &&& v3) >>> (2 &&& 31))))]) (pcJ := 46) rfl L rfl (by decide) rfl rfl rfl (fun lv L => ?_)
        refine j_V.ldL xc27_M xc27_46 rfl (i := 1) (kd := 2) (v := .ref 327) (pcJ := 47) rfl L rfl rfl rfl ?_
        refine j_V.getK xc27_M xc27_47 (ci := 2) (j := 15) rfl K rfl rfl ?_
        refine j_V.ldL xc27_M xc27_50 rfl (i := 4) (kd := 0) (v := .int v4) (pcJ := 52) rfl L rfl rfl rfl ?_
        refine j_V.one xc27_M xc27_52 (by decide) (pcJ := 54) (stJ := [.int 7, .int v4, .ref 340]) rfl ?_
        refine j_V.one xc27_M xc27_54 (by decide) (pcJ := 55) (stJ := [.int (v4 * 7), .ref 340]) rfl ?_
        refine j_V.ldL xc27_M xc27_55 rfl (i := 0) (kd := 2) (v := .ref 295) (pcJ := 56) rfl L rfl rfl rfl ?_
        refine j_V.getK xc27_M xc27_56 (ci := 5) (j := 2) rfl K rfl rfl ?_
        refine j_V.ldL xc27_M xc27_59 rfl (i := 4) (kd := 0) (v := .int v4) (pcJ := 61) rfl L rfl rfl rfl ?_
        refine j_V.iaA xc27_M xc27_61 K rfl ?_
        refine j_V.one xc27_M xc27_62 (by decide) (pcJ := 63) (stJ := [.int 3, .int (gA sea v4), .int (v4 * 7), .ref 340]) rfl ?_
        refine j_V.one xc27_M xc27_63 (by decide) (pcJ := 64) (stJ := [.int ((gA sea v4) / 3), .int (v4 * 7), .ref 340]) rfl ?_
        refine j_V.one xc27_M xc27_64 (by decide) (pcJ := 65) (stJ := [.int ((v4 * 7) + ((gA sea v4) / 3)), .ref 340]) rfl ?_
        refine j_V.iaA xc27_M xc27_65 K rfl ?_
        refine j_V.stL xc27_M xc27_66 rfl (i := 7) (kd := 0) (kl' := [(0, .ref 295), (1, .ref 327), (2, .int v2), (3, .int v3), (4, .int v4), (5, .int ((gA fit v4) &&& v3)), (6, .int ((((gA fit v4) &&& v3) ||| (((gA fit v4) &&& v3) >>> (1 &&& 31))) ||| (((gA fit v4) &&& v3) >>> (2 &&& 31)))), (7, .int (gA way ((v4 * 7) + ((gA sea v4) / 3))))]) (pcJ := 68) rfl L rfl (by decide) rfl rfl rfl (fun lv L => ?_)
        refine j_V.ldL xc27_M xc27_68 rfl (i := 6) (kd := 0) (v := .int ((((gA fit v4) &&& v3) ||| (((gA fit v4) &&& v3) >>> (1 &&& 31))) ||| (((gA fit v4) &&& v3) >>> (2 &&& 31)))) (pcJ := 70) rfl L rfl rfl rfl ?_
        refine j_V.ldL xc27_M xc27_70 rfl (i := 7) (kd := 0) (v := .int (gA way ((v4 * 7) + ((gA sea v4) / 3)))) (pcJ := 72) rfl L rfl rfl rfl ?_
        refine j_V.one xc27_M xc27_72 (by decide) (pcJ := 73) (stJ := [.int (((((gA fit v4) &&& v3) ||| (((gA fit v4) &&& v3) >>> (1 &&& 31))) ||| (((gA fit v4) &&& v3) >>> (2 &&& 31))) &&& (gA way ((v4 * 7) + ((gA sea v4) / 3))))]) rfl ?_
        refine j_V.ldL xc27_M xc27_73 rfl (i := 7) (kd := 0) (v := .int (gA way ((v4 * 7) + ((gA sea v4) / 3)))) (pcJ := 75) rfl L rfl rfl rfl ?_
        refine j_V.icmp xc27_M xc27_75 (t := 81) rfl (fun c75_1 => ?_) (fun c75_1 => ?_)
        · replace c75_1 : ¬ ((((((gA fit v4) &&& v3) ||| (((gA fit v4) &&& v3) >>> (1 &&& 31))) ||| (((gA fit v4) &&& v3) >>> (2 &&& 31))) &&& (gA way ((v4 * 7) + ((gA sea v4) / 3)))) = (gA way ((v4 * 7) + ((gA sea v4) / 3)))) := jd_ne c75_1
          refine j_V.inL xc27_M xc27_81 (i := 4) (kl' := [(0, .ref 295), (1, .ref 327), (2, .int v2), (3, .int v3), (4, .int (v4 + 1)), (5, .int ((gA fit v4) &&& v3)), (6, .int ((((gA fit v4) &&& v3) ||| (((gA fit v4) &&& v3) >>> (1 &&& 31))) ||| (((gA fit v4) &&& v3) >>> (2 &&& 31)))), (7, .int (gA way ((v4 * 7) + ((gA sea v4) / 3))))]) (pcJ := 84) L rfl rfl rfl rfl (fun lv L => ?_)
          refine j_V.gto xc27_M xc27_84 (t := 3) rfl ?_
          refine j_V.mono (ih ((v4 + 1)) (lpN_n e) (L.sub ⟨rfl, rfl, rfl, rfl, rfl, trivial⟩) K) ?_
          rintro r hz ⟨rfl, rfl⟩
          exact ⟨congrArg (fun z => some (Value.int z)) (Eq.symm (show (x_firstThrough_l3 sea fit way v2 v3 (f + 1) v4) = (x_firstThrough_l3 sea fit way v2 v3 f ((v4 + 1))) from (if_neg c18_0).trans ((if_neg c75_1).trans (rfl)))), rfl⟩
        · replace c75_1 : (((((gA fit v4) &&& v3) ||| (((gA fit v4) &&& v3) >>> (1 &&& 31))) ||| (((gA fit v4) &&& v3) >>> (2 &&& 31))) &&& (gA way ((v4 * 7) + ((gA sea v4) / 3)))) = (gA way ((v4 * 7) + ((gA sea v4) / 3))) := jd_nen c75_1
          refine j_V.ldL xc27_M xc27_78 rfl (i := 4) (kd := 0) (v := .int v4) (pcJ := 80) rfl L rfl rfl rfl ?_
          exact j_V.ri xc27_M xc27_80 ⟨congrArg (fun z => some (Value.int z)) (Eq.symm (show (x_firstThrough_l3 sea fit way v2 v3 (f + 1) v4) = v4 from (if_neg c18_0).trans ((if_pos c75_1).trans (rfl)))), rfl⟩
set_option maxRecDepth 1000000 in
theorem xc27_ok {rl : Int32} {sea : List Int32} {ns : Int32} {nt : Int32} {cel : Int32} {fit : List Int32} {way : List Int32} {x2 x3 : Int32} {d : Nat} {h h0 : J_H} (K : KN h [(295, .inl (5, [.ref 296, .int rl, .ref 297])), (297, .inr (.inl (0, sea))), (327, .inl (2, [.int ns, .ref 328, .ref 329, .ref 330, .ref 331, .int nt, .ref 332, .ref 333, .ref 334, .ref 335, .ref 336, .ref 337, .ref 338, .int cel, .ref 339, .ref 340, .ref 341, .ref 342])), (339, .inr (.inl (0, fit))), (340, .inr (.inl (0, way)))] h0) : j_V jP d 49 0 (lv_args 0 [.ref 295, .ref 327, .int x2, .int x3]) [] h (fun rv h' => rv = some (.int (x_firstThrough sea nt fit way x2 x3)) ∧ h' = h) := by
  show j_V jP d 49 0 [(0, .ref 295), (1, .ref 327), (2, .int x2), (3, .int x3)] [] h _
  obtain ⟨lv, elv, L⟩ : ∃ lv, lv = [(0, .ref 295), (1, .ref 327), (2, .int x2), (3, .int x3)] ∧ LK lv [(0, .ref 295), (1, .ref 327), (2, .int x2), (3, .int x3)] := ⟨_, rfl, LK.rf⟩
  rw [← elv]
  clear elv
  refine j_V.one xc27_M xc27_0 (by decide) (pcJ := 1) (stJ := [.int 0]) rfl ?_
  refine j_V.stL xc27_M xc27_1 rfl (i := 4) (kd := 0) (kl' := [(0, .ref 295), (1, .ref 327), (2, .int x2), (3, .int x3), (4, .int 0)]) (pcJ := 3) rfl L rfl (by decide) rfl rfl rfl (fun lv L => ?_)
  refine j_V.mono (xc27_ok_l3 _ (0) rfl L K) ?_
  rintro r hz ⟨rfl, rfl⟩
  exact ⟨congrArg (fun z => some (Value.int z)) (Eq.symm (show (x_firstThrough sea nt fit way x2 x3) = (x_firstThrough_l3 sea fit way x2 x3 (lpN nt 0) 0) from rfl)), rfl⟩

/-! the reference's methods that write nothing, by wip/px/gen_m1.py -/
set_option maxRecDepth 100000 in
theorem ma0_M : j_meth jP 171 = some (yX10_isFrom, cX10_isFrom, 3, (some .boolean), 3, false, 10) := rfl
set_option maxRecDepth 100000 in
theorem ma0_0 : j_code jP 171 0 = some (.iload_n 0) := rfl
set_option maxRecDepth 100000 in
theorem ma0_1 : j_code jP 171 1 = some (.iload_n 1) := rfl
set_option maxRecDepth 100000 in
theorem ma0_2 : j_code jP 171 2 = some (.if_icmp .lt 12) := rfl
set_option maxRecDepth 100000 in
theorem ma0_5 : j_code jP 171 5 = some (.iload_n 0) := rfl
set_option maxRecDepth 100000 in
theorem ma0_6 : j_code jP 171 6 = some (.iload_n 2) := rfl
set_option maxRecDepth 100000 in
theorem ma0_7 : j_code jP 171 7 = some (.if_icmp .gt 7) := rfl
set_option maxRecDepth 100000 in
theorem ma0_10 : j_code jP 171 10 = some (.iconst 1) := rfl
set_option maxRecDepth 100000 in
theorem ma0_11 : j_code jP 171 11 = some (.goto 4) := rfl
set_option maxRecDepth 100000 in
theorem ma0_14 : j_code jP 171 14 = some (.iconst 0) := rfl
set_option maxRecDepth 100000 in
theorem ma0_15 : j_code jP 171 15 = some (.ireturn) := rfl
def m_isFrom  (x1 : Int32) (x2 : Int32) (x3 : Int32) : Int32 := ((if x1 < x2 then 0 else (if x3 < x1 then 0 else 1)) : Int32)
set_option maxRecDepth 1000000 in
theorem ma0_ok  {x1 x2 x3 : Int32} {d : Nat} {h h0 : J_H} (K : KN h [] h0) : j_V jP d 171 0 (lv_args 0 [.int x1, .int x2, .int x3]) [] h (fun rv h' => rv = some (.int (m_isFrom x1 x2 x3)) ∧ h' = h) := by
  show j_V jP d 171 0 [(0, .int x1), (1, .int x2), (2, .int x3)] [] h _
  obtain ⟨lv, elv, L⟩ : ∃ lv, lv = [(0, .int x1), (1, .int x2), (2, .int x3)] ∧ LK lv [(0, .int x1), (1, .int x2), (2, .int x3)] := ⟨_, rfl, LK.rf⟩
  rw [← elv]
  clear elv
  refine j_V.ldL ma0_M ma0_0 rfl (i := 0) (kd := 0) (v := .int x1) (pcJ := 1) rfl L rfl rfl rfl ?_
  refine j_V.ldL ma0_M ma0_1 rfl (i := 1) (kd := 0) (v := .int x2) (pcJ := 2) rfl L rfl rfl rfl ?_
  refine j_V.cut (b := 15) (stJ := [.int ((if x1 < x2 then 0 else (if x3 < x1 then 0 else 1)) : Int32)]) (fun v => [(0, .int x1), (1, .int x2), (2, .int x3)]) ((if x1 < x2 then 0 else (if x3 < x1 then 0 else 1)) : Int32) (fun Q kk => ?_) (fun lv L => ?_)
  · refine j_V.icmp ma0_M ma0_2 (t := 14) rfl (fun c2_0 => ?_) (fun c2_0 => ?_)
    · replace c2_0 : x1 < x2 := jd_lt c2_0
      refine j_V.one ma0_M ma0_14 (by decide) (pcJ := 15) (stJ := [.int 0]) rfl ?_
      exact Eq.subst (motive := fun z => j_V jP _ 171 15 _ (.int z :: []) h Q) (show ((if x1 < x2 then 0 else (if x3 < x1 then 0 else 1)) : Int32) = 0 from (if_pos c2_0).trans (rfl)) (kk _ L)
    · replace c2_0 : ¬ (x1 < x2) := jd_ltn c2_0
      refine j_V.ldL ma0_M ma0_5 rfl (i := 0) (kd := 0) (v := .int x1) (pcJ := 6) rfl L rfl rfl rfl ?_
      refine j_V.ldL ma0_M ma0_6 rfl (i := 2) (kd := 0) (v := .int x3) (pcJ := 7) rfl L rfl rfl rfl ?_
      refine j_V.icmp ma0_M ma0_7 (t := 14) rfl (fun c7_1 => ?_) (fun c7_1 => ?_)
      · replace c7_1 : x3 < x1 := jd_gt c7_1
        refine j_V.one ma0_M ma0_14 (by decide) (pcJ := 15) (stJ := [.int 0]) rfl ?_
        exact Eq.subst (motive := fun z => j_V jP _ 171 15 _ (.int z :: []) h Q) (show ((if x1 < x2 then 0 else (if x3 < x1 then 0 else 1)) : Int32) = 0 from (if_neg c2_0).trans ((if_pos c7_1).trans (rfl))) (kk _ L)
      · replace c7_1 : ¬ (x3 < x1) := jd_gtn c7_1
        refine j_V.one ma0_M ma0_10 (by decide) (pcJ := 11) (stJ := [.int 1]) rfl ?_
        refine j_V.gto ma0_M ma0_11 (t := 15) rfl ?_
        exact Eq.subst (motive := fun z => j_V jP _ 171 15 _ (.int z :: []) h Q) (show ((if x1 < x2 then 0 else (if x3 < x1 then 0 else 1)) : Int32) = 1 from (if_neg c2_0).trans ((if_neg c7_1).trans (rfl))) (kk _ L)
  exact j_V.ri ma0_M ma0_15 ⟨congrArg (fun z => some (Value.int z)) (Eq.symm (show (m_isFrom x1 x2 x3) = ((if x1 < x2 then 0 else (if x3 < x1 then 0 else 1)) : Int32) from rfl)), rfl⟩
set_option maxRecDepth 100000 in
theorem ma1_M : j_meth jP 176 = some (yX10_st, cX10_st, 3, (some .int), 2, false, 10) := rfl
set_option maxRecDepth 100000 in
theorem ma1_0 : j_code jP 176 0 = some (.aload_n 0) := rfl
set_option maxRecDepth 100000 in
theorem ma1_1 : j_code jP 176 1 = some (.getfield 7) := rfl
set_option maxRecDepth 100000 in
theorem ma1_4 : j_code jP 176 4 = some (.bipush 8) := rfl
set_option maxRecDepth 100000 in
theorem ma1_6 : j_code jP 176 6 = some (.iload_n 1) := rfl
set_option maxRecDepth 100000 in
theorem ma1_7 : j_code jP 176 7 = some (.imul) := rfl
set_option maxRecDepth 100000 in
theorem ma1_8 : j_code jP 176 8 = some (.iload_n 2) := rfl
set_option maxRecDepth 100000 in
theorem ma1_9 : j_code jP 176 9 = some (.iadd) := rfl
set_option maxRecDepth 100000 in
theorem ma1_10 : j_code jP 176 10 = some (.iaload) := rfl
set_option maxRecDepth 100000 in
theorem ma1_11 : j_code jP 176 11 = some (.ireturn) := rfl
def m_st (w : List Int32) (x1 : Int32) (x2 : Int32) : Int32 := (gA w ((8 * x1) + x2))
set_option maxRecDepth 1000000 in
theorem ma1_ok {u : Nat → Value} {w : List Int32} {x1 x2 : Int32} {d : Nat} {h h0 : J_H} (K : KN h [(359, .inl (10, [(u 0), .ref 360, .ref 361, .ref 362, .ref 363, .ref 364, .ref 365, .ref 366, .ref 367, (u 9), (u 10), (u 11), (u 12), (u 13), (u 14), (u 15), (u 16), (u 17), (u 18), (u 19), (u 20), (u 21), .ref 368, (u 23), .ref 369, .ref 370, .ref 371, (u 27)])), (360, .inr (.inl (0, w)))] h0) : j_V jP d 176 0 (lv_args 0 [.ref 359, .int x1, .int x2]) [] h (fun rv h' => rv = some (.int (m_st w x1 x2)) ∧ h' = h) := by
  show j_V jP d 176 0 [(0, .ref 359), (1, .int x1), (2, .int x2)] [] h _
  obtain ⟨lv, elv, L⟩ : ∃ lv, lv = [(0, .ref 359), (1, .int x1), (2, .int x2)] ∧ LK lv [(0, .ref 359), (1, .int x1), (2, .int x2)] := ⟨_, rfl, LK.rf⟩
  rw [← elv]
  clear elv
  refine j_V.ldL ma1_M ma1_0 rfl (i := 0) (kd := 2) (v := .ref 359) (pcJ := 1) rfl L rfl rfl rfl ?_
  refine j_V.getK ma1_M ma1_1 (ci := 10) (j := 1) rfl K rfl rfl ?_
  refine j_V.one ma1_M ma1_4 (by decide) (pcJ := 6) (stJ := [.int 8, .ref 360]) rfl ?_
  refine j_V.ldL ma1_M ma1_6 rfl (i := 1) (kd := 0) (v := .int x1) (pcJ := 7) rfl L rfl rfl rfl ?_
  refine j_V.one ma1_M ma1_7 (by decide) (pcJ := 8) (stJ := [.int (8 * x1), .ref 360]) rfl ?_
  refine j_V.ldL ma1_M ma1_8 rfl (i := 2) (kd := 0) (v := .int x2) (pcJ := 9) rfl L rfl rfl rfl ?_
  refine j_V.one ma1_M ma1_9 (by decide) (pcJ := 10) (stJ := [.int ((8 * x1) + x2), .ref 360]) rfl ?_
  refine j_V.iaA ma1_M ma1_10 K rfl ?_
  exact j_V.ri ma1_M ma1_11 ⟨congrArg (fun z => some (Value.int z)) (Eq.symm (show (m_st w x1 x2) = (gA w ((8 * x1) + x2)) from rfl)), rfl⟩
set_option maxRecDepth 100000 in
theorem ma2_M : j_meth jP 177 = some (yX10_at, cX10_at, 2, (some .int), 2, false, 10) := rfl
set_option maxRecDepth 100000 in
theorem ma2_0 : j_code jP 177 0 = some (.bipush 56) := rfl
set_option maxRecDepth 100000 in
theorem ma2_2 : j_code jP 177 2 = some (.bipush 28) := rfl
set_option maxRecDepth 100000 in
theorem ma2_4 : j_code jP 177 4 = some (.iload_n 0) := rfl
set_option maxRecDepth 100000 in
theorem ma2_5 : j_code jP 177 5 = some (.imul) := rfl
set_option maxRecDepth 100000 in
theorem ma2_6 : j_code jP 177 6 = some (.iadd) := rfl
set_option maxRecDepth 100000 in
theorem ma2_7 : j_code jP 177 7 = some (.iload_n 1) := rfl
set_option maxRecDepth 100000 in
theorem ma2_8 : j_code jP 177 8 = some (.iadd) := rfl
set_option maxRecDepth 100000 in
theorem ma2_9 : j_code jP 177 9 = some (.ireturn) := rfl
def m_at  (x1 : Int32) (x2 : Int32) : Int32 := ((56 + (28 * x1)) + x2)
set_option maxRecDepth 1000000 in
theorem ma2_ok  {x1 x2 : Int32} {d : Nat} {h h0 : J_H} (K : KN h [] h0) : j_V jP d 177 0 (lv_args 0 [.int x1, .int x2]) [] h (fun rv h' => rv = some (.int (m_at x1 x2)) ∧ h' = h) := by
  show j_V jP d 177 0 [(0, .int x1), (1, .int x2)] [] h _
  obtain ⟨lv, elv, L⟩ : ∃ lv, lv = [(0, .int x1), (1, .int x2)] ∧ LK lv [(0, .int x1), (1, .int x2)] := ⟨_, rfl, LK.rf⟩
  rw [← elv]
  clear elv
  refine j_V.one ma2_M ma2_0 (by decide) (pcJ := 2) (stJ := [.int 56]) rfl ?_
  refine j_V.one ma2_M ma2_2 (by decide) (pcJ := 4) (stJ := [.int 28, .int 56]) rfl ?_
  refine j_V.ldL ma2_M ma2_4 rfl (i := 0) (kd := 0) (v := .int x1) (pcJ := 5) rfl L rfl rfl rfl ?_
  refine j_V.one ma2_M ma2_5 (by decide) (pcJ := 6) (stJ := [.int (28 * x1), .int 56]) rfl ?_
  refine j_V.one ma2_M ma2_6 (by decide) (pcJ := 7) (stJ := [.int (56 + (28 * x1))]) rfl ?_
  refine j_V.ldL ma2_M ma2_7 rfl (i := 1) (kd := 0) (v := .int x2) (pcJ := 8) rfl L rfl rfl rfl ?_
  refine j_V.one ma2_M ma2_8 (by decide) (pcJ := 9) (stJ := [.int ((56 + (28 * x1)) + x2)]) rfl ?_
  exact j_V.ri ma2_M ma2_9 ⟨congrArg (fun z => some (Value.int z)) (Eq.symm (show (m_at x1 x2) = ((56 + (28 * x1)) + x2) from rfl)), rfl⟩
set_option maxRecDepth 100000 in
theorem ma3_M : j_meth jP 178 = some (yX10_of, cX10_of, 3, (some .int), 2, false, 10) := rfl
set_option maxRecDepth 100000 in
theorem ma3_0 : j_code jP 178 0 = some (.aload_n 0) := rfl
set_option maxRecDepth 100000 in
theorem ma3_1 : j_code jP 178 1 = some (.getfield 7) := rfl
set_option maxRecDepth 100000 in
theorem ma3_4 : j_code jP 178 4 = some (.iload_n 1) := rfl
set_option maxRecDepth 100000 in
theorem ma3_5 : j_code jP 178 5 = some (.iload_n 2) := rfl
set_option maxRecDepth 100000 in
theorem ma3_6 : j_code jP 178 6 = some (.invokestatic 73) := rfl
set_option maxRecDepth 100000 in
theorem ma3_9 : j_code jP 178 9 = some (.iaload) := rfl
set_option maxRecDepth 100000 in
theorem ma3_10 : j_code jP 178 10 = some (.ireturn) := rfl
def m_of (w : List Int32) (x1 : Int32) (x2 : Int32) : Int32 := (gA w (m_at x1 x2))
set_option maxRecDepth 1000000 in
theorem ma3_ok {u : Nat → Value} {w : List Int32} {x1 x2 : Int32} {d : Nat} {h h0 : J_H} (K : KN h [(359, .inl (10, [(u 0), .ref 360, .ref 361, .ref 362, .ref 363, .ref 364, .ref 365, .ref 366, .ref 367, (u 9), (u 10), (u 11), (u 12), (u 13), (u 14), (u 15), (u 16), (u 17), (u 18), (u 19), (u 20), (u 21), .ref 368, (u 23), .ref 369, .ref 370, .ref 371, (u 27)])), (360, .inr (.inl (0, w)))] h0) : j_V jP d 178 0 (lv_args 0 [.ref 359, .int x1, .int x2]) [] h (fun rv h' => rv = some (.int (m_of w x1 x2)) ∧ h' = h) := by
  show j_V jP d 178 0 [(0, .ref 359), (1, .int x1), (2, .int x2)] [] h _
  obtain ⟨lv, elv, L⟩ : ∃ lv, lv = [(0, .ref 359), (1, .int x1), (2, .int x2)] ∧ LK lv [(0, .ref 359), (1, .int x1), (2, .int x2)] := ⟨_, rfl, LK.rf⟩
  rw [← elv]
  clear elv
  refine j_V.ldL ma3_M ma3_0 rfl (i := 0) (kd := 2) (v := .ref 359) (pcJ := 1) rfl L rfl rfl rfl ?_
  refine j_V.getK ma3_M ma3_1 (ci := 10) (j := 1) rfl K rfl rfl ?_
  refine j_V.ldL ma3_M ma3_4 rfl (i := 1) (kd := 0) (v := .int x1) (pcJ := 5) rfl L rfl rfl rfl ?_
  refine j_V.ldL ma3_M ma3_5 rfl (i := 2) (kd := 0) (v := .int x2) (pcJ := 6) rfl L rfl rfl rfl ?_
  refine j_V.cl ma3_M ma3_6 rfl (md := 2) (mj := 177) rfl (by decide) ma2_M (As := [.int x1, .int x2]) (rest := [.ref 360]) (jk_spl2 rfl rfl (Nat.le_of_ble_eq_true rfl) (Nat.le_of_ble_eq_true rfl)) (fun d => ma2_ok (K.fi [] rfl rfl)) ?_
  rintro r hz ⟨rfl, ez⟩
  rw [ez]
  clear ez
  show j_V jP _ 178 9 lv [.int (m_at x1 x2), .ref 360] h _
  refine j_V.iaA ma3_M ma3_9 K rfl ?_
  exact j_V.ri ma3_M ma3_10 ⟨congrArg (fun z => some (Value.int z)) (Eq.symm (show (m_of w x1 x2) = (gA w (m_at x1 x2)) from rfl)), rfl⟩
set_option maxRecDepth 100000 in
theorem ma4_M : j_meth jP 203 = some (yX10_step, cX10_step, 2, (some .int), 1, false, 10) := rfl
set_option maxRecDepth 100000 in
theorem ma4_0 : j_code jP 203 0 = some (.aload_n 0) := rfl
set_option maxRecDepth 100000 in
theorem ma4_1 : j_code jP 203 1 = some (.iload_n 1) := rfl
set_option maxRecDepth 100000 in
theorem ma4_2 : j_code jP 203 2 = some (.iconst 2) := rfl
set_option maxRecDepth 100000 in
theorem ma4_3 : j_code jP 203 3 = some (.invokevirtual 198) := rfl
set_option maxRecDepth 100000 in
theorem ma4_6 : j_code jP 203 6 = some (.aload_n 0) := rfl
set_option maxRecDepth 100000 in
theorem ma4_7 : j_code jP 203 7 = some (.iload_n 1) := rfl
set_option maxRecDepth 100000 in
theorem ma4_8 : j_code jP 203 8 = some (.iconst 1) := rfl
set_option maxRecDepth 100000 in
theorem ma4_9 : j_code jP 203 9 = some (.invokevirtual 198) := rfl
set_option maxRecDepth 100000 in
theorem ma4_12 : j_code jP 203 12 = some (.if_icmp .le 7) := rfl
set_option maxRecDepth 100000 in
theorem ma4_15 : j_code jP 203 15 = some (.iconst 1) := rfl
set_option maxRecDepth 100000 in
theorem ma4_16 : j_code jP 203 16 = some (.goto 4) := rfl
set_option maxRecDepth 100000 in
theorem ma4_19 : j_code jP 203 19 = some (.iconst (-1)) := rfl
set_option maxRecDepth 100000 in
theorem ma4_20 : j_code jP 203 20 = some (.ireturn) := rfl
def m_step (w : List Int32) (x1 : Int32) : Int32 := ((if (m_of w x1 1) < (m_of w x1 2) then 1 else (-1)) : Int32)
set_option maxRecDepth 1000000 in
theorem ma4_ok {u : Nat → Value} {w : List Int32} {x1 : Int32} {d : Nat} {h h0 : J_H} (K : KN h [(359, .inl (10, [(u 0), .ref 360, .ref 361, .ref 362, .ref 363, .ref 364, .ref 365, .ref 366, .ref 367, (u 9), (u 10), (u 11), (u 12), (u 13), (u 14), (u 15), (u 16), (u 17), (u 18), (u 19), (u 20), (u 21), .ref 368, (u 23), .ref 369, .ref 370, .ref 371, (u 27)])), (360, .inr (.inl (0, w)))] h0) : j_V jP d 203 0 (lv_args 0 [.ref 359, .int x1]) [] h (fun rv h' => rv = some (.int (m_step w x1)) ∧ h' = h) := by
  show j_V jP d 203 0 [(0, .ref 359), (1, .int x1)] [] h _
  obtain ⟨lv, elv, L⟩ : ∃ lv, lv = [(0, .ref 359), (1, .int x1)] ∧ LK lv [(0, .ref 359), (1, .int x1)] := ⟨_, rfl, LK.rf⟩
  rw [← elv]
  clear elv
  refine j_V.ldL ma4_M ma4_0 rfl (i := 0) (kd := 2) (v := .ref 359) (pcJ := 1) rfl L rfl rfl rfl ?_
  refine j_V.ldL ma4_M ma4_1 rfl (i := 1) (kd := 0) (v := .int x1) (pcJ := 2) rfl L rfl rfl rfl ?_
  refine j_V.one ma4_M ma4_2 (by decide) (pcJ := 3) (stJ := [.int 2, .int x1, .ref 359]) rfl ?_
  refine j_V.cl ma4_M ma4_3 rfl (md := 3) (mj := 178) rfl (by decide) ma3_M (As := [.ref 359, .int x1, .int 2]) (rest := []) (jk_spl3 (K.at rfl) rfl rfl rfl (Nat.le_of_ble_eq_true rfl) (Nat.le_of_ble_eq_true rfl)) (fun d => ma3_ok (K.fi [359, 360] rfl rfl)) ?_
  rintro r hz ⟨rfl, ez⟩
  rw [ez]
  clear ez
  show j_V jP _ 203 6 lv [.int (m_of w x1 2)] h _
  refine j_V.ldL ma4_M ma4_6 rfl (i := 0) (kd := 2) (v := .ref 359) (pcJ := 7) rfl L rfl rfl rfl ?_
  refine j_V.ldL ma4_M ma4_7 rfl (i := 1) (kd := 0) (v := .int x1) (pcJ := 8) rfl L rfl rfl rfl ?_
  refine j_V.one ma4_M ma4_8 (by decide) (pcJ := 9) (stJ := [.int 1, .int x1, .ref 359, .int (m_of w x1 2)]) rfl ?_
  refine j_V.cl ma4_M ma4_9 rfl (md := 3) (mj := 178) rfl (by decide) ma3_M (As := [.ref 359, .int x1, .int 1]) (rest := [.int (m_of w x1 2)]) (jk_spl3 (K.at rfl) rfl rfl rfl (Nat.le_of_ble_eq_true rfl) (Nat.le_of_ble_eq_true rfl)) (fun d => ma3_ok (K.fi [359, 360] rfl rfl)) ?_
  rintro r hz ⟨rfl, ez⟩
  rw [ez]
  clear ez
  show j_V jP _ 203 12 lv [.int (m_of w x1 1), .int (m_of w x1 2)] h _
  refine j_V.cut (b := 20) (stJ := [.int ((if (m_of w x1 1) < (m_of w x1 2) then 1 else (-1)) : Int32)]) (fun v => [(0, .ref 359), (1, .int x1)]) ((if (m_of w x1 1) < (m_of w x1 2) then 1 else (-1)) : Int32) (fun Q kk => ?_) (fun lv L => ?_)
  · refine j_V.icmp ma4_M ma4_12 (t := 19) rfl (fun c12_0 => ?_) (fun c12_0 => ?_)
    · replace c12_0 : ¬ ((m_of w x1 1) < (m_of w x1 2)) := jd_le c12_0
      refine j_V.one ma4_M ma4_19 (by decide) (pcJ := 20) (stJ := [.int (-1)]) rfl ?_
      exact Eq.subst (motive := fun z => j_V jP _ 203 20 _ (.int z :: []) h Q) (show ((if (m_of w x1 1) < (m_of w x1 2) then 1 else (-1)) : Int32) = (-1) from (if_neg c12_0).trans (rfl)) (kk _ L)
    · replace c12_0 : (m_of w x1 1) < (m_of w x1 2) := jd_len c12_0
      refine j_V.one ma4_M ma4_15 (by decide) (pcJ := 16) (stJ := [.int 1]) rfl ?_
      refine j_V.gto ma4_M ma4_16 (t := 20) rfl ?_
      exact Eq.subst (motive := fun z => j_V jP _ 203 20 _ (.int z :: []) h Q) (show ((if (m_of w x1 1) < (m_of w x1 2) then 1 else (-1)) : Int32) = 1 from (if_pos c12_0).trans (rfl)) (kk _ L)
  exact j_V.ri ma4_M ma4_20 ⟨congrArg (fun z => some (Value.int z)) (Eq.symm (show (m_step w x1) = ((if (m_of w x1 1) < (m_of w x1 2) then 1 else (-1)) : Int32) from rfl)), rfl⟩
set_option maxRecDepth 100000 in
theorem ma5_M : j_meth jP 204 = some (yX10_next, cX10_next, 2, (some .int), 1, false, 10) := rfl
set_option maxRecDepth 100000 in
theorem ma5_0 : j_code jP 204 0 = some (.aload_n 0) := rfl
set_option maxRecDepth 100000 in
theorem ma5_1 : j_code jP 204 1 = some (.iload_n 1) := rfl
set_option maxRecDepth 100000 in
theorem ma5_2 : j_code jP 204 2 = some (.bipush 7) := rfl
set_option maxRecDepth 100000 in
theorem ma5_4 : j_code jP 204 4 = some (.invokevirtual 198) := rfl
set_option maxRecDepth 100000 in
theorem ma5_7 : j_code jP 204 7 = some (.aload_n 0) := rfl
set_option maxRecDepth 100000 in
theorem ma5_8 : j_code jP 204 8 = some (.iload_n 1) := rfl
set_option maxRecDepth 100000 in
theorem ma5_9 : j_code jP 204 9 = some (.invokevirtual 201) := rfl
set_option maxRecDepth 100000 in
theorem ma5_12 : j_code jP 204 12 = some (.iadd) := rfl
set_option maxRecDepth 100000 in
theorem ma5_13 : j_code jP 204 13 = some (.ireturn) := rfl
def m_next (w : List Int32) (x1 : Int32) : Int32 := ((m_of w x1 7) + (m_step w x1))
set_option maxRecDepth 1000000 in
theorem ma5_ok {u : Nat → Value} {w : List Int32} {x1 : Int32} {d : Nat} {h h0 : J_H} (K : KN h [(359, .inl (10, [(u 0), .ref 360, .ref 361, .ref 362, .ref 363, .ref 364, .ref 365, .ref 366, .ref 367, (u 9), (u 10), (u 11), (u 12), (u 13), (u 14), (u 15), (u 16), (u 17), (u 18), (u 19), (u 20), (u 21), .ref 368, (u 23), .ref 369, .ref 370, .ref 371, (u 27)])), (360, .inr (.inl (0, w)))] h0) : j_V jP d 204 0 (lv_args 0 [.ref 359, .int x1]) [] h (fun rv h' => rv = some (.int (m_next w x1)) ∧ h' = h) := by
  show j_V jP d 204 0 [(0, .ref 359), (1, .int x1)] [] h _
  obtain ⟨lv, elv, L⟩ : ∃ lv, lv = [(0, .ref 359), (1, .int x1)] ∧ LK lv [(0, .ref 359), (1, .int x1)] := ⟨_, rfl, LK.rf⟩
  rw [← elv]
  clear elv
  refine j_V.ldL ma5_M ma5_0 rfl (i := 0) (kd := 2) (v := .ref 359) (pcJ := 1) rfl L rfl rfl rfl ?_
  refine j_V.ldL ma5_M ma5_1 rfl (i := 1) (kd := 0) (v := .int x1) (pcJ := 2) rfl L rfl rfl rfl ?_
  refine j_V.one ma5_M ma5_2 (by decide) (pcJ := 4) (stJ := [.int 7, .int x1, .ref 359]) rfl ?_
  refine j_V.cl ma5_M ma5_4 rfl (md := 3) (mj := 178) rfl (by decide) ma3_M (As := [.ref 359, .int x1, .int 7]) (rest := []) (jk_spl3 (K.at rfl) rfl rfl rfl (Nat.le_of_ble_eq_true rfl) (Nat.le_of_ble_eq_true rfl)) (fun d => ma3_ok (K.fi [359, 360] rfl rfl)) ?_
  rintro r hz ⟨rfl, ez⟩
  rw [ez]
  clear ez
  show j_V jP _ 204 7 lv [.int (m_of w x1 7)] h _
  refine j_V.ldL ma5_M ma5_7 rfl (i := 0) (kd := 2) (v := .ref 359) (pcJ := 8) rfl L rfl rfl rfl ?_
  refine j_V.ldL ma5_M ma5_8 rfl (i := 1) (kd := 0) (v := .int x1) (pcJ := 9) rfl L rfl rfl rfl ?_
  refine j_V.cl ma5_M ma5_9 rfl (md := 3) (mj := 203) rfl (by decide) ma4_M (As := [.ref 359, .int x1]) (rest := [.int (m_of w x1 7)]) (jk_spl3 (K.at rfl) rfl rfl rfl (Nat.le_of_ble_eq_true rfl) (Nat.le_of_ble_eq_true rfl)) (fun d => ma4_ok (K.fi [359, 360] rfl rfl)) ?_
  rintro r hz ⟨rfl, ez⟩
  rw [ez]
  clear ez
  show j_V jP _ 204 12 lv [.int (m_step w x1), .int (m_of w x1 7)] h _
  refine j_V.one ma5_M ma5_12 (by decide) (pcJ := 13) (stJ := [.int ((m_of w x1 7) + (m_step w x1))]) rfl ?_
  exact j_V.ri ma5_M ma5_13 ⟨congrArg (fun z => some (Value.int z)) (Eq.symm (show (m_next w x1) = ((m_of w x1 7) + (m_step w x1)) from rfl)), rfl⟩
set_option maxRecDepth 100000 in
theorem ma6_M : j_meth jP 205 = some (yX10_placeOf, cX10_placeOf, 2, (some .int), 1, false, 10) := rfl
set_option maxRecDepth 100000 in
theorem ma6_0 : j_code jP 205 0 = some (.aload_n 0) := rfl
set_option maxRecDepth 100000 in
theorem ma6_1 : j_code jP 205 1 = some (.iload_n 1) := rfl
set_option maxRecDepth 100000 in
theorem ma6_2 : j_code jP 205 2 = some (.bipush 6) := rfl
set_option maxRecDepth 100000 in
theorem ma6_4 : j_code jP 205 4 = some (.invokevirtual 198) := rfl
set_option maxRecDepth 100000 in
theorem ma6_7 : j_code jP 205 7 = some (.iconst 1) := rfl
set_option maxRecDepth 100000 in
theorem ma6_8 : j_code jP 205 8 = some (.if_icmp .ne 13) := rfl
set_option maxRecDepth 100000 in
theorem ma6_11 : j_code jP 205 11 = some (.aload_n 0) := rfl
set_option maxRecDepth 100000 in
theorem ma6_12 : j_code jP 205 12 = some (.iload_n 1) := rfl
set_option maxRecDepth 100000 in
theorem ma6_13 : j_code jP 205 13 = some (.bipush 7) := rfl
set_option maxRecDepth 100000 in
theorem ma6_15 : j_code jP 205 15 = some (.invokevirtual 198) := rfl
set_option maxRecDepth 100000 in
theorem ma6_18 : j_code jP 205 18 = some (.goto 34) := rfl
set_option maxRecDepth 100000 in
theorem ma6_21 : j_code jP 205 21 = some (.aload_n 0) := rfl
set_option maxRecDepth 100000 in
theorem ma6_22 : j_code jP 205 22 = some (.iload_n 1) := rfl
set_option maxRecDepth 100000 in
theorem ma6_23 : j_code jP 205 23 = some (.bipush 6) := rfl
set_option maxRecDepth 100000 in
theorem ma6_25 : j_code jP 205 25 = some (.invokevirtual 198) := rfl
set_option maxRecDepth 100000 in
theorem ma6_28 : j_code jP 205 28 = some (.iconst 2) := rfl
set_option maxRecDepth 100000 in
theorem ma6_29 : j_code jP 205 29 = some (.if_icmp .ne 22) := rfl
set_option maxRecDepth 100000 in
theorem ma6_32 : j_code jP 205 32 = some (.aload_n 0) := rfl
set_option maxRecDepth 100000 in
theorem ma6_33 : j_code jP 205 33 = some (.iload_n 1) := rfl
set_option maxRecDepth 100000 in
theorem ma6_34 : j_code jP 205 34 = some (.bipush 8) := rfl
set_option maxRecDepth 100000 in
theorem ma6_36 : j_code jP 205 36 = some (.invokevirtual 198) := rfl
set_option maxRecDepth 100000 in
theorem ma6_39 : j_code jP 205 39 = some (.iconst (-1)) := rfl
set_option maxRecDepth 100000 in
theorem ma6_40 : j_code jP 205 40 = some (.if_icmp .eq 11) := rfl
set_option maxRecDepth 100000 in
theorem ma6_43 : j_code jP 205 43 = some (.aload_n 0) := rfl
set_option maxRecDepth 100000 in
theorem ma6_44 : j_code jP 205 44 = some (.iload_n 1) := rfl
set_option maxRecDepth 100000 in
theorem ma6_45 : j_code jP 205 45 = some (.invokevirtual 204) := rfl
set_option maxRecDepth 100000 in
theorem ma6_48 : j_code jP 205 48 = some (.goto 4) := rfl
set_option maxRecDepth 100000 in
theorem ma6_51 : j_code jP 205 51 = some (.iconst (-1)) := rfl
set_option maxRecDepth 100000 in
theorem ma6_52 : j_code jP 205 52 = some (.ireturn) := rfl
def m_placeOf (w : List Int32) (x1 : Int32) : Int32 := ((if (m_of w x1 6) = 1 then (m_of w x1 7) else (if (m_of w x1 6) = 2 then (if (m_of w x1 8) = (-1) then (-1) else (m_next w x1)) else (-1))) : Int32)
set_option maxRecDepth 1000000 in
theorem ma6_ok {u : Nat → Value} {w : List Int32} {x1 : Int32} {d : Nat} {h h0 : J_H} (K : KN h [(359, .inl (10, [(u 0), .ref 360, .ref 361, .ref 362, .ref 363, .ref 364, .ref 365, .ref 366, .ref 367, (u 9), (u 10), (u 11), (u 12), (u 13), (u 14), (u 15), (u 16), (u 17), (u 18), (u 19), (u 20), (u 21), .ref 368, (u 23), .ref 369, .ref 370, .ref 371, (u 27)])), (360, .inr (.inl (0, w)))] h0) : j_V jP d 205 0 (lv_args 0 [.ref 359, .int x1]) [] h (fun rv h' => rv = some (.int (m_placeOf w x1)) ∧ h' = h) := by
  show j_V jP d 205 0 [(0, .ref 359), (1, .int x1)] [] h _
  obtain ⟨lv, elv, L⟩ : ∃ lv, lv = [(0, .ref 359), (1, .int x1)] ∧ LK lv [(0, .ref 359), (1, .int x1)] := ⟨_, rfl, LK.rf⟩
  rw [← elv]
  clear elv
  refine j_V.ldL ma6_M ma6_0 rfl (i := 0) (kd := 2) (v := .ref 359) (pcJ := 1) rfl L rfl rfl rfl ?_
  refine j_V.ldL ma6_M ma6_1 rfl (i := 1) (kd := 0) (v := .int x1) (pcJ := 2) rfl L rfl rfl rfl ?_
  refine j_V.one ma6_M ma6_2 (by decide) (pcJ := 4) (stJ := [.int 6, .int x1, .ref 359]) rfl ?_
  refine j_V.cl ma6_M ma6_4 rfl (md := 3) (mj := 178) rfl (by decide) ma3_M (As := [.ref 359, .int x1, .int 6]) (rest := []) (jk_spl3 (K.at rfl) rfl rfl rfl (Nat.le_of_ble_eq_true rfl) (Nat.le_of_ble_eq_true rfl)) (fun d => ma3_ok (K.fi [359, 360] rfl rfl)) ?_
  rintro r hz ⟨rfl, ez⟩
  rw [ez]
  clear ez
  show j_V jP _ 205 7 lv [.int (m_of w x1 6)] h _
  refine j_V.one ma6_M ma6_7 (by decide) (pcJ := 8) (stJ := [.int 1, .int (m_of w x1 6)]) rfl ?_
  refine j_V.cut (b := 52) (stJ := [.int ((if (m_of w x1 6) = 1 then (m_of w x1 7) else (if (m_of w x1 6) = 2 then (if (m_of w x1 8) = (-1) then (-1) else (m_next w x1)) else (-1))) : Int32)]) (fun v => [(0, .ref 359), (1, .int x1)]) ((if (m_of w x1 6) = 1 then (m_of w x1 7) else (if (m_of w x1 6) = 2 then (if (m_of w x1 8) = (-1) then (-1) else (m_next w x1)) else (-1))) : Int32) (fun Q kk => ?_) (fun lv L => ?_)
  · refine j_V.icmp ma6_M ma6_8 (t := 21) rfl (fun c8_0 => ?_) (fun c8_0 => ?_)
    · replace c8_0 : ¬ ((m_of w x1 6) = 1) := jd_ne c8_0
      refine j_V.ldL ma6_M ma6_21 rfl (i := 0) (kd := 2) (v := .ref 359) (pcJ := 22) rfl L rfl rfl rfl ?_
      refine j_V.ldL ma6_M ma6_22 rfl (i := 1) (kd := 0) (v := .int x1) (pcJ := 23) rfl L rfl rfl rfl ?_
      refine j_V.one ma6_M ma6_23 (by decide) (pcJ := 25) (stJ := [.int 6, .int x1, .ref 359]) rfl ?_
      refine j_V.cl ma6_M ma6_25 rfl (md := 3) (mj := 178) rfl (by decide) ma3_M (As := [.ref 359, .int x1, .int 6]) (rest := []) (jk_spl3 (K.at rfl) rfl rfl rfl (Nat.le_of_ble_eq_true rfl) (Nat.le_of_ble_eq_true rfl)) (fun d => ma3_ok (K.fi [359, 360] rfl rfl)) ?_
      rintro r hz ⟨rfl, ez⟩
      rw [ez]
      clear ez
      show j_V jP _ 205 28 lv [.int (m_of w x1 6)] h _
      refine j_V.one ma6_M ma6_28 (by decide) (pcJ := 29) (stJ := [.int 2, .int (m_of w x1 6)]) rfl ?_
      refine j_V.icmp ma6_M ma6_29 (t := 51) rfl (fun c29_1 => ?_) (fun c29_1 => ?_)
      · replace c29_1 : ¬ ((m_of w x1 6) = 2) := jd_ne c29_1
        refine j_V.one ma6_M ma6_51 (by decide) (pcJ := 52) (stJ := [.int (-1)]) rfl ?_
        exact Eq.subst (motive := fun z => j_V jP _ 205 52 _ (.int z :: []) h Q) (show ((if (m_of w x1 6) = 1 then (m_of w x1 7) else (if (m_of w x1 6) = 2 then (if (m_of w x1 8) = (-1) then (-1) else (m_next w x1)) else (-1))) : Int32) = (-1) from (if_neg c8_0).trans ((if_neg c29_1).trans (rfl))) (kk _ L)
      · replace c29_1 : (m_of w x1 6) = 2 := jd_nen c29_1
        refine j_V.ldL ma6_M ma6_32 rfl (i := 0) (kd := 2) (v := .ref 359) (pcJ := 33) rfl L rfl rfl rfl ?_
        refine j_V.ldL ma6_M ma6_33 rfl (i := 1) (kd := 0) (v := .int x1) (pcJ := 34) rfl L rfl rfl rfl ?_
        refine j_V.one ma6_M ma6_34 (by decide) (pcJ := 36) (stJ := [.int 8, .int x1, .ref 359]) rfl ?_
        refine j_V.cl ma6_M ma6_36 rfl (md := 3) (mj := 178) rfl (by decide) ma3_M (As := [.ref 359, .int x1, .int 8]) (rest := []) (jk_spl3 (K.at rfl) rfl rfl rfl (Nat.le_of_ble_eq_true rfl) (Nat.le_of_ble_eq_true rfl)) (fun d => ma3_ok (K.fi [359, 360] rfl rfl)) ?_
        rintro r hz ⟨rfl, ez⟩
        rw [ez]
        clear ez
        show j_V jP _ 205 39 lv [.int (m_of w x1 8)] h _
        refine j_V.one ma6_M ma6_39 (by decide) (pcJ := 40) (stJ := [.int (-1), .int (m_of w x1 8)]) rfl ?_
        refine j_V.icmp ma6_M ma6_40 (t := 51) rfl (fun c40_2 => ?_) (fun c40_2 => ?_)
        · replace c40_2 : (m_of w x1 8) = (-1) := jd_eq c40_2
          refine j_V.one ma6_M ma6_51 (by decide) (pcJ := 52) (stJ := [.int (-1)]) rfl ?_
          exact Eq.subst (motive := fun z => j_V jP _ 205 52 _ (.int z :: []) h Q) (show ((if (m_of w x1 6) = 1 then (m_of w x1 7) else (if (m_of w x1 6) = 2 then (if (m_of w x1 8) = (-1) then (-1) else (m_next w x1)) else (-1))) : Int32) = (-1) from (if_neg c8_0).trans ((if_pos c29_1).trans ((if_pos c40_2).trans (rfl)))) (kk _ L)
        · replace c40_2 : ¬ ((m_of w x1 8) = (-1)) := jd_eqn c40_2
          refine j_V.ldL ma6_M ma6_43 rfl (i := 0) (kd := 2) (v := .ref 359) (pcJ := 44) rfl L rfl rfl rfl ?_
          refine j_V.ldL ma6_M ma6_44 rfl (i := 1) (kd := 0) (v := .int x1) (pcJ := 45) rfl L rfl rfl rfl ?_
          refine j_V.cl ma6_M ma6_45 rfl (md := 3) (mj := 204) rfl (by decide) ma5_M (As := [.ref 359, .int x1]) (rest := []) (jk_spl3 (K.at rfl) rfl rfl rfl (Nat.le_of_ble_eq_true rfl) (Nat.le_of_ble_eq_true rfl)) (fun d => ma5_ok (K.fi [359, 360] rfl rfl)) ?_
          rintro r hz ⟨rfl, ez⟩
          rw [ez]
          clear ez
          show j_V jP _ 205 48 lv [.int (m_next w x1)] h _
          refine j_V.gto ma6_M ma6_48 (t := 52) rfl ?_
          exact Eq.subst (motive := fun z => j_V jP _ 205 52 _ (.int z :: []) h Q) (show ((if (m_of w x1 6) = 1 then (m_of w x1 7) else (if (m_of w x1 6) = 2 then (if (m_of w x1 8) = (-1) then (-1) else (m_next w x1)) else (-1))) : Int32) = (m_next w x1) from (if_neg c8_0).trans ((if_pos c29_1).trans ((if_neg c40_2).trans (rfl)))) (kk _ L)
    · replace c8_0 : (m_of w x1 6) = 1 := jd_nen c8_0
      refine j_V.ldL ma6_M ma6_11 rfl (i := 0) (kd := 2) (v := .ref 359) (pcJ := 12) rfl L rfl rfl rfl ?_
      refine j_V.ldL ma6_M ma6_12 rfl (i := 1) (kd := 0) (v := .int x1) (pcJ := 13) rfl L rfl rfl rfl ?_
      refine j_V.one ma6_M ma6_13 (by decide) (pcJ := 15) (stJ := [.int 7, .int x1, .ref 359]) rfl ?_
      refine j_V.cl ma6_M ma6_15 rfl (md := 3) (mj := 178) rfl (by decide) ma3_M (As := [.ref 359, .int x1, .int 7]) (rest := []) (jk_spl3 (K.at rfl) rfl rfl rfl (Nat.le_of_ble_eq_true rfl) (Nat.le_of_ble_eq_true rfl)) (fun d => ma3_ok (K.fi [359, 360] rfl rfl)) ?_
      rintro r hz ⟨rfl, ez⟩
      rw [ez]
      clear ez
      show j_V jP _ 205 18 lv [.int (m_of w x1 7)] h _
      refine j_V.gto ma6_M ma6_18 (t := 52) rfl ?_
      exact Eq.subst (motive := fun z => j_V jP _ 205 52 _ (.int z :: []) h Q) (show ((if (m_of w x1 6) = 1 then (m_of w x1 7) else (if (m_of w x1 6) = 2 then (if (m_of w x1 8) = (-1) then (-1) else (m_next w x1)) else (-1))) : Int32) = (m_of w x1 7) from (if_pos c8_0).trans (rfl)) (kk _ L)
  exact j_V.ri ma6_M ma6_52 ⟨congrArg (fun z => some (Value.int z)) (Eq.symm (show (m_placeOf w x1) = ((if (m_of w x1 6) = 1 then (m_of w x1 7) else (if (m_of w x1 6) = 2 then (if (m_of w x1 8) = (-1) then (-1) else (m_next w x1)) else (-1))) : Int32) from rfl)), rfl⟩
set_option maxRecDepth 100000 in
theorem ma7_M : j_meth jP 206 = some (yX10_whoAt, cX10_whoAt, 4, (some .int), 2, false, 10) := rfl
set_option maxRecDepth 100000 in
theorem ma7_0 : j_code jP 206 0 = some (.iconst 0) := rfl
set_option maxRecDepth 100000 in
theorem ma7_1 : j_code jP 206 1 = some (.istore_n 3) := rfl
set_option maxRecDepth 100000 in
theorem ma7_2 : j_code jP 206 2 = some (.iload_n 3) := rfl
set_option maxRecDepth 100000 in
theorem ma7_3 : j_code jP 206 3 = some (.aload_n 0) := rfl
set_option maxRecDepth 100000 in
theorem ma7_4 : j_code jP 206 4 = some (.getfield 7) := rfl
set_option maxRecDepth 100000 in
theorem ma7_7 : j_code jP 206 7 = some (.sipush 203) := rfl
set_option maxRecDepth 100000 in
theorem ma7_10 : j_code jP 206 10 = some (.iaload) := rfl
set_option maxRecDepth 100000 in
theorem ma7_11 : j_code jP 206 11 = some (.if_icmp .ge 31) := rfl
set_option maxRecDepth 100000 in
theorem ma7_14 : j_code jP 206 14 = some (.aload_n 0) := rfl
set_option maxRecDepth 100000 in
theorem ma7_15 : j_code jP 206 15 = some (.iload_n 3) := rfl
set_option maxRecDepth 100000 in
theorem ma7_16 : j_code jP 206 16 = some (.invokevirtual 207) := rfl
set_option maxRecDepth 100000 in
theorem ma7_19 : j_code jP 206 19 = some (.iload_n 1) := rfl
set_option maxRecDepth 100000 in
theorem ma7_20 : j_code jP 206 20 = some (.if_icmp .ne 16) := rfl
set_option maxRecDepth 100000 in
theorem ma7_23 : j_code jP 206 23 = some (.aload_n 0) := rfl
set_option maxRecDepth 100000 in
theorem ma7_24 : j_code jP 206 24 = some (.iload_n 3) := rfl
set_option maxRecDepth 100000 in
theorem ma7_25 : j_code jP 206 25 = some (.bipush 8) := rfl
set_option maxRecDepth 100000 in
theorem ma7_27 : j_code jP 206 27 = some (.invokevirtual 198) := rfl
set_option maxRecDepth 100000 in
theorem ma7_30 : j_code jP 206 30 = some (.iload_n 2) := rfl
set_option maxRecDepth 100000 in
theorem ma7_31 : j_code jP 206 31 = some (.if_icmp .ne 5) := rfl
set_option maxRecDepth 100000 in
theorem ma7_34 : j_code jP 206 34 = some (.iload_n 3) := rfl
set_option maxRecDepth 100000 in
theorem ma7_35 : j_code jP 206 35 = some (.ireturn) := rfl
set_option maxRecDepth 100000 in
theorem ma7_36 : j_code jP 206 36 = some (.iinc 3 1) := rfl
set_option maxRecDepth 100000 in
theorem ma7_39 : j_code jP 206 39 = some (.goto (-37)) := rfl
set_option maxRecDepth 100000 in
theorem ma7_42 : j_code jP 206 42 = some (.iconst (-1)) := rfl
set_option maxRecDepth 100000 in
theorem ma7_43 : j_code jP 206 43 = some (.ireturn) := rfl
def m_whoAt_l2 (w : List Int32) (v1 : Int32) (v2 : Int32) : Nat → Int32 → Int32
  | 0, v3 => (-1)
  | f + 1, v3 => (if (m_placeOf w v3) = v1 then (if (m_of w v3 8) = v2 then v3 else (m_whoAt_l2 w v1 v2 f ((v3 + 1)))) else (m_whoAt_l2 w v1 v2 f ((v3 + 1))))
set_option maxRecDepth 1000000 in
theorem ma7_ok_l2 {u : Nat → Value} {w : List Int32} {v1 v2 : Int32} {d : Nat} {h h0 : J_H} : ∀ (f : Nat) (v3 : Int32) {lv : J_L}, lpN (gA w 203) v3 = f → LK lv [(0, .ref 359), (1, .int v1), (2, .int v2), (3, .int v3)] → KN h [(359, .inl (10, [(u 0), .ref 360, .ref 361, .ref 362, .ref 363, .ref 364, .ref 365, .ref 366, .ref 367, (u 9), (u 10), (u 11), (u 12), (u 13), (u 14), (u 15), (u 16), (u 17), (u 18), (u 19), (u 20), (u 21), .ref 368, (u 23), .ref 369, .ref 370, .ref 371, (u 27)])), (360, .inr (.inl (0, w)))] h0 → j_V jP d 206 2 lv [] h (fun rv h' => rv = some (.int (m_whoAt_l2 w v1 v2 f v3)) ∧ h' = h) := by
  intro f
  induction f with
  | zero =>
    intro v3 lv e L K
    refine j_V.ldL ma7_M ma7_2 rfl (i := 3) (kd := 0) (v := .int v3) (pcJ := 3) rfl L rfl rfl rfl ?_
    refine j_V.ldL ma7_M ma7_3 rfl (i := 0) (kd := 2) (v := .ref 359) (pcJ := 4) rfl L rfl rfl rfl ?_
    refine j_V.getK ma7_M ma7_4 (ci := 10) (j := 1) rfl K rfl rfl ?_
    refine j_V.one ma7_M ma7_7 (by decide) (pcJ := 10) (stJ := [.int 203, .ref 360, .int v3]) rfl ?_
    refine j_V.iaA ma7_M ma7_10 K rfl ?_
    refine j_V.icmp ma7_M ma7_11 (t := 42) rfl (fun c11_0 => ?_) (fun c11_0 => ?_)
    · replace c11_0 : ¬ (v3 < (gA w 203)) := jd_ge c11_0
      refine j_V.one ma7_M ma7_42 (by decide) (pcJ := 43) (stJ := [.int (-1)]) rfl ?_
      exact j_V.ri ma7_M ma7_43 ⟨congrArg (fun z => some (Value.int z)) (Eq.symm (show (m_whoAt_l2 w v1 v2 0 v3) = (-1) from rfl)), rfl⟩
    · replace c11_0 : v3 < (gA w 203) := jd_gen c11_0
      exact absurd c11_0 (lpN_z e)
  | succ f ih =>
    intro v3 lv e L K
    refine j_V.ldL ma7_M ma7_2 rfl (i := 3) (kd := 0) (v := .int v3) (pcJ := 3) rfl L rfl rfl rfl ?_
    refine j_V.ldL ma7_M ma7_3 rfl (i := 0) (kd := 2) (v := .ref 359) (pcJ := 4) rfl L rfl rfl rfl ?_
    refine j_V.getK ma7_M ma7_4 (ci := 10) (j := 1) rfl K rfl rfl ?_
    refine j_V.one ma7_M ma7_7 (by decide) (pcJ := 10) (stJ := [.int 203, .ref 360, .int v3]) rfl ?_
    refine j_V.iaA ma7_M ma7_10 K rfl ?_
    refine j_V.icmp ma7_M ma7_11 (t := 42) rfl (fun c11_0 => ?_) (fun c11_0 => ?_)
    · replace c11_0 : ¬ (v3 < (gA w 203)) := jd_ge c11_0
      exact absurd (lpN_s e) c11_0
    · replace c11_0 : v3 < (gA w 203) := jd_gen c11_0
      refine j_V.ldL ma7_M ma7_14 rfl (i := 0) (kd := 2) (v := .ref 359) (pcJ := 15) rfl L rfl rfl rfl ?_
      refine j_V.ldL ma7_M ma7_15 rfl (i := 3) (kd := 0) (v := .int v3) (pcJ := 16) rfl L rfl rfl rfl ?_
      refine j_V.cl ma7_M ma7_16 rfl (md := 3) (mj := 205) rfl (by decide) ma6_M (As := [.ref 359, .int v3]) (rest := []) (jk_spl3 (K.at rfl) rfl rfl rfl (Nat.le_of_ble_eq_true rfl) (Nat.le_of_ble_eq_true rfl)) (fun d => ma6_ok (K.fi [359, 360] rfl rfl)) ?_
      rintro r hz ⟨rfl, ez⟩
      rw [ez]
      clear ez
      show j_V jP _ 206 19 lv [.int (m_placeOf w v3)] h _
      refine j_V.ldL ma7_M ma7_19 rfl (i := 1) (kd := 0) (v := .int v1) (pcJ := 20) rfl L rfl rfl rfl ?_
      refine j_V.icmp ma7_M ma7_20 (t := 36) rfl (fun c20_0 => ?_) (fun c20_0 => ?_)
      · replace c20_0 : ¬ ((m_placeOf w v3) = v1) := jd_ne c20_0
        refine j_V.inL ma7_M ma7_36 (i := 3) (kl' := [(0, .ref 359), (1, .int v1), (2, .int v2), (3, .int (v3 + 1))]) (pcJ := 39) L rfl rfl rfl rfl (fun lv L => ?_)
        refine j_V.gto ma7_M ma7_39 (t := 2) rfl ?_
        refine j_V.mono (ih ((v3 + 1)) (lpN_n e) L K) ?_
        rintro r hz ⟨rfl, rfl⟩
        exact ⟨congrArg (fun z => some (Value.int z)) (Eq.symm (show (m_whoAt_l2 w v1 v2 (f + 1) v3) = (m_whoAt_l2 w v1 v2 f ((v3 + 1))) from (if_neg c20_0).trans (rfl))), rfl⟩
      · replace c20_0 : (m_placeOf w v3) = v1 := jd_nen c20_0
        refine j_V.ldL ma7_M ma7_23 rfl (i := 0) (kd := 2) (v := .ref 359) (pcJ := 24) rfl L rfl rfl rfl ?_
        refine j_V.ldL ma7_M ma7_24 rfl (i := 3) (kd := 0) (v := .int v3) (pcJ := 25) rfl L rfl rfl rfl ?_
        refine j_V.one ma7_M ma7_25 (by decide) (pcJ := 27) (stJ := [.int 8, .int v3, .ref 359]) rfl ?_
        refine j_V.cl ma7_M ma7_27 rfl (md := 3) (mj := 178) rfl (by decide) ma3_M (As := [.ref 359, .int v3, .int 8]) (rest := []) (jk_spl3 (K.at rfl) rfl rfl rfl (Nat.le_of_ble_eq_true rfl) (Nat.le_of_ble_eq_true rfl)) (fun d => ma3_ok (K.fi [359, 360] rfl rfl)) ?_
        rintro r hz ⟨rfl, ez⟩
        rw [ez]
        clear ez
        show j_V jP _ 206 30 lv [.int (m_of w v3 8)] h _
        refine j_V.ldL ma7_M ma7_30 rfl (i := 2) (kd := 0) (v := .int v2) (pcJ := 31) rfl L rfl rfl rfl ?_
        refine j_V.icmp ma7_M ma7_31 (t := 36) rfl (fun c31_1 => ?_) (fun c31_1 => ?_)
        · replace c31_1 : ¬ ((m_of w v3 8) = v2) := jd_ne c31_1
          refine j_V.inL ma7_M ma7_36 (i := 3) (kl' := [(0, .ref 359), (1, .int v1), (2, .int v2), (3, .int (v3 + 1))]) (pcJ := 39) L rfl rfl rfl rfl (fun lv L => ?_)
          refine j_V.gto ma7_M ma7_39 (t := 2) rfl ?_
          refine j_V.mono (ih ((v3 + 1)) (lpN_n e) L K) ?_
          rintro r hz ⟨rfl, rfl⟩
          exact ⟨congrArg (fun z => some (Value.int z)) (Eq.symm (show (m_whoAt_l2 w v1 v2 (f + 1) v3) = (m_whoAt_l2 w v1 v2 f ((v3 + 1))) from (if_pos c20_0).trans ((if_neg c31_1).trans (rfl)))), rfl⟩
        · replace c31_1 : (m_of w v3 8) = v2 := jd_nen c31_1
          refine j_V.ldL ma7_M ma7_34 rfl (i := 3) (kd := 0) (v := .int v3) (pcJ := 35) rfl L rfl rfl rfl ?_
          exact j_V.ri ma7_M ma7_35 ⟨congrArg (fun z => some (Value.int z)) (Eq.symm (show (m_whoAt_l2 w v1 v2 (f + 1) v3) = v3 from (if_pos c20_0).trans ((if_pos c31_1).trans (rfl)))), rfl⟩
def m_whoAt (w : List Int32) (x1 : Int32) (x2 : Int32) : Int32 := (m_whoAt_l2 w x1 x2 (lpN (gA w 203) 0) 0)
set_option maxRecDepth 1000000 in
theorem ma7_ok {u : Nat → Value} {w : List Int32} {x1 x2 : Int32} {d : Nat} {h h0 : J_H} (K : KN h [(359, .inl (10, [(u 0), .ref 360, .ref 361, .ref 362, .ref 363, .ref 364, .ref 365, .ref 366, .ref 367, (u 9), (u 10), (u 11), (u 12), (u 13), (u 14), (u 15), (u 16), (u 17), (u 18), (u 19), (u 20), (u 21), .ref 368, (u 23), .ref 369, .ref 370, .ref 371, (u 27)])), (360, .inr (.inl (0, w)))] h0) : j_V jP d 206 0 (lv_args 0 [.ref 359, .int x1, .int x2]) [] h (fun rv h' => rv = some (.int (m_whoAt w x1 x2)) ∧ h' = h) := by
  show j_V jP d 206 0 [(0, .ref 359), (1, .int x1), (2, .int x2)] [] h _
  obtain ⟨lv, elv, L⟩ : ∃ lv, lv = [(0, .ref 359), (1, .int x1), (2, .int x2)] ∧ LK lv [(0, .ref 359), (1, .int x1), (2, .int x2)] := ⟨_, rfl, LK.rf⟩
  rw [← elv]
  clear elv
  refine j_V.one ma7_M ma7_0 (by decide) (pcJ := 1) (stJ := [.int 0]) rfl ?_
  refine j_V.stL ma7_M ma7_1 rfl (i := 3) (kd := 0) (kl' := [(0, .ref 359), (1, .int x1), (2, .int x2), (3, .int 0)]) (pcJ := 2) rfl L rfl (by decide) rfl rfl rfl (fun lv L => ?_)
  refine j_V.mono (ma7_ok_l2 _ (0) rfl L K) ?_
  rintro r hz ⟨rfl, rfl⟩
  exact ⟨congrArg (fun z => some (Value.int z)) (Eq.symm (show (m_whoAt w x1 x2) = (m_whoAt_l2 w x1 x2 (lpN (gA w 203) 0) 0) from rfl)), rfl⟩
set_option maxRecDepth 100000 in
theorem ma8_M : j_meth jP 207 = some (yX10_isFree, cX10_isFree, 3, (some .boolean), 2, false, 10) := rfl
set_option maxRecDepth 100000 in
theorem ma8_0 : j_code jP 207 0 = some (.aload_n 0) := rfl
set_option maxRecDepth 100000 in
theorem ma8_1 : j_code jP 207 1 = some (.iload_n 1) := rfl
set_option maxRecDepth 100000 in
theorem ma8_2 : j_code jP 207 2 = some (.iconst 5) := rfl
set_option maxRecDepth 100000 in
theorem ma8_3 : j_code jP 207 3 = some (.iload_n 2) := rfl
set_option maxRecDepth 100000 in
theorem ma8_4 : j_code jP 207 4 = some (.iadd) := rfl
set_option maxRecDepth 100000 in
theorem ma8_5 : j_code jP 207 5 = some (.invokevirtual 69) := rfl
set_option maxRecDepth 100000 in
theorem ma8_8 : j_code jP 207 8 = some (.ifCond .ne 17) := rfl
set_option maxRecDepth 100000 in
theorem ma8_11 : j_code jP 207 11 = some (.aload_n 0) := rfl
set_option maxRecDepth 100000 in
theorem ma8_12 : j_code jP 207 12 = some (.iload_n 1) := rfl
set_option maxRecDepth 100000 in
theorem ma8_13 : j_code jP 207 13 = some (.iload_n 2) := rfl
set_option maxRecDepth 100000 in
theorem ma8_14 : j_code jP 207 14 = some (.invokevirtual 210) := rfl
set_option maxRecDepth 100000 in
theorem ma8_17 : j_code jP 207 17 = some (.iconst (-1)) := rfl
set_option maxRecDepth 100000 in
theorem ma8_18 : j_code jP 207 18 = some (.if_icmp .ne 7) := rfl
set_option maxRecDepth 100000 in
theorem ma8_21 : j_code jP 207 21 = some (.iconst 1) := rfl
set_option maxRecDepth 100000 in
theorem ma8_22 : j_code jP 207 22 = some (.goto 4) := rfl
set_option maxRecDepth 100000 in
theorem ma8_25 : j_code jP 207 25 = some (.iconst 0) := rfl
set_option maxRecDepth 100000 in
theorem ma8_26 : j_code jP 207 26 = some (.ireturn) := rfl
def m_isFree (w : List Int32) (x1 : Int32) (x2 : Int32) : Int32 := ((if (m_st w x1 (5 + x2)) = 0 then (if (m_whoAt w x1 x2) = (-1) then 1 else 0) else 0) : Int32)
set_option maxRecDepth 1000000 in
theorem ma8_ok {u : Nat → Value} {w : List Int32} {x1 x2 : Int32} {d : Nat} {h h0 : J_H} (K : KN h [(359, .inl (10, [(u 0), .ref 360, .ref 361, .ref 362, .ref 363, .ref 364, .ref 365, .ref 366, .ref 367, (u 9), (u 10), (u 11), (u 12), (u 13), (u 14), (u 15), (u 16), (u 17), (u 18), (u 19), (u 20), (u 21), .ref 368, (u 23), .ref 369, .ref 370, .ref 371, (u 27)])), (360, .inr (.inl (0, w)))] h0) : j_V jP d 207 0 (lv_args 0 [.ref 359, .int x1, .int x2]) [] h (fun rv h' => rv = some (.int (m_isFree w x1 x2)) ∧ h' = h) := by
  show j_V jP d 207 0 [(0, .ref 359), (1, .int x1), (2, .int x2)] [] h _
  obtain ⟨lv, elv, L⟩ : ∃ lv, lv = [(0, .ref 359), (1, .int x1), (2, .int x2)] ∧ LK lv [(0, .ref 359), (1, .int x1), (2, .int x2)] := ⟨_, rfl, LK.rf⟩
  rw [← elv]
  clear elv
  refine j_V.ldL ma8_M ma8_0 rfl (i := 0) (kd := 2) (v := .ref 359) (pcJ := 1) rfl L rfl rfl rfl ?_
  refine j_V.ldL ma8_M ma8_1 rfl (i := 1) (kd := 0) (v := .int x1) (pcJ := 2) rfl L rfl rfl rfl ?_
  refine j_V.one ma8_M ma8_2 (by decide) (pcJ := 3) (stJ := [.int 5, .int x1, .ref 359]) rfl ?_
  refine j_V.ldL ma8_M ma8_3 rfl (i := 2) (kd := 0) (v := .int x2) (pcJ := 4) rfl L rfl rfl rfl ?_
  refine j_V.one ma8_M ma8_4 (by decide) (pcJ := 5) (stJ := [.int (5 + x2), .int x1, .ref 359]) rfl ?_
  refine j_V.cl ma8_M ma8_5 rfl (md := 3) (mj := 176) rfl (by decide) ma1_M (As := [.ref 359, .int x1, .int (5 + x2)]) (rest := []) (jk_spl3 (K.at rfl) rfl rfl rfl (Nat.le_of_ble_eq_true rfl) (Nat.le_of_ble_eq_true rfl)) (fun d => ma1_ok (K.fi [359, 360] rfl rfl)) ?_
  rintro r hz ⟨rfl, ez⟩
  rw [ez]
  clear ez
  show j_V jP _ 207 8 lv [.int (m_st w x1 (5 + x2))] h _
  refine j_V.cut (b := 26) (stJ := [.int ((if (m_st w x1 (5 + x2)) = 0 then (if (m_whoAt w x1 x2) = (-1) then 1 else 0) else 0) : Int32)]) (fun v => [(0, .ref 359), (1, .int x1), (2, .int x2)]) ((if (m_st w x1 (5 + x2)) = 0 then (if (m_whoAt w x1 x2) = (-1) then 1 else 0) else 0) : Int32) (fun Q kk => ?_) (fun lv L => ?_)
  · refine j_V.ifc ma8_M ma8_8 (t := 25) rfl (fun c8_0 => ?_) (fun c8_0 => ?_)
    · replace c8_0 : ¬ ((m_st w x1 (5 + x2)) = 0) := jd_ne c8_0
      refine j_V.one ma8_M ma8_25 (by decide) (pcJ := 26) (stJ := [.int 0]) rfl ?_
      exact Eq.subst (motive := fun z => j_V jP _ 207 26 _ (.int z :: []) h Q) (show ((if (m_st w x1 (5 + x2)) = 0 then (if (m_whoAt w x1 x2) = (-1) then 1 else 0) else 0) : Int32) = 0 from (if_neg c8_0).trans (rfl)) (kk _ L)
    · replace c8_0 : (m_st w x1 (5 + x2)) = 0 := jd_nen c8_0
      refine j_V.ldL ma8_M ma8_11 rfl (i := 0) (kd := 2) (v := .ref 359) (pcJ := 12) rfl L rfl rfl rfl ?_
      refine j_V.ldL ma8_M ma8_12 rfl (i := 1) (kd := 0) (v := .int x1) (pcJ := 13) rfl L rfl rfl rfl ?_
      refine j_V.ldL ma8_M ma8_13 rfl (i := 2) (kd := 0) (v := .int x2) (pcJ := 14) rfl L rfl rfl rfl ?_
      refine j_V.cl ma8_M ma8_14 rfl (md := 3) (mj := 206) rfl (by decide) ma7_M (As := [.ref 359, .int x1, .int x2]) (rest := []) (jk_spl3 (K.at rfl) rfl rfl rfl (Nat.le_of_ble_eq_true rfl) (Nat.le_of_ble_eq_true rfl)) (fun d => ma7_ok (K.fi [359, 360] rfl rfl)) ?_
      rintro r hz ⟨rfl, ez⟩
      rw [ez]
      clear ez
      show j_V jP _ 207 17 lv [.int (m_whoAt w x1 x2)] h _
      refine j_V.one ma8_M ma8_17 (by decide) (pcJ := 18) (stJ := [.int (-1), .int (m_whoAt w x1 x2)]) rfl ?_
      refine j_V.icmp ma8_M ma8_18 (t := 25) rfl (fun c18_1 => ?_) (fun c18_1 => ?_)
      · replace c18_1 : ¬ ((m_whoAt w x1 x2) = (-1)) := jd_ne c18_1
        refine j_V.one ma8_M ma8_25 (by decide) (pcJ := 26) (stJ := [.int 0]) rfl ?_
        exact Eq.subst (motive := fun z => j_V jP _ 207 26 _ (.int z :: []) h Q) (show ((if (m_st w x1 (5 + x2)) = 0 then (if (m_whoAt w x1 x2) = (-1) then 1 else 0) else 0) : Int32) = 0 from (if_pos c8_0).trans ((if_neg c18_1).trans (rfl))) (kk _ L)
      · replace c18_1 : (m_whoAt w x1 x2) = (-1) := jd_nen c18_1
        refine j_V.one ma8_M ma8_21 (by decide) (pcJ := 22) (stJ := [.int 1]) rfl ?_
        refine j_V.gto ma8_M ma8_22 (t := 26) rfl ?_
        exact Eq.subst (motive := fun z => j_V jP _ 207 26 _ (.int z :: []) h Q) (show ((if (m_st w x1 (5 + x2)) = 0 then (if (m_whoAt w x1 x2) = (-1) then 1 else 0) else 0) : Int32) = 1 from (if_pos c8_0).trans ((if_pos c18_1).trans (rfl))) (kk _ L)
  exact j_V.ri ma8_M ma8_26 ⟨congrArg (fun z => some (Value.int z)) (Eq.symm (show (m_isFree w x1 x2) = ((if (m_st w x1 (5 + x2)) = 0 then (if (m_whoAt w x1 x2) = (-1) then 1 else 0) else 0) : Int32) from rfl)), rfl⟩
set_option maxRecDepth 100000 in
theorem ma9_M : j_meth jP 208 = some (yX10_trackFor, cX10_trackFor, 5, (some .int), 2, false, 10) := rfl
set_option maxRecDepth 100000 in
theorem ma9_0 : j_code jP 208 0 = some (.iconst (-1)) := rfl
set_option maxRecDepth 100000 in
theorem ma9_1 : j_code jP 208 1 = some (.istore_n 3) := rfl
set_option maxRecDepth 100000 in
theorem ma9_2 : j_code jP 208 2 = some (.iconst 0) := rfl
set_option maxRecDepth 100000 in
theorem ma9_3 : j_code jP 208 3 = some (.istore 4) := rfl
set_option maxRecDepth 100000 in
theorem ma9_5 : j_code jP 208 5 = some (.iload 4) := rfl
set_option maxRecDepth 100000 in
theorem ma9_7 : j_code jP 208 7 = some (.aload_n 0) := rfl
set_option maxRecDepth 100000 in
theorem ma9_8 : j_code jP 208 8 = some (.iload_n 2) := rfl
set_option maxRecDepth 100000 in
theorem ma9_9 : j_code jP 208 9 = some (.iconst 1) := rfl
set_option maxRecDepth 100000 in
theorem ma9_10 : j_code jP 208 10 = some (.invokevirtual 69) := rfl
set_option maxRecDepth 100000 in
theorem ma9_13 : j_code jP 208 13 = some (.if_icmp .ge 65) := rfl
set_option maxRecDepth 100000 in
theorem ma9_16 : j_code jP 208 16 = some (.aload_n 0) := rfl
set_option maxRecDepth 100000 in
theorem ma9_17 : j_code jP 208 17 = some (.iload_n 2) := rfl
set_option maxRecDepth 100000 in
theorem ma9_18 : j_code jP 208 18 = some (.iload 4) := rfl
set_option maxRecDepth 100000 in
theorem ma9_20 : j_code jP 208 20 = some (.invokevirtual 213) := rfl
set_option maxRecDepth 100000 in
theorem ma9_23 : j_code jP 208 23 = some (.ifCond .eq 49) := rfl
set_option maxRecDepth 100000 in
theorem ma9_26 : j_code jP 208 26 = some (.aload_n 0) := rfl
set_option maxRecDepth 100000 in
theorem ma9_27 : j_code jP 208 27 = some (.iload_n 2) := rfl
set_option maxRecDepth 100000 in
theorem ma9_28 : j_code jP 208 28 = some (.iconst 2) := rfl
set_option maxRecDepth 100000 in
theorem ma9_29 : j_code jP 208 29 = some (.iload 4) := rfl
set_option maxRecDepth 100000 in
theorem ma9_31 : j_code jP 208 31 = some (.iadd) := rfl
set_option maxRecDepth 100000 in
theorem ma9_32 : j_code jP 208 32 = some (.invokevirtual 69) := rfl
set_option maxRecDepth 100000 in
theorem ma9_35 : j_code jP 208 35 = some (.aload_n 0) := rfl
set_option maxRecDepth 100000 in
theorem ma9_36 : j_code jP 208 36 = some (.iload_n 1) := rfl
set_option maxRecDepth 100000 in
theorem ma9_37 : j_code jP 208 37 = some (.iconst 0) := rfl
set_option maxRecDepth 100000 in
theorem ma9_38 : j_code jP 208 38 = some (.invokevirtual 198) := rfl
set_option maxRecDepth 100000 in
theorem ma9_41 : j_code jP 208 41 = some (.if_icmp .lt 31) := rfl
set_option maxRecDepth 100000 in
theorem ma9_44 : j_code jP 208 44 = some (.iload_n 3) := rfl
set_option maxRecDepth 100000 in
theorem ma9_45 : j_code jP 208 45 = some (.iconst (-1)) := rfl
set_option maxRecDepth 100000 in
theorem ma9_46 : j_code jP 208 46 = some (.if_icmp .eq 23) := rfl
set_option maxRecDepth 100000 in
theorem ma9_49 : j_code jP 208 49 = some (.aload_n 0) := rfl
set_option maxRecDepth 100000 in
theorem ma9_50 : j_code jP 208 50 = some (.iload_n 2) := rfl
set_option maxRecDepth 100000 in
theorem ma9_51 : j_code jP 208 51 = some (.iconst 2) := rfl
set_option maxRecDepth 100000 in
theorem ma9_52 : j_code jP 208 52 = some (.iload 4) := rfl
set_option maxRecDepth 100000 in
theorem ma9_54 : j_code jP 208 54 = some (.iadd) := rfl
set_option maxRecDepth 100000 in
theorem ma9_55 : j_code jP 208 55 = some (.invokevirtual 69) := rfl
set_option maxRecDepth 100000 in
theorem ma9_58 : j_code jP 208 58 = some (.aload_n 0) := rfl
set_option maxRecDepth 100000 in
theorem ma9_59 : j_code jP 208 59 = some (.iload_n 2) := rfl
set_option maxRecDepth 100000 in
theorem ma9_60 : j_code jP 208 60 = some (.iconst 2) := rfl
set_option maxRecDepth 100000 in
theorem ma9_61 : j_code jP 208 61 = some (.iload_n 3) := rfl
set_option maxRecDepth 100000 in
theorem ma9_62 : j_code jP 208 62 = some (.iadd) := rfl
set_option maxRecDepth 100000 in
theorem ma9_63 : j_code jP 208 63 = some (.invokevirtual 69) := rfl
set_option maxRecDepth 100000 in
theorem ma9_66 : j_code jP 208 66 = some (.if_icmp .ge 6) := rfl
set_option maxRecDepth 100000 in
theorem ma9_69 : j_code jP 208 69 = some (.iload 4) := rfl
set_option maxRecDepth 100000 in
theorem ma9_71 : j_code jP 208 71 = some (.istore_n 3) := rfl
set_option maxRecDepth 100000 in
theorem ma9_72 : j_code jP 208 72 = some (.iinc 4 1) := rfl
set_option maxRecDepth 100000 in
theorem ma9_75 : j_code jP 208 75 = some (.goto (-70)) := rfl
set_option maxRecDepth 100000 in
theorem ma9_78 : j_code jP 208 78 = some (.iload_n 3) := rfl
set_option maxRecDepth 100000 in
theorem ma9_79 : j_code jP 208 79 = some (.ireturn) := rfl
def m_trackFor_l5 (w : List Int32) (v1 : Int32) (v2 : Int32) : Nat → Int32 → Int32 → Int32
  | 0, v4, v3 => v3
  | f + 1, v4, v3 => (m_trackFor_l5 w v1 v2 f ((v4 + 1)) (((if (m_isFree w v2 v4) = 0 then v3 else (if (m_st w v2 (2 + v4)) < (m_of w v1 0) then v3 else (if v3 = (-1) then v4 else (if (m_st w v2 (2 + v4)) < (m_st w v2 (2 + v3)) then v4 else v3)))) : Int32)))
set_option maxRecDepth 1000000 in
theorem ma9_ok_l5 {u : Nat → Value} {w : List Int32} {v1 v2 : Int32} {d : Nat} {h h0 : J_H} : ∀ (f : Nat) (v4 v3 : Int32) {lv : J_L}, lpN (m_st w v2 1) v4 = f → LK lv [(0, .ref 359), (1, .int v1), (2, .int v2), (3, .int v3), (4, .int v4)] → KN h [(359, .inl (10, [(u 0), .ref 360, .ref 361, .ref 362, .ref 363, .ref 364, .ref 365, .ref 366, .ref 367, (u 9), (u 10), (u 11), (u 12), (u 13), (u 14), (u 15), (u 16), (u 17), (u 18), (u 19), (u 20), (u 21), .ref 368, (u 23), .ref 369, .ref 370, .ref 371, (u 27)])), (360, .inr (.inl (0, w)))] h0 → j_V jP d 208 5 lv [] h (fun rv h' => rv = some (.int (m_trackFor_l5 w v1 v2 f v4 v3)) ∧ h' = h) := by
  intro f
  induction f with
  | zero =>
    intro v4 v3 lv e L K
    refine j_V.ldL ma9_M ma9_5 rfl (i := 4) (kd := 0) (v := .int v4) (pcJ := 7) rfl L rfl rfl rfl ?_
    refine j_V.ldL ma9_M ma9_7 rfl (i := 0) (kd := 2) (v := .ref 359) (pcJ := 8) rfl L rfl rfl rfl ?_
    refine j_V.ldL ma9_M ma9_8 rfl (i := 2) (kd := 0) (v := .int v2) (pcJ := 9) rfl L rfl rfl rfl ?_
    refine j_V.one ma9_M ma9_9 (by decide) (pcJ := 10) (stJ := [.int 1, .int v2, .ref 359, .int v4]) rfl ?_
    refine j_V.cl ma9_M ma9_10 rfl (md := 3) (mj := 176) rfl (by decide) ma1_M (As := [.ref 359, .int v2, .int 1]) (rest := [.int v4]) (jk_spl3 (K.at rfl) rfl rfl rfl (Nat.le_of_ble_eq_true rfl) (Nat.le_of_ble_eq_true rfl)) (fun d => ma1_ok (K.fi [359, 360] rfl rfl)) ?_
    rintro r hz ⟨rfl, ez⟩
    rw [ez]
    clear ez
    show j_V jP _ 208 13 lv [.int (m_st w v2 1), .int v4] h _
    refine j_V.icmp ma9_M ma9_13 (t := 78) rfl (fun c13_0 => ?_) (fun c13_0 => ?_)
    · replace c13_0 : ¬ (v4 < (m_st w v2 1)) := jd_ge c13_0
      refine j_V.ldL ma9_M ma9_78 rfl (i := 3) (kd := 0) (v := .int v3) (pcJ := 79) rfl L rfl rfl rfl ?_
      exact j_V.ri ma9_M ma9_79 ⟨congrArg (fun z => some (Value.int z)) (Eq.symm (show (m_trackFor_l5 w v1 v2 0 v4 v3) = v3 from rfl)), rfl⟩
    · replace c13_0 : v4 < (m_st w v2 1) := jd_gen c13_0
      exact absurd c13_0 (lpN_z e)
  | succ f ih =>
    intro v4 v3 lv e L K
    refine j_V.ldL ma9_M ma9_5 rfl (i := 4) (kd := 0) (v := .int v4) (pcJ := 7) rfl L rfl rfl rfl ?_
    refine j_V.ldL ma9_M ma9_7 rfl (i := 0) (kd := 2) (v := .ref 359) (pcJ := 8) rfl L rfl rfl rfl ?_
    refine j_V.ldL ma9_M ma9_8 rfl (i := 2) (kd := 0) (v := .int v2) (pcJ := 9) rfl L rfl rfl rfl ?_
    refine j_V.one ma9_M ma9_9 (by decide) (pcJ := 10) (stJ := [.int 1, .int v2, .ref 359, .int v4]) rfl ?_
    refine j_V.cl ma9_M ma9_10 rfl (md := 3) (mj := 176) rfl (by decide) ma1_M (As := [.ref 359, .int v2, .int 1]) (rest := [.int v4]) (jk_spl3 (K.at rfl) rfl rfl rfl (Nat.le_of_ble_eq_true rfl) (Nat.le_of_ble_eq_true rfl)) (fun d => ma1_ok (K.fi [359, 360] rfl rfl)) ?_
    rintro r hz ⟨rfl, ez⟩
    rw [ez]
    clear ez
    show j_V jP _ 208 13 lv [.int (m_st w v2 1), .int v4] h _
    refine j_V.icmp ma9_M ma9_13 (t := 78) rfl (fun c13_0 => ?_) (fun c13_0 => ?_)
    · replace c13_0 : ¬ (v4 < (m_st w v2 1)) := jd_ge c13_0
      exact absurd (lpN_s e) c13_0
    · replace c13_0 : v4 < (m_st w v2 1) := jd_gen c13_0
      refine j_V.ldL ma9_M ma9_16 rfl (i := 0) (kd := 2) (v := .ref 359) (pcJ := 17) rfl L rfl rfl rfl ?_
      refine j_V.ldL ma9_M ma9_17 rfl (i := 2) (kd := 0) (v := .int v2) (pcJ := 18) rfl L rfl rfl rfl ?_
      refine j_V.ldL ma9_M ma9_18 rfl (i := 4) (kd := 0) (v := .int v4) (pcJ := 20) rfl L rfl rfl rfl ?_
      refine j_V.cl ma9_M ma9_20 rfl (md := 3) (mj := 207) rfl (by decide) ma8_M (As := [.ref 359, .int v2, .int v4]) (rest := []) (jk_spl3 (K.at rfl) rfl rfl rfl (Nat.le_of_ble_eq_true rfl) (Nat.le_of_ble_eq_true rfl)) (fun d => ma8_ok (K.fi [359, 360] rfl rfl)) ?_
      rintro r hz ⟨rfl, ez⟩
      rw [ez]
      clear ez
      show j_V jP _ 208 23 lv [.int (m_isFree w v2 v4)] h _
      refine j_V.cut (b := 72) (stJ := []) (fun v => [(0, .ref 359), (1, .int v1), (2, .int v2), (3, .int v), (4, .int v4)]) ((if (m_isFree w v2 v4) = 0 then v3 else (if (m_st w v2 (2 + v4)) < (m_of w v1 0) then v3 else (if v3 = (-1) then v4 else (if (m_st w v2 (2 + v4)) < (m_st w v2 (2 + v3)) then v4 else v3)))) : Int32) (fun Q kk => ?_) (fun lv L => ?_)
      · refine j_V.ifc ma9_M ma9_23 (t := 72) rfl (fun c23_0 => ?_) (fun c23_0 => ?_)
        · replace c23_0 : (m_isFree w v2 v4) = 0 := jd_eq c23_0
          exact kk _ (Eq.subst (motive := fun z => LK _ ((fun v => [(0, .ref 359), (1, .int v1), (2, .int v2), (3, .int v), (4, .int v4)]) z)) (show v3 = ((if (m_isFree w v2 v4) = 0 then v3 else (if (m_st w v2 (2 + v4)) < (m_of w v1 0) then v3 else (if v3 = (-1) then v4 else (if (m_st w v2 (2 + v4)) < (m_st w v2 (2 + v3)) then v4 else v3)))) : Int32) from Eq.symm ((if_pos c23_0).trans (rfl))) L)
        · replace c23_0 : ¬ ((m_isFree w v2 v4) = 0) := jd_eqn c23_0
          refine j_V.ldL ma9_M ma9_26 rfl (i := 0) (kd := 2) (v := .ref 359) (pcJ := 27) rfl L rfl rfl rfl ?_
          refine j_V.ldL ma9_M ma9_27 rfl (i := 2) (kd := 0) (v := .int v2) (pcJ := 28) rfl L rfl rfl rfl ?_
          refine j_V.one ma9_M ma9_28 (by decide) (pcJ := 29) (stJ := [.int 2, .int v2, .ref 359]) rfl ?_
          refine j_V.ldL ma9_M ma9_29 rfl (i := 4) (kd := 0) (v := .int v4) (pcJ := 31) rfl L rfl rfl rfl ?_
          refine j_V.one ma9_M ma9_31 (by decide) (pcJ := 32) (stJ := [.int (2 + v4), .int v2, .ref 359]) rfl ?_
          refine j_V.cl ma9_M ma9_32 rfl (md := 3) (mj := 176) rfl (by decide) ma1_M (As := [.ref 359, .int v2, .int (2 + v4)]) (rest := []) (jk_spl3 (K.at rfl) rfl rfl rfl (Nat.le_of_ble_eq_true rfl) (Nat.le_of_ble_eq_true rfl)) (fun d => ma1_ok (K.fi [359, 360] rfl rfl)) ?_
          rintro r hz ⟨rfl, ez⟩
          rw [ez]
          clear ez
          show j_V jP _ 208 35 lv [.int (m_st w v2 (2 + v4))] h _
          refine j_V.ldL ma9_M ma9_35 rfl (i := 0) (kd := 2) (v := .ref 359) (pcJ := 36) rfl L rfl rfl rfl ?_
          refine j_V.ldL ma9_M ma9_36 rfl (i := 1) (kd := 0) (v := .int v1) (pcJ := 37) rfl L rfl rfl rfl ?_
          refine j_V.one ma9_M ma9_37 (by decide) (pcJ := 38) (stJ := [.int 0, .int v1, .ref 359, .int (m_st w v2 (2 + v4))]) rfl ?_
          refine j_V.cl ma9_M ma9_38 rfl (md := 3) (mj := 178) rfl (by decide) ma3_M (As := [.ref 359, .int v1, .int 0]) (rest := [.int (m_st w v2 (2 + v4))]) (jk_spl3 (K.at rfl) rfl rfl rfl (Nat.le_of_ble_eq_true rfl) (Nat.le_of_ble_eq_true rfl)) (fun d => ma3_ok (K.fi [359, 360] rfl rfl)) ?_
          rintro r hz ⟨rfl, ez⟩
          rw [ez]
          clear ez
          show j_V jP _ 208 41 lv [.int (m_of w v1 0), .int (m_st w v2 (2 + v4))] h _
          refine j_V.icmp ma9_M ma9_41 (t := 72) rfl (fun c41_1 => ?_) (fun c41_1 => ?_)
          · replace c41_1 : (m_st w v2 (2 + v4)) < (m_of w v1 0) := jd_lt c41_1
            exact kk _ (Eq.subst (motive := fun z => LK _ ((fun v => [(0, .ref 359), (1, .int v1), (2, .int v2), (3, .int v), (4, .int v4)]) z)) (show v3 = ((if (m_isFree w v2 v4) = 0 then v3 else (if (m_st w v2 (2 + v4)) < (m_of w v1 0) then v3 else (if v3 = (-1) then v4 else (if (m_st w v2 (2 + v4)) < (m_st w v2 (2 + v3)) then v4 else v3)))) : Int32) from Eq.symm ((if_neg c23_0).trans ((if_pos c41_1).trans (rfl)))) L)
          · replace c41_1 : ¬ ((m_st w v2 (2 + v4)) < (m_of w v1 0)) := jd_ltn c41_1
            refine j_V.ldL ma9_M ma9_44 rfl (i := 3) (kd := 0) (v := .int v3) (pcJ := 45) rfl L rfl rfl rfl ?_
            refine j_V.one ma9_M ma9_45 (by decide) (pcJ := 46) (stJ := [.int (-1), .int v3]) rfl ?_
            refine j_V.icmp ma9_M ma9_46 (t := 69) rfl (fun c46_2 => ?_) (fun c46_2 => ?_)
            · replace c46_2 : v3 = (-1) := jd_eq c46_2
              refine j_V.ldL ma9_M ma9_69 rfl (i := 4) (kd := 0) (v := .int v4) (pcJ := 71) rfl L rfl rfl rfl ?_
              refine j_V.stL ma9_M ma9_71 rfl (i := 3) (kd := 0) (kl' := [(0, .ref 359), (1, .int v1), (2, .int v2), (3, .int v4), (4, .int v4)]) (pcJ := 72) rfl L rfl (by decide) rfl rfl rfl (fun lv L => ?_)
              exact kk _ (Eq.subst (motive := fun z => LK _ ((fun v => [(0, .ref 359), (1, .int v1), (2, .int v2), (3, .int v), (4, .int v4)]) z)) (show v4 = ((if (m_isFree w v2 v4) = 0 then v3 else (if (m_st w v2 (2 + v4)) < (m_of w v1 0) then v3 else (if v3 = (-1) then v4 else (if (m_st w v2 (2 + v4)) < (m_st w v2 (2 + v3)) then v4 else v3)))) : Int32) from Eq.symm ((if_neg c23_0).trans ((if_neg c41_1).trans ((if_pos c46_2).trans (rfl))))) L)
            · replace c46_2 : ¬ (v3 = (-1)) := jd_eqn c46_2
              refine j_V.ldL ma9_M ma9_49 rfl (i := 0) (kd := 2) (v := .ref 359) (pcJ := 50) rfl L rfl rfl rfl ?_
              refine j_V.ldL ma9_M ma9_50 rfl (i := 2) (kd := 0) (v := .int v2) (pcJ := 51) rfl L rfl rfl rfl ?_
              refine j_V.one ma9_M ma9_51 (by decide) (pcJ := 52) (stJ := [.int 2, .int v2, .ref 359]) rfl ?_
              refine j_V.ldL ma9_M ma9_52 rfl (i := 4) (kd := 0) (v := .int v4) (pcJ := 54) rfl L rfl rfl rfl ?_
              refine j_V.one ma9_M ma9_54 (by decide) (pcJ := 55) (stJ := [.int (2 + v4), .int v2, .ref 359]) rfl ?_
              refine j_V.cl ma9_M ma9_55 rfl (md := 3) (mj := 176) rfl (by decide) ma1_M (As := [.ref 359, .int v2, .int (2 + v4)]) (rest := []) (jk_spl3 (K.at rfl) rfl rfl rfl (Nat.le_of_ble_eq_true rfl) (Nat.le_of_ble_eq_true rfl)) (fun d => ma1_ok (K.fi [359, 360] rfl rfl)) ?_
              rintro r hz ⟨rfl, ez⟩
              rw [ez]
              clear ez
              show j_V jP _ 208 58 lv [.int (m_st w v2 (2 + v4))] h _
              refine j_V.ldL ma9_M ma9_58 rfl (i := 0) (kd := 2) (v := .ref 359) (pcJ := 59) rfl L rfl rfl rfl ?_
              refine j_V.ldL ma9_M ma9_59 rfl (i := 2) (kd := 0) (v := .int v2) (pcJ := 60) rfl L rfl rfl rfl ?_
              refine j_V.one ma9_M ma9_60 (by decide) (pcJ := 61) (stJ := [.int 2, .int v2, .ref 359, .int (m_st w v2 (2 + v4))]) rfl ?_
              refine j_V.ldL ma9_M ma9_61 rfl (i := 3) (kd := 0) (v := .int v3) (pcJ := 62) rfl L rfl rfl rfl ?_
              refine j_V.one ma9_M ma9_62 (by decide) (pcJ := 63) (stJ := [.int (2 + v3), .int v2, .ref 359, .int (m_st w v2 (2 + v4))]) rfl ?_
              refine j_V.cl ma9_M ma9_63 rfl (md := 3) (mj := 176) rfl (by decide) ma1_M (As := [.ref 359, .int v2, .int (2 + v3)]) (rest := [.int (m_st w v2 (2 + v4))]) (jk_spl3 (K.at rfl) rfl rfl rfl (Nat.le_of_ble_eq_true rfl) (Nat.le_of_ble_eq_true rfl)) (fun d => ma1_ok (K.fi [359, 360] rfl rfl)) ?_
              rintro r hz ⟨rfl, ez⟩
              rw [ez]
              clear ez
              show j_V jP _ 208 66 lv [.int (m_st w v2 (2 + v3)), .int (m_st w v2 (2 + v4))] h _
              refine j_V.icmp ma9_M ma9_66 (t := 72) rfl (fun c66_3 => ?_) (fun c66_3 => ?_)
              · replace c66_3 : ¬ ((m_st w v2 (2 + v4)) < (m_st w v2 (2 + v3))) := jd_ge c66_3
                exact kk _ (Eq.subst (motive := fun z => LK _ ((fun v => [(0, .ref 359), (1, .int v1), (2, .int v2), (3, .int v), (4, .int v4)]) z)) (show v3 = ((if (m_isFree w v2 v4) = 0 then v3 else (if (m_st w v2 (2 + v4)) < (m_of w v1 0) then v3 else (if v3 = (-1) then v4 else (if (m_st w v2 (2 + v4)) < (m_st w v2 (2 + v3)) then v4 else v3)))) : Int32) from Eq.symm ((if_neg c23_0).trans ((if_neg c41_1).trans ((if_neg c46_2).trans ((if_neg c66_3).trans (rfl)))))) L)
              · replace c66_3 : (m_st w v2 (2 + v4)) < (m_st w v2 (2 + v3)) := jd_gen c66_3
                refine j_V.ldL ma9_M ma9_69 rfl (i := 4) (kd := 0) (v := .int v4) (pcJ := 71) rfl L rfl rfl rfl ?_
                refine j_V.stL ma9_M ma9_71 rfl (i := 3) (kd := 0) (kl' := [(0, .ref 359), (1, .int v1), (2, .int v2), (3, .int v4), (4, .int v4)]) (pcJ := 72) rfl L rfl (by decide) rfl rfl rfl (fun lv L => ?_)
                exact kk _ (Eq.subst (motive := fun z => LK _ ((fun v => [(0, .ref 359), (1, .int v1), (2, .int v2), (3, .int v), (4, .int v4)]) z)) (show v4 = ((if (m_isFree w v2 v4) = 0 then v3 else (if (m_st w v2 (2 + v4)) < (m_of w v1 0) then v3 else (if v3 = (-1) then v4 else (if (m_st w v2 (2 + v4)) < (m_st w v2 (2 + v3)) then v4 else v3)))) : Int32) from Eq.symm ((if_neg c23_0).trans ((if_neg c41_1).trans ((if_neg c46_2).trans ((if_pos c66_3).trans (rfl)))))) L)
      refine j_V.inL ma9_M ma9_72 (i := 4) (kl' := [(0, .ref 359), (1, .int v1), (2, .int v2), (3, .int ((if (m_isFree w v2 v4) = 0 then v3 else (if (m_st w v2 (2 + v4)) < (m_of w v1 0) then v3 else (if v3 = (-1) then v4 else (if (m_st w v2 (2 + v4)) < (m_st w v2 (2 + v3)) then v4 else v3)))) : Int32)), (4, .int (v4 + 1))]) (pcJ := 75) L rfl rfl rfl rfl (fun lv L => ?_)
      refine j_V.gto ma9_M ma9_75 (t := 5) rfl ?_
      refine j_V.mono (ih ((v4 + 1)) (((if (m_isFree w v2 v4) = 0 then v3 else (if (m_st w v2 (2 + v4)) < (m_of w v1 0) then v3 else (if v3 = (-1) then v4 else (if (m_st w v2 (2 + v4)) < (m_st w v2 (2 + v3)) then v4 else v3)))) : Int32)) (lpN_n e) L K) ?_
      rintro r hz ⟨rfl, rfl⟩
      exact ⟨congrArg (fun z => some (Value.int z)) (Eq.symm (show (m_trackFor_l5 w v1 v2 (f + 1) v4 v3) = (m_trackFor_l5 w v1 v2 f ((v4 + 1)) (((if (m_isFree w v2 v4) = 0 then v3 else (if (m_st w v2 (2 + v4)) < (m_of w v1 0) then v3 else (if v3 = (-1) then v4 else (if (m_st w v2 (2 + v4)) < (m_st w v2 (2 + v3)) then v4 else v3)))) : Int32))) from rfl)), rfl⟩
def m_trackFor (w : List Int32) (x1 : Int32) (x2 : Int32) : Int32 := (m_trackFor_l5 w x1 x2 (lpN (m_st w x2 1) 0) 0 (-1))
set_option maxRecDepth 1000000 in
theorem ma9_ok {u : Nat → Value} {w : List Int32} {x1 x2 : Int32} {d : Nat} {h h0 : J_H} (K : KN h [(359, .inl (10, [(u 0), .ref 360, .ref 361, .ref 362, .ref 363, .ref 364, .ref 365, .ref 366, .ref 367, (u 9), (u 10), (u 11), (u 12), (u 13), (u 14), (u 15), (u 16), (u 17), (u 18), (u 19), (u 20), (u 21), .ref 368, (u 23), .ref 369, .ref 370, .ref 371, (u 27)])), (360, .inr (.inl (0, w)))] h0) : j_V jP d 208 0 (lv_args 0 [.ref 359, .int x1, .int x2]) [] h (fun rv h' => rv = some (.int (m_trackFor w x1 x2)) ∧ h' = h) := by
  show j_V jP d 208 0 [(0, .ref 359), (1, .int x1), (2, .int x2)] [] h _
  obtain ⟨lv, elv, L⟩ : ∃ lv, lv = [(0, .ref 359), (1, .int x1), (2, .int x2)] ∧ LK lv [(0, .ref 359), (1, .int x1), (2, .int x2)] := ⟨_, rfl, LK.rf⟩
  rw [← elv]
  clear elv
  refine j_V.one ma9_M ma9_0 (by decide) (pcJ := 1) (stJ := [.int (-1)]) rfl ?_
  refine j_V.stL ma9_M ma9_1 rfl (i := 3) (kd := 0) (kl' := [(0, .ref 359), (1, .int x1), (2, .int x2), (3, .int (-1))]) (pcJ := 2) rfl L rfl (by decide) rfl rfl rfl (fun lv L => ?_)
  refine j_V.one ma9_M ma9_2 (by decide) (pcJ := 3) (stJ := [.int 0]) rfl ?_
  refine j_V.stL ma9_M ma9_3 rfl (i := 4) (kd := 0) (kl' := [(0, .ref 359), (1, .int x1), (2, .int x2), (3, .int (-1)), (4, .int 0)]) (pcJ := 5) rfl L rfl (by decide) rfl rfl rfl (fun lv L => ?_)
  refine j_V.mono (ma9_ok_l5 _ (0) ((-1)) rfl L K) ?_
  rintro r hz ⟨rfl, rfl⟩
  exact ⟨congrArg (fun z => some (Value.int z)) (Eq.symm (show (m_trackFor w x1 x2) = (m_trackFor_l5 w x1 x2 (lpN (m_st w x2 1) 0) 0 (-1)) from rfl)), rfl⟩
set_option maxRecDepth 100000 in
theorem mb0_M : j_meth jP 209 = some (yX10_sectionOf, cX10_sectionOf, 2, (some .int), 1, false, 10) := rfl
set_option maxRecDepth 100000 in
theorem mb0_0 : j_code jP 209 0 = some (.aload_n 0) := rfl
set_option maxRecDepth 100000 in
theorem mb0_1 : j_code jP 209 1 = some (.iload_n 1) := rfl
set_option maxRecDepth 100000 in
theorem mb0_2 : j_code jP 209 2 = some (.bipush 7) := rfl
set_option maxRecDepth 100000 in
theorem mb0_4 : j_code jP 209 4 = some (.invokevirtual 198) := rfl
set_option maxRecDepth 100000 in
theorem mb0_7 : j_code jP 209 7 = some (.aload_n 0) := rfl
set_option maxRecDepth 100000 in
theorem mb0_8 : j_code jP 209 8 = some (.iload_n 1) := rfl
set_option maxRecDepth 100000 in
theorem mb0_9 : j_code jP 209 9 = some (.invokevirtual 204) := rfl
set_option maxRecDepth 100000 in
theorem mb0_12 : j_code jP 209 12 = some (.invokestatic 161) := rfl
set_option maxRecDepth 100000 in
theorem mb0_15 : j_code jP 209 15 = some (.ireturn) := rfl
def m_sectionOf (w : List Int32) (x1 : Int32) : Int32 := (iMn (m_of w x1 7) (m_next w x1))
set_option maxRecDepth 1000000 in
theorem mb0_ok {u : Nat → Value} {w : List Int32} {x1 : Int32} {d : Nat} {h h0 : J_H} (K : KN h [(359, .inl (10, [(u 0), .ref 360, .ref 361, .ref 362, .ref 363, .ref 364, .ref 365, .ref 366, .ref 367, (u 9), (u 10), (u 11), (u 12), (u 13), (u 14), (u 15), (u 16), (u 17), (u 18), (u 19), (u 20), (u 21), .ref 368, (u 23), .ref 369, .ref 370, .ref 371, (u 27)])), (360, .inr (.inl (0, w)))] h0) : j_V jP d 209 0 (lv_args 0 [.ref 359, .int x1]) [] h (fun rv h' => rv = some (.int (m_sectionOf w x1)) ∧ h' = h) := by
  show j_V jP d 209 0 [(0, .ref 359), (1, .int x1)] [] h _
  obtain ⟨lv, elv, L⟩ : ∃ lv, lv = [(0, .ref 359), (1, .int x1)] ∧ LK lv [(0, .ref 359), (1, .int x1)] := ⟨_, rfl, LK.rf⟩
  rw [← elv]
  clear elv
  refine j_V.ldL mb0_M mb0_0 rfl (i := 0) (kd := 2) (v := .ref 359) (pcJ := 1) rfl L rfl rfl rfl ?_
  refine j_V.ldL mb0_M mb0_1 rfl (i := 1) (kd := 0) (v := .int x1) (pcJ := 2) rfl L rfl rfl rfl ?_
  refine j_V.one mb0_M mb0_2 (by decide) (pcJ := 4) (stJ := [.int 7, .int x1, .ref 359]) rfl ?_
  refine j_V.cl mb0_M mb0_4 rfl (md := 3) (mj := 178) rfl (by decide) ma3_M (As := [.ref 359, .int x1, .int 7]) (rest := []) (jk_spl3 (K.at rfl) rfl rfl rfl (Nat.le_of_ble_eq_true rfl) (Nat.le_of_ble_eq_true rfl)) (fun d => ma3_ok (K.fi [359, 360] rfl rfl)) ?_
  rintro r hz ⟨rfl, ez⟩
  rw [ez]
  clear ez
  show j_V jP _ 209 7 lv [.int (m_of w x1 7)] h _
  refine j_V.ldL mb0_M mb0_7 rfl (i := 0) (kd := 2) (v := .ref 359) (pcJ := 8) rfl L rfl rfl rfl ?_
  refine j_V.ldL mb0_M mb0_8 rfl (i := 1) (kd := 0) (v := .int x1) (pcJ := 9) rfl L rfl rfl rfl ?_
  refine j_V.cl mb0_M mb0_9 rfl (md := 3) (mj := 204) rfl (by decide) ma5_M (As := [.ref 359, .int x1]) (rest := [.int (m_of w x1 7)]) (jk_spl3 (K.at rfl) rfl rfl rfl (Nat.le_of_ble_eq_true rfl) (Nat.le_of_ble_eq_true rfl)) (fun d => ma5_ok (K.fi [359, 360] rfl rfl)) ?_
  rintro r hz ⟨rfl, ez⟩
  rw [ez]
  clear ez
  show j_V jP _ 209 12 lv [.int (m_next w x1), .int (m_of w x1 7)] h _
  refine j_V.mn mb0_M mb0_12 rfl rfl (Nat.le_of_ble_eq_true rfl) ?_
  exact j_V.ri mb0_M mb0_15 ⟨congrArg (fun z => some (Value.int z)) (Eq.symm (show (m_sectionOf w x1) = (iMn (m_of w x1 7) (m_next w x1)) from rfl)), rfl⟩
set_option maxRecDepth 100000 in
theorem mb1_M : j_meth jP 210 = some (yX10_whoOn, cX10_whoOn, 3, (some .int), 1, false, 10) := rfl
set_option maxRecDepth 100000 in
theorem mb1_0 : j_code jP 210 0 = some (.iconst 0) := rfl
set_option maxRecDepth 100000 in
theorem mb1_1 : j_code jP 210 1 = some (.istore_n 2) := rfl
set_option maxRecDepth 100000 in
theorem mb1_2 : j_code jP 210 2 = some (.iload_n 2) := rfl
set_option maxRecDepth 100000 in
theorem mb1_3 : j_code jP 210 3 = some (.aload_n 0) := rfl
set_option maxRecDepth 100000 in
theorem mb1_4 : j_code jP 210 4 = some (.getfield 7) := rfl
set_option maxRecDepth 100000 in
theorem mb1_7 : j_code jP 210 7 = some (.sipush 203) := rfl
set_option maxRecDepth 100000 in
theorem mb1_10 : j_code jP 210 10 = some (.iaload) := rfl
set_option maxRecDepth 100000 in
theorem mb1_11 : j_code jP 210 11 = some (.if_icmp .ge 31) := rfl
set_option maxRecDepth 100000 in
theorem mb1_14 : j_code jP 210 14 = some (.aload_n 0) := rfl
set_option maxRecDepth 100000 in
theorem mb1_15 : j_code jP 210 15 = some (.iload_n 2) := rfl
set_option maxRecDepth 100000 in
theorem mb1_16 : j_code jP 210 16 = some (.bipush 6) := rfl
set_option maxRecDepth 100000 in
theorem mb1_18 : j_code jP 210 18 = some (.invokevirtual 198) := rfl
set_option maxRecDepth 100000 in
theorem mb1_21 : j_code jP 210 21 = some (.iconst 2) := rfl
set_option maxRecDepth 100000 in
theorem mb1_22 : j_code jP 210 22 = some (.if_icmp .ne 14) := rfl
set_option maxRecDepth 100000 in
theorem mb1_25 : j_code jP 210 25 = some (.aload_n 0) := rfl
set_option maxRecDepth 100000 in
theorem mb1_26 : j_code jP 210 26 = some (.iload_n 2) := rfl
set_option maxRecDepth 100000 in
theorem mb1_27 : j_code jP 210 27 = some (.invokevirtual 216) := rfl
set_option maxRecDepth 100000 in
theorem mb1_30 : j_code jP 210 30 = some (.iload_n 1) := rfl
set_option maxRecDepth 100000 in
theorem mb1_31 : j_code jP 210 31 = some (.if_icmp .ne 5) := rfl
set_option maxRecDepth 100000 in
theorem mb1_34 : j_code jP 210 34 = some (.iload_n 2) := rfl
set_option maxRecDepth 100000 in
theorem mb1_35 : j_code jP 210 35 = some (.ireturn) := rfl
set_option maxRecDepth 100000 in
theorem mb1_36 : j_code jP 210 36 = some (.iinc 2 1) := rfl
set_option maxRecDepth 100000 in
theorem mb1_39 : j_code jP 210 39 = some (.goto (-37)) := rfl
set_option maxRecDepth 100000 in
theorem mb1_42 : j_code jP 210 42 = some (.iconst (-1)) := rfl
set_option maxRecDepth 100000 in
theorem mb1_43 : j_code jP 210 43 = some (.ireturn) := rfl
def m_whoOn_l2 (w : List Int32) (v1 : Int32) : Nat → Int32 → Int32
  | 0, v2 => (-1)
  | f + 1, v2 => (if (m_of w v2 6) = 2 then (if (m_sectionOf w v2) = v1 then v2 else (m_whoOn_l2 w v1 f ((v2 + 1)))) else (m_whoOn_l2 w v1 f ((v2 + 1))))
set_option maxRecDepth 1000000 in
theorem mb1_ok_l2 {u : Nat → Value} {w : List Int32} {v1 : Int32} {d : Nat} {h h0 : J_H} : ∀ (f : Nat) (v2 : Int32) {lv : J_L}, lpN (gA w 203) v2 = f → LK lv [(0, .ref 359), (1, .int v1), (2, .int v2)] → KN h [(359, .inl (10, [(u 0), .ref 360, .ref 361, .ref 362, .ref 363, .ref 364, .ref 365, .ref 366, .ref 367, (u 9), (u 10), (u 11), (u 12), (u 13), (u 14), (u 15), (u 16), (u 17), (u 18), (u 19), (u 20), (u 21), .ref 368, (u 23), .ref 369, .ref 370, .ref 371, (u 27)])), (360, .inr (.inl (0, w)))] h0 → j_V jP d 210 2 lv [] h (fun rv h' => rv = some (.int (m_whoOn_l2 w v1 f v2)) ∧ h' = h) := by
  intro f
  induction f with
  | zero =>
    intro v2 lv e L K
    refine j_V.ldL mb1_M mb1_2 rfl (i := 2) (kd := 0) (v := .int v2) (pcJ := 3) rfl L rfl rfl rfl ?_
    refine j_V.ldL mb1_M mb1_3 rfl (i := 0) (kd := 2) (v := .ref 359) (pcJ := 4) rfl L rfl rfl rfl ?_
    refine j_V.getK mb1_M mb1_4 (ci := 10) (j := 1) rfl K rfl rfl ?_
    refine j_V.one mb1_M mb1_7 (by decide) (pcJ := 10) (stJ := [.int 203, .ref 360, .int v2]) rfl ?_
    refine j_V.iaA mb1_M mb1_10 K rfl ?_
    refine j_V.icmp mb1_M mb1_11 (t := 42) rfl (fun c11_0 => ?_) (fun c11_0 => ?_)
    · replace c11_0 : ¬ (v2 < (gA w 203)) := jd_ge c11_0
      refine j_V.one mb1_M mb1_42 (by decide) (pcJ := 43) (stJ := [.int (-1)]) rfl ?_
      exact j_V.ri mb1_M mb1_43 ⟨congrArg (fun z => some (Value.int z)) (Eq.symm (show (m_whoOn_l2 w v1 0 v2) = (-1) from rfl)), rfl⟩
    · replace c11_0 : v2 < (gA w 203) := jd_gen c11_0
      exact absurd c11_0 (lpN_z e)
  | succ f ih =>
    intro v2 lv e L K
    refine j_V.ldL mb1_M mb1_2 rfl (i := 2) (kd := 0) (v := .int v2) (pcJ := 3) rfl L rfl rfl rfl ?_
    refine j_V.ldL mb1_M mb1_3 rfl (i := 0) (kd := 2) (v := .ref 359) (pcJ := 4) rfl L rfl rfl rfl ?_
    refine j_V.getK mb1_M mb1_4 (ci := 10) (j := 1) rfl K rfl rfl ?_
    refine j_V.one mb1_M mb1_7 (by decide) (pcJ := 10) (stJ := [.int 203, .ref 360, .int v2]) rfl ?_
    refine j_V.iaA mb1_M mb1_10 K rfl ?_
    refine j_V.icmp mb1_M mb1_11 (t := 42) rfl (fun c11_0 => ?_) (fun c11_0 => ?_)
    · replace c11_0 : ¬ (v2 < (gA w 203)) := jd_ge c11_0
      exact absurd (lpN_s e) c11_0
    · replace c11_0 : v2 < (gA w 203) := jd_gen c11_0
      refine j_V.ldL mb1_M mb1_14 rfl (i := 0) (kd := 2) (v := .ref 359) (pcJ := 15) rfl L rfl rfl rfl ?_
      refine j_V.ldL mb1_M mb1_15 rfl (i := 2) (kd := 0) (v := .int v2) (pcJ := 16) rfl L rfl rfl rfl ?_
      refine j_V.one mb1_M mb1_16 (by decide) (pcJ := 18) (stJ := [.int 6, .int v2, .ref 359]) rfl ?_
      refine j_V.cl mb1_M mb1_18 rfl (md := 3) (mj := 178) rfl (by decide) ma3_M (As := [.ref 359, .int v2, .int 6]) (rest := []) (jk_spl3 (K.at rfl) rfl rfl rfl (Nat.le_of_ble_eq_true rfl) (Nat.le_of_ble_eq_true rfl)) (fun d => ma3_ok (K.fi [359, 360] rfl rfl)) ?_
      rintro r hz ⟨rfl, ez⟩
      rw [ez]
      clear ez
      show j_V jP _ 210 21 lv [.int (m_of w v2 6)] h _
      refine j_V.one mb1_M mb1_21 (by decide) (pcJ := 22) (stJ := [.int 2, .int (m_of w v2 6)]) rfl ?_
      refine j_V.icmp mb1_M mb1_22 (t := 36) rfl (fun c22_0 => ?_) (fun c22_0 => ?_)
      · replace c22_0 : ¬ ((m_of w v2 6) = 2) := jd_ne c22_0
        refine j_V.inL mb1_M mb1_36 (i := 2) (kl' := [(0, .ref 359), (1, .int v1), (2, .int (v2 + 1))]) (pcJ := 39) L rfl rfl rfl rfl (fun lv L => ?_)
        refine j_V.gto mb1_M mb1_39 (t := 2) rfl ?_
        refine j_V.mono (ih ((v2 + 1)) (lpN_n e) L K) ?_
        rintro r hz ⟨rfl, rfl⟩
        exact ⟨congrArg (fun z => some (Value.int z)) (Eq.symm (show (m_whoOn_l2 w v1 (f + 1) v2) = (m_whoOn_l2 w v1 f ((v2 + 1))) from (if_neg c22_0).trans (rfl))), rfl⟩
      · replace c22_0 : (m_of w v2 6) = 2 := jd_nen c22_0
        refine j_V.ldL mb1_M mb1_25 rfl (i := 0) (kd := 2) (v := .ref 359) (pcJ := 26) rfl L rfl rfl rfl ?_
        refine j_V.ldL mb1_M mb1_26 rfl (i := 2) (kd := 0) (v := .int v2) (pcJ := 27) rfl L rfl rfl rfl ?_
        refine j_V.cl mb1_M mb1_27 rfl (md := 3) (mj := 209) rfl (by decide) mb0_M (As := [.ref 359, .int v2]) (rest := []) (jk_spl3 (K.at rfl) rfl rfl rfl (Nat.le_of_ble_eq_true rfl) (Nat.le_of_ble_eq_true rfl)) (fun d => mb0_ok (K.fi [359, 360] rfl rfl)) ?_
        rintro r hz ⟨rfl, ez⟩
        rw [ez]
        clear ez
        show j_V jP _ 210 30 lv [.int (m_sectionOf w v2)] h _
        refine j_V.ldL mb1_M mb1_30 rfl (i := 1) (kd := 0) (v := .int v1) (pcJ := 31) rfl L rfl rfl rfl ?_
        refine j_V.icmp mb1_M mb1_31 (t := 36) rfl (fun c31_1 => ?_) (fun c31_1 => ?_)
        · replace c31_1 : ¬ ((m_sectionOf w v2) = v1) := jd_ne c31_1
          refine j_V.inL mb1_M mb1_36 (i := 2) (kl' := [(0, .ref 359), (1, .int v1), (2, .int (v2 + 1))]) (pcJ := 39) L rfl rfl rfl rfl (fun lv L => ?_)
          refine j_V.gto mb1_M mb1_39 (t := 2) rfl ?_
          refine j_V.mono (ih ((v2 + 1)) (lpN_n e) L K) ?_
          rintro r hz ⟨rfl, rfl⟩
          exact ⟨congrArg (fun z => some (Value.int z)) (Eq.symm (show (m_whoOn_l2 w v1 (f + 1) v2) = (m_whoOn_l2 w v1 f ((v2 + 1))) from (if_pos c22_0).trans ((if_neg c31_1).trans (rfl)))), rfl⟩
        · replace c31_1 : (m_sectionOf w v2) = v1 := jd_nen c31_1
          refine j_V.ldL mb1_M mb1_34 rfl (i := 2) (kd := 0) (v := .int v2) (pcJ := 35) rfl L rfl rfl rfl ?_
          exact j_V.ri mb1_M mb1_35 ⟨congrArg (fun z => some (Value.int z)) (Eq.symm (show (m_whoOn_l2 w v1 (f + 1) v2) = v2 from (if_pos c22_0).trans ((if_pos c31_1).trans (rfl)))), rfl⟩
def m_whoOn (w : List Int32) (x1 : Int32) : Int32 := (m_whoOn_l2 w x1 (lpN (gA w 203) 0) 0)
set_option maxRecDepth 1000000 in
theorem mb1_ok {u : Nat → Value} {w : List Int32} {x1 : Int32} {d : Nat} {h h0 : J_H} (K : KN h [(359, .inl (10, [(u 0), .ref 360, .ref 361, .ref 362, .ref 363, .ref 364, .ref 365, .ref 366, .ref 367, (u 9), (u 10), (u 11), (u 12), (u 13), (u 14), (u 15), (u 16), (u 17), (u 18), (u 19), (u 20), (u 21), .ref 368, (u 23), .ref 369, .ref 370, .ref 371, (u 27)])), (360, .inr (.inl (0, w)))] h0) : j_V jP d 210 0 (lv_args 0 [.ref 359, .int x1]) [] h (fun rv h' => rv = some (.int (m_whoOn w x1)) ∧ h' = h) := by
  show j_V jP d 210 0 [(0, .ref 359), (1, .int x1)] [] h _
  obtain ⟨lv, elv, L⟩ : ∃ lv, lv = [(0, .ref 359), (1, .int x1)] ∧ LK lv [(0, .ref 359), (1, .int x1)] := ⟨_, rfl, LK.rf⟩
  rw [← elv]
  clear elv
  refine j_V.one mb1_M mb1_0 (by decide) (pcJ := 1) (stJ := [.int 0]) rfl ?_
  refine j_V.stL mb1_M mb1_1 rfl (i := 2) (kd := 0) (kl' := [(0, .ref 359), (1, .int x1), (2, .int 0)]) (pcJ := 2) rfl L rfl (by decide) rfl rfl rfl (fun lv L => ?_)
  refine j_V.mono (mb1_ok_l2 _ (0) rfl L K) ?_
  rintro r hz ⟨rfl, rfl⟩
  exact ⟨congrArg (fun z => some (Value.int z)) (Eq.symm (show (m_whoOn w x1) = (m_whoOn_l2 w x1 (lpN (gA w 203) 0) 0) from rfl)), rfl⟩
set_option maxRecDepth 100000 in
theorem mb2_M : j_meth jP 211 = some (yX10_runOf, cX10_runOf, 3, (some .int), 2, false, 10) := rfl
set_option maxRecDepth 100000 in
theorem mb2_0 : j_code jP 211 0 = some (.aload_n 0) := rfl
set_option maxRecDepth 100000 in
theorem mb2_1 : j_code jP 211 1 = some (.iload_n 2) := rfl
set_option maxRecDepth 100000 in
theorem mb2_2 : j_code jP 211 2 = some (.iconst 1) := rfl
set_option maxRecDepth 100000 in
theorem mb2_3 : j_code jP 211 3 = some (.iadd) := rfl
set_option maxRecDepth 100000 in
theorem mb2_4 : j_code jP 211 4 = some (.iconst 0) := rfl
set_option maxRecDepth 100000 in
theorem mb2_5 : j_code jP 211 5 = some (.invokevirtual 69) := rfl
set_option maxRecDepth 100000 in
theorem mb2_8 : j_code jP 211 8 = some (.iconst 2) := rfl
set_option maxRecDepth 100000 in
theorem mb2_9 : j_code jP 211 9 = some (.aload_n 0) := rfl
set_option maxRecDepth 100000 in
theorem mb2_10 : j_code jP 211 10 = some (.iload_n 1) := rfl
set_option maxRecDepth 100000 in
theorem mb2_11 : j_code jP 211 11 = some (.iconst 4) := rfl
set_option maxRecDepth 100000 in
theorem mb2_12 : j_code jP 211 12 = some (.invokevirtual 198) := rfl
set_option maxRecDepth 100000 in
theorem mb2_15 : j_code jP 211 15 = some (.iadd) := rfl
set_option maxRecDepth 100000 in
theorem mb2_16 : j_code jP 211 16 = some (.imul) := rfl
set_option maxRecDepth 100000 in
theorem mb2_17 : j_code jP 211 17 = some (.iconst 1) := rfl
set_option maxRecDepth 100000 in
theorem mb2_18 : j_code jP 211 18 = some (.iadd) := rfl
set_option maxRecDepth 100000 in
theorem mb2_19 : j_code jP 211 19 = some (.iconst 2) := rfl
set_option maxRecDepth 100000 in
theorem mb2_20 : j_code jP 211 20 = some (.idiv) := rfl
set_option maxRecDepth 100000 in
theorem mb2_21 : j_code jP 211 21 = some (.ireturn) := rfl
def m_runOf (w : List Int32) (x1 : Int32) (x2 : Int32) : Int32 := ((((m_st w (x2 + 1) 0) * (2 + (m_of w x1 4))) + 1) / 2)
set_option maxRecDepth 1000000 in
theorem mb2_ok {u : Nat → Value} {w : List Int32} {x1 x2 : Int32} {d : Nat} {h h0 : J_H} (K : KN h [(359, .inl (10, [(u 0), .ref 360, .ref 361, .ref 362, .ref 363, .ref 364, .ref 365, .ref 366, .ref 367, (u 9), (u 10), (u 11), (u 12), (u 13), (u 14), (u 15), (u 16), (u 17), (u 18), (u 19), (u 20), (u 21), .ref 368, (u 23), .ref 369, .ref 370, .ref 371, (u 27)])), (360, .inr (.inl (0, w)))] h0) : j_V jP d 211 0 (lv_args 0 [.ref 359, .int x1, .int x2]) [] h (fun rv h' => rv = some (.int (m_runOf w x1 x2)) ∧ h' = h) := by
  show j_V jP d 211 0 [(0, .ref 359), (1, .int x1), (2, .int x2)] [] h _
  obtain ⟨lv, elv, L⟩ : ∃ lv, lv = [(0, .ref 359), (1, .int x1), (2, .int x2)] ∧ LK lv [(0, .ref 359), (1, .int x1), (2, .int x2)] := ⟨_, rfl, LK.rf⟩
  rw [← elv]
  clear elv
  refine j_V.ldL mb2_M mb2_0 rfl (i := 0) (kd := 2) (v := .ref 359) (pcJ := 1) rfl L rfl rfl rfl ?_
  refine j_V.ldL mb2_M mb2_1 rfl (i := 2) (kd := 0) (v := .int x2) (pcJ := 2) rfl L rfl rfl rfl ?_
  refine j_V.one mb2_M mb2_2 (by decide) (pcJ := 3) (stJ := [.int 1, .int x2, .ref 359]) rfl ?_
  refine j_V.one mb2_M mb2_3 (by decide) (pcJ := 4) (stJ := [.int (x2 + 1), .ref 359]) rfl ?_
  refine j_V.one mb2_M mb2_4 (by decide) (pcJ := 5) (stJ := [.int 0, .int (x2 + 1), .ref 359]) rfl ?_
  refine j_V.cl mb2_M mb2_5 rfl (md := 3) (mj := 176) rfl (by decide) ma1_M (As := [.ref 359, .int (x2 + 1), .int 0]) (rest := []) (jk_spl3 (K.at rfl) rfl rfl rfl (Nat.le_of_ble_eq_true rfl) (Nat.le_of_ble_eq_true rfl)) (fun d => ma1_ok (K.fi [359, 360] rfl rfl)) ?_
  rintro r hz ⟨rfl, ez⟩
  rw [ez]
  clear ez
  show j_V jP _ 211 8 lv [.int (m_st w (x2 + 1) 0)] h _
  refine j_V.one mb2_M mb2_8 (by decide) (pcJ := 9) (stJ := [.int 2, .int (m_st w (x2 + 1) 0)]) rfl ?_
  refine j_V.ldL mb2_M mb2_9 rfl (i := 0) (kd := 2) (v := .ref 359) (pcJ := 10) rfl L rfl rfl rfl ?_
  refine j_V.ldL mb2_M mb2_10 rfl (i := 1) (kd := 0) (v := .int x1) (pcJ := 11) rfl L rfl rfl rfl ?_
  refine j_V.one mb2_M mb2_11 (by decide) (pcJ := 12) (stJ := [.int 4, .int x1, .ref 359, .int 2, .int (m_st w (x2 + 1) 0)]) rfl ?_
  refine j_V.cl mb2_M mb2_12 rfl (md := 3) (mj := 178) rfl (by decide) ma3_M (As := [.ref 359, .int x1, .int 4]) (rest := [.int 2, .int (m_st w (x2 + 1) 0)]) (jk_spl3 (K.at rfl) rfl rfl rfl (Nat.le_of_ble_eq_true rfl) (Nat.le_of_ble_eq_true rfl)) (fun d => ma3_ok (K.fi [359, 360] rfl rfl)) ?_
  rintro r hz ⟨rfl, ez⟩
  rw [ez]
  clear ez
  show j_V jP _ 211 15 lv [.int (m_of w x1 4), .int 2, .int (m_st w (x2 + 1) 0)] h _
  refine j_V.one mb2_M mb2_15 (by decide) (pcJ := 16) (stJ := [.int (2 + (m_of w x1 4)), .int (m_st w (x2 + 1) 0)]) rfl ?_
  refine j_V.one mb2_M mb2_16 (by decide) (pcJ := 17) (stJ := [.int ((m_st w (x2 + 1) 0) * (2 + (m_of w x1 4)))]) rfl ?_
  refine j_V.one mb2_M mb2_17 (by decide) (pcJ := 18) (stJ := [.int 1, .int ((m_st w (x2 + 1) 0) * (2 + (m_of w x1 4)))]) rfl ?_
  refine j_V.one mb2_M mb2_18 (by decide) (pcJ := 19) (stJ := [.int (((m_st w (x2 + 1) 0) * (2 + (m_of w x1 4))) + 1)]) rfl ?_
  refine j_V.one mb2_M mb2_19 (by decide) (pcJ := 20) (stJ := [.int 2, .int (((m_st w (x2 + 1) 0) * (2 + (m_of w x1 4))) + 1)]) rfl ?_
  refine j_V.one mb2_M mb2_20 (by decide) (pcJ := 21) (stJ := [.int ((((m_st w (x2 + 1) 0) * (2 + (m_of w x1 4))) + 1) / 2)]) rfl ?_
  exact j_V.ri mb2_M mb2_21 ⟨congrArg (fun z => some (Value.int z)) (Eq.symm (show (m_runOf w x1 x2) = ((((m_st w (x2 + 1) 0) * (2 + (m_of w x1 4))) + 1) / 2) from rfl)), rfl⟩
set_option maxRecDepth 100000 in
theorem mb3_M : j_meth jP 212 = some (yX10_loneOf, cX10_loneOf, 4, (some .int), 1, false, 10) := rfl
set_option maxRecDepth 100000 in
theorem mb3_0 : j_code jP 212 0 = some (.iconst 0) := rfl
set_option maxRecDepth 100000 in
theorem mb3_1 : j_code jP 212 1 = some (.istore_n 2) := rfl
set_option maxRecDepth 100000 in
theorem mb3_2 : j_code jP 212 2 = some (.aload_n 0) := rfl
set_option maxRecDepth 100000 in
theorem mb3_3 : j_code jP 212 3 = some (.iload_n 1) := rfl
set_option maxRecDepth 100000 in
theorem mb3_4 : j_code jP 212 4 = some (.iconst 1) := rfl
set_option maxRecDepth 100000 in
theorem mb3_5 : j_code jP 212 5 = some (.invokevirtual 198) := rfl
set_option maxRecDepth 100000 in
theorem mb3_8 : j_code jP 212 8 = some (.aload_n 0) := rfl
set_option maxRecDepth 100000 in
theorem mb3_9 : j_code jP 212 9 = some (.iload_n 1) := rfl
set_option maxRecDepth 100000 in
theorem mb3_10 : j_code jP 212 10 = some (.iconst 2) := rfl
set_option maxRecDepth 100000 in
theorem mb3_11 : j_code jP 212 11 = some (.invokevirtual 198) := rfl
set_option maxRecDepth 100000 in
theorem mb3_14 : j_code jP 212 14 = some (.invokestatic 161) := rfl
set_option maxRecDepth 100000 in
theorem mb3_17 : j_code jP 212 17 = some (.istore_n 3) := rfl
set_option maxRecDepth 100000 in
theorem mb3_18 : j_code jP 212 18 = some (.iload_n 3) := rfl
set_option maxRecDepth 100000 in
theorem mb3_19 : j_code jP 212 19 = some (.aload_n 0) := rfl
set_option maxRecDepth 100000 in
theorem mb3_20 : j_code jP 212 20 = some (.iload_n 1) := rfl
set_option maxRecDepth 100000 in
theorem mb3_21 : j_code jP 212 21 = some (.iconst 1) := rfl
set_option maxRecDepth 100000 in
theorem mb3_22 : j_code jP 212 22 = some (.invokevirtual 198) := rfl
set_option maxRecDepth 100000 in
theorem mb3_25 : j_code jP 212 25 = some (.aload_n 0) := rfl
set_option maxRecDepth 100000 in
theorem mb3_26 : j_code jP 212 26 = some (.iload_n 1) := rfl
set_option maxRecDepth 100000 in
theorem mb3_27 : j_code jP 212 27 = some (.iconst 2) := rfl
set_option maxRecDepth 100000 in
theorem mb3_28 : j_code jP 212 28 = some (.invokevirtual 198) := rfl
set_option maxRecDepth 100000 in
theorem mb3_31 : j_code jP 212 31 = some (.invokestatic 219) := rfl
set_option maxRecDepth 100000 in
theorem mb3_34 : j_code jP 212 34 = some (.if_icmp .ge 18) := rfl
set_option maxRecDepth 100000 in
theorem mb3_37 : j_code jP 212 37 = some (.iload_n 2) := rfl
set_option maxRecDepth 100000 in
theorem mb3_38 : j_code jP 212 38 = some (.aload_n 0) := rfl
set_option maxRecDepth 100000 in
theorem mb3_39 : j_code jP 212 39 = some (.iload_n 1) := rfl
set_option maxRecDepth 100000 in
theorem mb3_40 : j_code jP 212 40 = some (.iload_n 3) := rfl
set_option maxRecDepth 100000 in
theorem mb3_41 : j_code jP 212 41 = some (.invokevirtual 222) := rfl
set_option maxRecDepth 100000 in
theorem mb3_44 : j_code jP 212 44 = some (.iadd) := rfl
set_option maxRecDepth 100000 in
theorem mb3_45 : j_code jP 212 45 = some (.istore_n 2) := rfl
set_option maxRecDepth 100000 in
theorem mb3_46 : j_code jP 212 46 = some (.iinc 3 1) := rfl
set_option maxRecDepth 100000 in
theorem mb3_49 : j_code jP 212 49 = some (.goto (-31)) := rfl
set_option maxRecDepth 100000 in
theorem mb3_52 : j_code jP 212 52 = some (.iload_n 2) := rfl
set_option maxRecDepth 100000 in
theorem mb3_53 : j_code jP 212 53 = some (.ireturn) := rfl
def m_loneOf_l18 (w : List Int32) (v1 : Int32) : Nat → Int32 → Int32 → Int32
  | 0, v3, v2 => v2
  | f + 1, v3, v2 => (m_loneOf_l18 w v1 f ((v3 + 1)) ((v2 + (m_runOf w v1 v3))))
set_option maxRecDepth 1000000 in
theorem mb3_ok_l18 {u : Nat → Value} {w : List Int32} {v1 : Int32} {d : Nat} {h h0 : J_H} : ∀ (f : Nat) (v3 v2 : Int32) {lv : J_L}, lpN (iMx (m_of w v1 1) (m_of w v1 2)) v3 = f → LK lv [(0, .ref 359), (1, .int v1), (2, .int v2), (3, .int v3)] → KN h [(359, .inl (10, [(u 0), .ref 360, .ref 361, .ref 362, .ref 363, .ref 364, .ref 365, .ref 366, .ref 367, (u 9), (u 10), (u 11), (u 12), (u 13), (u 14), (u 15), (u 16), (u 17), (u 18), (u 19), (u 20), (u 21), .ref 368, (u 23), .ref 369, .ref 370, .ref 371, (u 27)])), (360, .inr (.inl (0, w)))] h0 → j_V jP d 212 18 lv [] h (fun rv h' => rv = some (.int (m_loneOf_l18 w v1 f v3 v2)) ∧ h' = h) := by
  intro f
  induction f with
  | zero =>
    intro v3 v2 lv e L K
    refine j_V.ldL mb3_M mb3_18 rfl (i := 3) (kd := 0) (v := .int v3) (pcJ := 19) rfl L rfl rfl rfl ?_
    refine j_V.ldL mb3_M mb3_19 rfl (i := 0) (kd := 2) (v := .ref 359) (pcJ := 20) rfl L rfl rfl rfl ?_
    refine j_V.ldL mb3_M mb3_20 rfl (i := 1) (kd := 0) (v := .int v1) (pcJ := 21) rfl L rfl rfl rfl ?_
    refine j_V.one mb3_M mb3_21 (by decide) (pcJ := 22) (stJ := [.int 1, .int v1, .ref 359, .int v3]) rfl ?_
    refine j_V.cl mb3_M mb3_22 rfl (md := 3) (mj := 178) rfl (by decide) ma3_M (As := [.ref 359, .int v1, .int 1]) (rest := [.int v3]) (jk_spl3 (K.at rfl) rfl rfl rfl (Nat.le_of_ble_eq_true rfl) (Nat.le_of_ble_eq_true rfl)) (fun d => ma3_ok (K.fi [359, 360] rfl rfl)) ?_
    rintro r hz ⟨rfl, ez⟩
    rw [ez]
    clear ez
    show j_V jP _ 212 25 lv [.int (m_of w v1 1), .int v3] h _
    refine j_V.ldL mb3_M mb3_25 rfl (i := 0) (kd := 2) (v := .ref 359) (pcJ := 26) rfl L rfl rfl rfl ?_
    refine j_V.ldL mb3_M mb3_26 rfl (i := 1) (kd := 0) (v := .int v1) (pcJ := 27) rfl L rfl rfl rfl ?_
    refine j_V.one mb3_M mb3_27 (by decide) (pcJ := 28) (stJ := [.int 2, .int v1, .ref 359, .int (m_of w v1 1), .int v3]) rfl ?_
    refine j_V.cl mb3_M mb3_28 rfl (md := 3) (mj := 178) rfl (by decide) ma3_M (As := [.ref 359, .int v1, .int 2]) (rest := [.int (m_of w v1 1), .int v3]) (jk_spl3 (K.at rfl) rfl rfl rfl (Nat.le_of_ble_eq_true rfl) (Nat.le_of_ble_eq_true rfl)) (fun d => ma3_ok (K.fi [359, 360] rfl rfl)) ?_
    rintro r hz ⟨rfl, ez⟩
    rw [ez]
    clear ez
    show j_V jP _ 212 31 lv [.int (m_of w v1 2), .int (m_of w v1 1), .int v3] h _
    refine j_V.mx mb3_M mb3_31 rfl rfl (Nat.le_of_ble_eq_true rfl) ?_
    refine j_V.icmp mb3_M mb3_34 (t := 52) rfl (fun c34_0 => ?_) (fun c34_0 => ?_)
    · replace c34_0 : ¬ (v3 < (iMx (m_of w v1 1) (m_of w v1 2))) := jd_ge c34_0
      refine j_V.ldL mb3_M mb3_52 rfl (i := 2) (kd := 0) (v := .int v2) (pcJ := 53) rfl L rfl rfl rfl ?_
      exact j_V.ri mb3_M mb3_53 ⟨congrArg (fun z => some (Value.int z)) (Eq.symm (show (m_loneOf_l18 w v1 0 v3 v2) = v2 from rfl)), rfl⟩
    · replace c34_0 : v3 < (iMx (m_of w v1 1) (m_of w v1 2)) := jd_gen c34_0
      exact absurd c34_0 (lpN_z e)
  | succ f ih =>
    intro v3 v2 lv e L K
    refine j_V.ldL mb3_M mb3_18 rfl (i := 3) (kd := 0) (v := .int v3) (pcJ := 19) rfl L rfl rfl rfl ?_
    refine j_V.ldL mb3_M mb3_19 rfl (i := 0) (kd := 2) (v := .ref 359) (pcJ := 20) rfl L rfl rfl rfl ?_
    refine j_V.ldL mb3_M mb3_20 rfl (i := 1) (kd := 0) (v := .int v1) (pcJ := 21) rfl L rfl rfl rfl ?_
    refine j_V.one mb3_M mb3_21 (by decide) (pcJ := 22) (stJ := [.int 1, .int v1, .ref 359, .int v3]) rfl ?_
    refine j_V.cl mb3_M mb3_22 rfl (md := 3) (mj := 178) rfl (by decide) ma3_M (As := [.ref 359, .int v1, .int 1]) (rest := [.int v3]) (jk_spl3 (K.at rfl) rfl rfl rfl (Nat.le_of_ble_eq_true rfl) (Nat.le_of_ble_eq_true rfl)) (fun d => ma3_ok (K.fi [359, 360] rfl rfl)) ?_
    rintro r hz ⟨rfl, ez⟩
    rw [ez]
    clear ez
    show j_V jP _ 212 25 lv [.int (m_of w v1 1), .int v3] h _
    refine j_V.ldL mb3_M mb3_25 rfl (i := 0) (kd := 2) (v := .ref 359) (pcJ := 26) rfl L rfl rfl rfl ?_
    refine j_V.ldL mb3_M mb3_26 rfl (i := 1) (kd := 0) (v := .int v1) (pcJ := 27) rfl L rfl rfl rfl ?_
    refine j_V.one mb3_M mb3_27 (by decide) (pcJ := 28) (stJ := [.int 2, .int v1, .ref 359, .int (m_of w v1 1), .int v3]) rfl ?_
    refine j_V.cl mb3_M mb3_28 rfl (md := 3) (mj := 178) rfl (by decide) ma3_M (As := [.ref 359, .int v1, .int 2]) (rest := [.int (m_of w v1 1), .int v3]) (jk_spl3 (K.at rfl) rfl rfl rfl (Nat.le_of_ble_eq_true rfl) (Nat.le_of_ble_eq_true rfl)) (fun d => ma3_ok (K.fi [359, 360] rfl rfl)) ?_
    rintro r hz ⟨rfl, ez⟩
    rw [ez]
    clear ez
    show j_V jP _ 212 31 lv [.int (m_of w v1 2), .int (m_of w v1 1), .int v3] h _
    refine j_V.mx mb3_M mb3_31 rfl rfl (Nat.le_of_ble_eq_true rfl) ?_
    refine j_V.icmp mb3_M mb3_34 (t := 52) rfl (fun c34_0 => ?_) (fun c34_0 => ?_)
    · replace c34_0 : ¬ (v3 < (iMx (m_of w v1 1) (m_of w v1 2))) := jd_ge c34_0
      exact absurd (lpN_s e) c34_0
    · replace c34_0 : v3 < (iMx (m_of w v1 1) (m_of w v1 2)) := jd_gen c34_0
      refine j_V.ldL mb3_M mb3_37 rfl (i := 2) (kd := 0) (v := .int v2) (pcJ := 38) rfl L rfl rfl rfl ?_
      refine j_V.ldL mb3_M mb3_38 rfl (i := 0) (kd := 2) (v := .ref 359) (pcJ := 39) rfl L rfl rfl rfl ?_
      refine j_V.ldL mb3_M mb3_39 rfl (i := 1) (kd := 0) (v := .int v1) (pcJ := 40) rfl L rfl rfl rfl ?_
      refine j_V.ldL mb3_M mb3_40 rfl (i := 3) (kd := 0) (v := .int v3) (pcJ := 41) rfl L rfl rfl rfl ?_
      refine j_V.cl mb3_M mb3_41 rfl (md := 3) (mj := 211) rfl (by decide) mb2_M (As := [.ref 359, .int v1, .int v3]) (rest := [.int v2]) (jk_spl3 (K.at rfl) rfl rfl rfl (Nat.le_of_ble_eq_true rfl) (Nat.le_of_ble_eq_true rfl)) (fun d => mb2_ok (K.fi [359, 360] rfl rfl)) ?_
      rintro r hz ⟨rfl, ez⟩
      rw [ez]
      clear ez
      show j_V jP _ 212 44 lv [.int (m_runOf w v1 v3), .int v2] h _
      refine j_V.one mb3_M mb3_44 (by decide) (pcJ := 45) (stJ := [.int (v2 + (m_runOf w v1 v3))]) rfl ?_
      refine j_V.stL mb3_M mb3_45 rfl (i := 2) (kd := 0) (kl' := [(0, .ref 359), (1, .int v1), (2, .int (v2 + (m_runOf w v1 v3))), (3, .int v3)]) (pcJ := 46) rfl L rfl (by decide) rfl rfl rfl (fun lv L => ?_)
      refine j_V.inL mb3_M mb3_46 (i := 3) (kl' := [(0, .ref 359), (1, .int v1), (2, .int (v2 + (m_runOf w v1 v3))), (3, .int (v3 + 1))]) (pcJ := 49) L rfl rfl rfl rfl (fun lv L => ?_)
      refine j_V.gto mb3_M mb3_49 (t := 18) rfl ?_
      refine j_V.mono (ih ((v3 + 1)) ((v2 + (m_runOf w v1 v3))) (lpN_n e) L K) ?_
      rintro r hz ⟨rfl, rfl⟩
      exact ⟨congrArg (fun z => some (Value.int z)) (Eq.symm (show (m_loneOf_l18 w v1 (f + 1) v3 v2) = (m_loneOf_l18 w v1 f ((v3 + 1)) ((v2 + (m_runOf w v1 v3)))) from rfl)), rfl⟩
def m_loneOf (w : List Int32) (x1 : Int32) : Int32 := (m_loneOf_l18 w x1 (lpN (iMx (m_of w x1 1) (m_of w x1 2)) ((iMn (m_of w x1 1) (m_of w x1 2)))) ((iMn (m_of w x1 1) (m_of w x1 2))) 0)
set_option maxRecDepth 1000000 in
theorem mb3_ok {u : Nat → Value} {w : List Int32} {x1 : Int32} {d : Nat} {h h0 : J_H} (K : KN h [(359, .inl (10, [(u 0), .ref 360, .ref 361, .ref 362, .ref 363, .ref 364, .ref 365, .ref 366, .ref 367, (u 9), (u 10), (u 11), (u 12), (u 13), (u 14), (u 15), (u 16), (u 17), (u 18), (u 19), (u 20), (u 21), .ref 368, (u 23), .ref 369, .ref 370, .ref 371, (u 27)])), (360, .inr (.inl (0, w)))] h0) : j_V jP d 212 0 (lv_args 0 [.ref 359, .int x1]) [] h (fun rv h' => rv = some (.int (m_loneOf w x1)) ∧ h' = h) := by
  show j_V jP d 212 0 [(0, .ref 359), (1, .int x1)] [] h _
  obtain ⟨lv, elv, L⟩ : ∃ lv, lv = [(0, .ref 359), (1, .int x1)] ∧ LK lv [(0, .ref 359), (1, .int x1)] := ⟨_, rfl, LK.rf⟩
  rw [← elv]
  clear elv
  refine j_V.one mb3_M mb3_0 (by decide) (pcJ := 1) (stJ := [.int 0]) rfl ?_
  refine j_V.stL mb3_M mb3_1 rfl (i := 2) (kd := 0) (kl' := [(0, .ref 359), (1, .int x1), (2, .int 0)]) (pcJ := 2) rfl L rfl (by decide) rfl rfl rfl (fun lv L => ?_)
  refine j_V.ldL mb3_M mb3_2 rfl (i := 0) (kd := 2) (v := .ref 359) (pcJ := 3) rfl L rfl rfl rfl ?_
  refine j_V.ldL mb3_M mb3_3 rfl (i := 1) (kd := 0) (v := .int x1) (pcJ := 4) rfl L rfl rfl rfl ?_
  refine j_V.one mb3_M mb3_4 (by decide) (pcJ := 5) (stJ := [.int 1, .int x1, .ref 359]) rfl ?_
  refine j_V.cl mb3_M mb3_5 rfl (md := 3) (mj := 178) rfl (by decide) ma3_M (As := [.ref 359, .int x1, .int 1]) (rest := []) (jk_spl3 (K.at rfl) rfl rfl rfl (Nat.le_of_ble_eq_true rfl) (Nat.le_of_ble_eq_true rfl)) (fun d => ma3_ok (K.fi [359, 360] rfl rfl)) ?_
  rintro r hz ⟨rfl, ez⟩
  rw [ez]
  clear ez
  show j_V jP _ 212 8 lv [.int (m_of w x1 1)] h _
  refine j_V.ldL mb3_M mb3_8 rfl (i := 0) (kd := 2) (v := .ref 359) (pcJ := 9) rfl L rfl rfl rfl ?_
  refine j_V.ldL mb3_M mb3_9 rfl (i := 1) (kd := 0) (v := .int x1) (pcJ := 10) rfl L rfl rfl rfl ?_
  refine j_V.one mb3_M mb3_10 (by decide) (pcJ := 11) (stJ := [.int 2, .int x1, .ref 359, .int (m_of w x1 1)]) rfl ?_
  refine j_V.cl mb3_M mb3_11 rfl (md := 3) (mj := 178) rfl (by decide) ma3_M (As := [.ref 359, .int x1, .int 2]) (rest := [.int (m_of w x1 1)]) (jk_spl3 (K.at rfl) rfl rfl rfl (Nat.le_of_ble_eq_true rfl) (Nat.le_of_ble_eq_true rfl)) (fun d => ma3_ok (K.fi [359, 360] rfl rfl)) ?_
  rintro r hz ⟨rfl, ez⟩
  rw [ez]
  clear ez
  show j_V jP _ 212 14 lv [.int (m_of w x1 2), .int (m_of w x1 1)] h _
  refine j_V.mn mb3_M mb3_14 rfl rfl (Nat.le_of_ble_eq_true rfl) ?_
  refine j_V.stL mb3_M mb3_17 rfl (i := 3) (kd := 0) (kl' := [(0, .ref 359), (1, .int x1), (2, .int 0), (3, .int (iMn (m_of w x1 1) (m_of w x1 2)))]) (pcJ := 18) rfl L rfl (by decide) rfl rfl rfl (fun lv L => ?_)
  refine j_V.mono (mb3_ok_l18 _ ((iMn (m_of w x1 1) (m_of w x1 2))) (0) rfl L K) ?_
  rintro r hz ⟨rfl, rfl⟩
  exact ⟨congrArg (fun z => some (Value.int z)) (Eq.symm (show (m_loneOf w x1) = (m_loneOf_l18 w x1 (lpN (iMx (m_of w x1 1) (m_of w x1 2)) ((iMn (m_of w x1 1) (m_of w x1 2)))) ((iMn (m_of w x1 1) (m_of w x1 2))) 0) from rfl)), rfl⟩
set_option maxRecDepth 100000 in
theorem mb4_M : j_meth jP 213 = some (yX10_delayOf, cX10_delayOf, 2, (some .int), 1, false, 10) := rfl
set_option maxRecDepth 100000 in
theorem mb4_0 : j_code jP 213 0 = some (.aload_n 0) := rfl
set_option maxRecDepth 100000 in
theorem mb4_1 : j_code jP 213 1 = some (.iload_n 1) := rfl
set_option maxRecDepth 100000 in
theorem mb4_2 : j_code jP 213 2 = some (.bipush 11) := rfl
set_option maxRecDepth 100000 in
theorem mb4_4 : j_code jP 213 4 = some (.invokevirtual 198) := rfl
set_option maxRecDepth 100000 in
theorem mb4_7 : j_code jP 213 7 = some (.aload_n 0) := rfl
set_option maxRecDepth 100000 in
theorem mb4_8 : j_code jP 213 8 = some (.iload_n 1) := rfl
set_option maxRecDepth 100000 in
theorem mb4_9 : j_code jP 213 9 = some (.iconst 3) := rfl
set_option maxRecDepth 100000 in
theorem mb4_10 : j_code jP 213 10 = some (.invokevirtual 198) := rfl
set_option maxRecDepth 100000 in
theorem mb4_13 : j_code jP 213 13 = some (.isub) := rfl
set_option maxRecDepth 100000 in
theorem mb4_14 : j_code jP 213 14 = some (.aload_n 0) := rfl
set_option maxRecDepth 100000 in
theorem mb4_15 : j_code jP 213 15 = some (.iload_n 1) := rfl
set_option maxRecDepth 100000 in
theorem mb4_16 : j_code jP 213 16 = some (.invokevirtual 225) := rfl
set_option maxRecDepth 100000 in
theorem mb4_19 : j_code jP 213 19 = some (.isub) := rfl
set_option maxRecDepth 100000 in
theorem mb4_20 : j_code jP 213 20 = some (.ireturn) := rfl
def m_delayOf (w : List Int32) (x1 : Int32) : Int32 := (((m_of w x1 11) - (m_of w x1 3)) - (m_loneOf w x1))
set_option maxRecDepth 1000000 in
theorem mb4_ok {u : Nat → Value} {w : List Int32} {x1 : Int32} {d : Nat} {h h0 : J_H} (K : KN h [(359, .inl (10, [(u 0), .ref 360, .ref 361, .ref 362, .ref 363, .ref 364, .ref 365, .ref 366, .ref 367, (u 9), (u 10), (u 11), (u 12), (u 13), (u 14), (u 15), (u 16), (u 17), (u 18), (u 19), (u 20), (u 21), .ref 368, (u 23), .ref 369, .ref 370, .ref 371, (u 27)])), (360, .inr (.inl (0, w)))] h0) : j_V jP d 213 0 (lv_args 0 [.ref 359, .int x1]) [] h (fun rv h' => rv = some (.int (m_delayOf w x1)) ∧ h' = h) := by
  show j_V jP d 213 0 [(0, .ref 359), (1, .int x1)] [] h _
  obtain ⟨lv, elv, L⟩ : ∃ lv, lv = [(0, .ref 359), (1, .int x1)] ∧ LK lv [(0, .ref 359), (1, .int x1)] := ⟨_, rfl, LK.rf⟩
  rw [← elv]
  clear elv
  refine j_V.ldL mb4_M mb4_0 rfl (i := 0) (kd := 2) (v := .ref 359) (pcJ := 1) rfl L rfl rfl rfl ?_
  refine j_V.ldL mb4_M mb4_1 rfl (i := 1) (kd := 0) (v := .int x1) (pcJ := 2) rfl L rfl rfl rfl ?_
  refine j_V.one mb4_M mb4_2 (by decide) (pcJ := 4) (stJ := [.int 11, .int x1, .ref 359]) rfl ?_
  refine j_V.cl mb4_M mb4_4 rfl (md := 3) (mj := 178) rfl (by decide) ma3_M (As := [.ref 359, .int x1, .int 11]) (rest := []) (jk_spl3 (K.at rfl) rfl rfl rfl (Nat.le_of_ble_eq_true rfl) (Nat.le_of_ble_eq_true rfl)) (fun d => ma3_ok (K.fi [359, 360] rfl rfl)) ?_
  rintro r hz ⟨rfl, ez⟩
  rw [ez]
  clear ez
  show j_V jP _ 213 7 lv [.int (m_of w x1 11)] h _
  refine j_V.ldL mb4_M mb4_7 rfl (i := 0) (kd := 2) (v := .ref 359) (pcJ := 8) rfl L rfl rfl rfl ?_
  refine j_V.ldL mb4_M mb4_8 rfl (i := 1) (kd := 0) (v := .int x1) (pcJ := 9) rfl L rfl rfl rfl ?_
  refine j_V.one mb4_M mb4_9 (by decide) (pcJ := 10) (stJ := [.int 3, .int x1, .ref 359, .int (m_of w x1 11)]) rfl ?_
  refine j_V.cl mb4_M mb4_10 rfl (md := 3) (mj := 178) rfl (by decide) ma3_M (As := [.ref 359, .int x1, .int 3]) (rest := [.int (m_of w x1 11)]) (jk_spl3 (K.at rfl) rfl rfl rfl (Nat.le_of_ble_eq_true rfl) (Nat.le_of_ble_eq_true rfl)) (fun d => ma3_ok (K.fi [359, 360] rfl rfl)) ?_
  rintro r hz ⟨rfl, ez⟩
  rw [ez]
  clear ez
  show j_V jP _ 213 13 lv [.int (m_of w x1 3), .int (m_of w x1 11)] h _
  refine j_V.one mb4_M mb4_13 (by decide) (pcJ := 14) (stJ := [.int ((m_of w x1 11) - (m_of w x1 3))]) rfl ?_
  refine j_V.ldL mb4_M mb4_14 rfl (i := 0) (kd := 2) (v := .ref 359) (pcJ := 15) rfl L rfl rfl rfl ?_
  refine j_V.ldL mb4_M mb4_15 rfl (i := 1) (kd := 0) (v := .int x1) (pcJ := 16) rfl L rfl rfl rfl ?_
  refine j_V.cl mb4_M mb4_16 rfl (md := 3) (mj := 212) rfl (by decide) mb3_M (As := [.ref 359, .int x1]) (rest := [.int ((m_of w x1 11) - (m_of w x1 3))]) (jk_spl3 (K.at rfl) rfl rfl rfl (Nat.le_of_ble_eq_true rfl) (Nat.le_of_ble_eq_true rfl)) (fun d => mb3_ok (K.fi [359, 360] rfl rfl)) ?_
  rintro r hz ⟨rfl, ez⟩
  rw [ez]
  clear ez
  show j_V jP _ 213 19 lv [.int (m_loneOf w x1), .int ((m_of w x1 11) - (m_of w x1 3))] h _
  refine j_V.one mb4_M mb4_19 (by decide) (pcJ := 20) (stJ := [.int (((m_of w x1 11) - (m_of w x1 3)) - (m_loneOf w x1))]) rfl ?_
  exact j_V.ri mb4_M mb4_20 ⟨congrArg (fun z => some (Value.int z)) (Eq.symm (show (m_delayOf w x1) = (((m_of w x1 11) - (m_of w x1 3)) - (m_loneOf w x1)) from rfl)), rfl⟩
set_option maxRecDepth 100000 in
theorem mb5_M : j_meth jP 214 = some (yX10_whyNot, cX10_whyNot, 2, (some .int), 1, false, 10) := rfl
set_option maxRecDepth 100000 in
theorem mb5_0 : j_code jP 214 0 = some (.aload_n 0) := rfl
set_option maxRecDepth 100000 in
theorem mb5_1 : j_code jP 214 1 = some (.iload_n 1) := rfl
set_option maxRecDepth 100000 in
theorem mb5_2 : j_code jP 214 2 = some (.bipush 6) := rfl
set_option maxRecDepth 100000 in
theorem mb5_4 : j_code jP 214 4 = some (.invokevirtual 198) := rfl
set_option maxRecDepth 100000 in
theorem mb5_7 : j_code jP 214 7 = some (.iconst 3) := rfl
set_option maxRecDepth 100000 in
theorem mb5_8 : j_code jP 214 8 = some (.if_icmp .ne 5) := rfl
set_option maxRecDepth 100000 in
theorem mb5_11 : j_code jP 214 11 = some (.iconst 1) := rfl
set_option maxRecDepth 100000 in
theorem mb5_12 : j_code jP 214 12 = some (.ireturn) := rfl
set_option maxRecDepth 100000 in
theorem mb5_13 : j_code jP 214 13 = some (.aload_n 0) := rfl
set_option maxRecDepth 100000 in
theorem mb5_14 : j_code jP 214 14 = some (.iload_n 1) := rfl
set_option maxRecDepth 100000 in
theorem mb5_15 : j_code jP 214 15 = some (.bipush 6) := rfl
set_option maxRecDepth 100000 in
theorem mb5_17 : j_code jP 214 17 = some (.invokevirtual 198) := rfl
set_option maxRecDepth 100000 in
theorem mb5_20 : j_code jP 214 20 = some (.iconst 2) := rfl
set_option maxRecDepth 100000 in
theorem mb5_21 : j_code jP 214 21 = some (.if_icmp .ne 5) := rfl
set_option maxRecDepth 100000 in
theorem mb5_24 : j_code jP 214 24 = some (.iconst 2) := rfl
set_option maxRecDepth 100000 in
theorem mb5_25 : j_code jP 214 25 = some (.ireturn) := rfl
set_option maxRecDepth 100000 in
theorem mb5_26 : j_code jP 214 26 = some (.aload_n 0) := rfl
set_option maxRecDepth 100000 in
theorem mb5_27 : j_code jP 214 27 = some (.iload_n 1) := rfl
set_option maxRecDepth 100000 in
theorem mb5_28 : j_code jP 214 28 = some (.bipush 6) := rfl
set_option maxRecDepth 100000 in
theorem mb5_30 : j_code jP 214 30 = some (.invokevirtual 198) := rfl
set_option maxRecDepth 100000 in
theorem mb5_33 : j_code jP 214 33 = some (.ifCond .ne 24) := rfl
set_option maxRecDepth 100000 in
theorem mb5_36 : j_code jP 214 36 = some (.aload_n 0) := rfl
set_option maxRecDepth 100000 in
theorem mb5_37 : j_code jP 214 37 = some (.iload_n 1) := rfl
set_option maxRecDepth 100000 in
theorem mb5_38 : j_code jP 214 38 = some (.aload_n 0) := rfl
set_option maxRecDepth 100000 in
theorem mb5_39 : j_code jP 214 39 = some (.iload_n 1) := rfl
set_option maxRecDepth 100000 in
theorem mb5_40 : j_code jP 214 40 = some (.iconst 1) := rfl
set_option maxRecDepth 100000 in
theorem mb5_41 : j_code jP 214 41 = some (.invokevirtual 198) := rfl
set_option maxRecDepth 100000 in
theorem mb5_44 : j_code jP 214 44 = some (.invokevirtual 228) := rfl
set_option maxRecDepth 100000 in
theorem mb5_47 : j_code jP 214 47 = some (.iconst (-1)) := rfl
set_option maxRecDepth 100000 in
theorem mb5_48 : j_code jP 214 48 = some (.if_icmp .ne 7) := rfl
set_option maxRecDepth 100000 in
theorem mb5_51 : j_code jP 214 51 = some (.iconst 3) := rfl
set_option maxRecDepth 100000 in
theorem mb5_52 : j_code jP 214 52 = some (.goto 4) := rfl
set_option maxRecDepth 100000 in
theorem mb5_55 : j_code jP 214 55 = some (.iconst 0) := rfl
set_option maxRecDepth 100000 in
theorem mb5_56 : j_code jP 214 56 = some (.ireturn) := rfl
set_option maxRecDepth 100000 in
theorem mb5_57 : j_code jP 214 57 = some (.aload_n 0) := rfl
set_option maxRecDepth 100000 in
theorem mb5_58 : j_code jP 214 58 = some (.aload_n 0) := rfl
set_option maxRecDepth 100000 in
theorem mb5_59 : j_code jP 214 59 = some (.iload_n 1) := rfl
set_option maxRecDepth 100000 in
theorem mb5_60 : j_code jP 214 60 = some (.invokevirtual 216) := rfl
set_option maxRecDepth 100000 in
theorem mb5_63 : j_code jP 214 63 = some (.invokevirtual 231) := rfl
set_option maxRecDepth 100000 in
theorem mb5_66 : j_code jP 214 66 = some (.iconst (-1)) := rfl
set_option maxRecDepth 100000 in
theorem mb5_67 : j_code jP 214 67 = some (.if_icmp .eq 5) := rfl
set_option maxRecDepth 100000 in
theorem mb5_70 : j_code jP 214 70 = some (.iconst 4) := rfl
set_option maxRecDepth 100000 in
theorem mb5_71 : j_code jP 214 71 = some (.ireturn) := rfl
set_option maxRecDepth 100000 in
theorem mb5_72 : j_code jP 214 72 = some (.aload_n 0) := rfl
set_option maxRecDepth 100000 in
theorem mb5_73 : j_code jP 214 73 = some (.iload_n 1) := rfl
set_option maxRecDepth 100000 in
theorem mb5_74 : j_code jP 214 74 = some (.invokevirtual 204) := rfl
set_option maxRecDepth 100000 in
theorem mb5_77 : j_code jP 214 77 = some (.aload_n 0) := rfl
set_option maxRecDepth 100000 in
theorem mb5_78 : j_code jP 214 78 = some (.iload_n 1) := rfl
set_option maxRecDepth 100000 in
theorem mb5_79 : j_code jP 214 79 = some (.iconst 2) := rfl
set_option maxRecDepth 100000 in
theorem mb5_80 : j_code jP 214 80 = some (.invokevirtual 198) := rfl
set_option maxRecDepth 100000 in
theorem mb5_83 : j_code jP 214 83 = some (.if_icmp .eq 21) := rfl
set_option maxRecDepth 100000 in
theorem mb5_86 : j_code jP 214 86 = some (.aload_n 0) := rfl
set_option maxRecDepth 100000 in
theorem mb5_87 : j_code jP 214 87 = some (.iload_n 1) := rfl
set_option maxRecDepth 100000 in
theorem mb5_88 : j_code jP 214 88 = some (.aload_n 0) := rfl
set_option maxRecDepth 100000 in
theorem mb5_89 : j_code jP 214 89 = some (.iload_n 1) := rfl
set_option maxRecDepth 100000 in
theorem mb5_90 : j_code jP 214 90 = some (.invokevirtual 204) := rfl
set_option maxRecDepth 100000 in
theorem mb5_93 : j_code jP 214 93 = some (.invokevirtual 228) := rfl
set_option maxRecDepth 100000 in
theorem mb5_96 : j_code jP 214 96 = some (.iconst (-1)) := rfl
set_option maxRecDepth 100000 in
theorem mb5_97 : j_code jP 214 97 = some (.if_icmp .ne 7) := rfl
set_option maxRecDepth 100000 in
theorem mb5_100 : j_code jP 214 100 = some (.iconst 3) := rfl
set_option maxRecDepth 100000 in
theorem mb5_101 : j_code jP 214 101 = some (.goto 4) := rfl
set_option maxRecDepth 100000 in
theorem mb5_104 : j_code jP 214 104 = some (.iconst 0) := rfl
set_option maxRecDepth 100000 in
theorem mb5_105 : j_code jP 214 105 = some (.ireturn) := rfl
def m_whyNot (w : List Int32) (x1 : Int32) : Int32 := (if (m_of w x1 6) = 3 then 1 else (if (m_of w x1 6) = 2 then 2 else (if (m_of w x1 6) = 0 then ((if (m_trackFor w x1 (m_of w x1 1)) = (-1) then 3 else 0) : Int32) else (if (m_whoOn w (m_sectionOf w x1)) = (-1) then ((if (m_next w x1) = (m_of w x1 2) then 0 else (if (m_trackFor w x1 (m_next w x1)) = (-1) then 3 else 0)) : Int32) else 4))))
set_option maxRecDepth 1000000 in
theorem mb5_ok {u : Nat → Value} {w : List Int32} {x1 : Int32} {d : Nat} {h h0 : J_H} (K : KN h [(359, .inl (10, [(u 0), .ref 360, .ref 361, .ref 362, .ref 363, .ref 364, .ref 365, .ref 366, .ref 367, (u 9), (u 10), (u 11), (u 12), (u 13), (u 14), (u 15), (u 16), (u 17), (u 18), (u 19), (u 20), (u 21), .ref 368, (u 23), .ref 369, .ref 370, .ref 371, (u 27)])), (360, .inr (.inl (0, w)))] h0) : j_V jP d 214 0 (lv_args 0 [.ref 359, .int x1]) [] h (fun rv h' => rv = some (.int (m_whyNot w x1)) ∧ h' = h) := by
  show j_V jP d 214 0 [(0, .ref 359), (1, .int x1)] [] h _
  obtain ⟨lv, elv, L⟩ : ∃ lv, lv = [(0, .ref 359), (1, .int x1)] ∧ LK lv [(0, .ref 359), (1, .int x1)] := ⟨_, rfl, LK.rf⟩
  rw [← elv]
  clear elv
  refine j_V.ldL mb5_M mb5_0 rfl (i := 0) (kd := 2) (v := .ref 359) (pcJ := 1) rfl L rfl rfl rfl ?_
  refine j_V.ldL mb5_M mb5_1 rfl (i := 1) (kd := 0) (v := .int x1) (pcJ := 2) rfl L rfl rfl rfl ?_
  refine j_V.one mb5_M mb5_2 (by decide) (pcJ := 4) (stJ := [.int 6, .int x1, .ref 359]) rfl ?_
  refine j_V.cl mb5_M mb5_4 rfl (md := 3) (mj := 178) rfl (by decide) ma3_M (As := [.ref 359, .int x1, .int 6]) (rest := []) (jk_spl3 (K.at rfl) rfl rfl rfl (Nat.le_of_ble_eq_true rfl) (Nat.le_of_ble_eq_true rfl)) (fun d => ma3_ok (K.fi [359, 360] rfl rfl)) ?_
  rintro r hz ⟨rfl, ez⟩
  rw [ez]
  clear ez
  show j_V jP _ 214 7 lv [.int (m_of w x1 6)] h _
  refine j_V.one mb5_M mb5_7 (by decide) (pcJ := 8) (stJ := [.int 3, .int (m_of w x1 6)]) rfl ?_
  refine j_V.icmp mb5_M mb5_8 (t := 13) rfl (fun c8_0 => ?_) (fun c8_0 => ?_)
  · replace c8_0 : ¬ ((m_of w x1 6) = 3) := jd_ne c8_0
    refine j_V.ldL mb5_M mb5_13 rfl (i := 0) (kd := 2) (v := .ref 359) (pcJ := 14) rfl L rfl rfl rfl ?_
    refine j_V.ldL mb5_M mb5_14 rfl (i := 1) (kd := 0) (v := .int x1) (pcJ := 15) rfl L rfl rfl rfl ?_
    refine j_V.one mb5_M mb5_15 (by decide) (pcJ := 17) (stJ := [.int 6, .int x1, .ref 359]) rfl ?_
    refine j_V.cl mb5_M mb5_17 rfl (md := 3) (mj := 178) rfl (by decide) ma3_M (As := [.ref 359, .int x1, .int 6]) (rest := []) (jk_spl3 (K.at rfl) rfl rfl rfl (Nat.le_of_ble_eq_true rfl) (Nat.le_of_ble_eq_true rfl)) (fun d => ma3_ok (K.fi [359, 360] rfl rfl)) ?_
    rintro r hz ⟨rfl, ez⟩
    rw [ez]
    clear ez
    show j_V jP _ 214 20 lv [.int (m_of w x1 6)] h _
    refine j_V.one mb5_M mb5_20 (by decide) (pcJ := 21) (stJ := [.int 2, .int (m_of w x1 6)]) rfl ?_
    refine j_V.icmp mb5_M mb5_21 (t := 26) rfl (fun c21_1 => ?_) (fun c21_1 => ?_)
    · replace c21_1 : ¬ ((m_of w x1 6) = 2) := jd_ne c21_1
      refine j_V.ldL mb5_M mb5_26 rfl (i := 0) (kd := 2) (v := .ref 359) (pcJ := 27) rfl L rfl rfl rfl ?_
      refine j_V.ldL mb5_M mb5_27 rfl (i := 1) (kd := 0) (v := .int x1) (pcJ := 28) rfl L rfl rfl rfl ?_
      refine j_V.one mb5_M mb5_28 (by decide) (pcJ := 30) (stJ := [.int 6, .int x1, .ref 359]) rfl ?_
      refine j_V.cl mb5_M mb5_30 rfl (md := 3) (mj := 178) rfl (by decide) ma3_M (As := [.ref 359, .int x1, .int 6]) (rest := []) (jk_spl3 (K.at rfl) rfl rfl rfl (Nat.le_of_ble_eq_true rfl) (Nat.le_of_ble_eq_true rfl)) (fun d => ma3_ok (K.fi [359, 360] rfl rfl)) ?_
      rintro r hz ⟨rfl, ez⟩
      rw [ez]
      clear ez
      show j_V jP _ 214 33 lv [.int (m_of w x1 6)] h _
      refine j_V.ifc mb5_M mb5_33 (t := 57) rfl (fun c33_2 => ?_) (fun c33_2 => ?_)
      · replace c33_2 : ¬ ((m_of w x1 6) = 0) := jd_ne c33_2
        refine j_V.ldL mb5_M mb5_57 rfl (i := 0) (kd := 2) (v := .ref 359) (pcJ := 58) rfl L rfl rfl rfl ?_
        refine j_V.ldL mb5_M mb5_58 rfl (i := 0) (kd := 2) (v := .ref 359) (pcJ := 59) rfl L rfl rfl rfl ?_
        refine j_V.ldL mb5_M mb5_59 rfl (i := 1) (kd := 0) (v := .int x1) (pcJ := 60) rfl L rfl rfl rfl ?_
        refine j_V.cl mb5_M mb5_60 rfl (md := 3) (mj := 209) rfl (by decide) mb0_M (As := [.ref 359, .int x1]) (rest := [.ref 359]) (jk_spl3 (K.at rfl) rfl rfl rfl (Nat.le_of_ble_eq_true rfl) (Nat.le_of_ble_eq_true rfl)) (fun d => mb0_ok (K.fi [359, 360] rfl rfl)) ?_
        rintro r hz ⟨rfl, ez⟩
        rw [ez]
        clear ez
        show j_V jP _ 214 63 lv [.int (m_sectionOf w x1), .ref 359] h _
        refine j_V.cl mb5_M mb5_63 rfl (md := 3) (mj := 210) rfl (by decide) mb1_M (As := [.ref 359, .int (m_sectionOf w x1)]) (rest := []) (jk_spl3 (K.at rfl) rfl rfl rfl (Nat.le_of_ble_eq_true rfl) (Nat.le_of_ble_eq_true rfl)) (fun d => mb1_ok (K.fi [359, 360] rfl rfl)) ?_
        rintro r hz ⟨rfl, ez⟩
        rw [ez]
        clear ez
        show j_V jP _ 214 66 lv [.int (m_whoOn w (m_sectionOf w x1))] h _
        refine j_V.one mb5_M mb5_66 (by decide) (pcJ := 67) (stJ := [.int (-1), .int (m_whoOn w (m_sectionOf w x1))]) rfl ?_
        refine j_V.icmp mb5_M mb5_67 (t := 72) rfl (fun c67_3 => ?_) (fun c67_3 => ?_)
        · replace c67_3 : (m_whoOn w (m_sectionOf w x1)) = (-1) := jd_eq c67_3
          refine j_V.ldL mb5_M mb5_72 rfl (i := 0) (kd := 2) (v := .ref 359) (pcJ := 73) rfl L rfl rfl rfl ?_
          refine j_V.ldL mb5_M mb5_73 rfl (i := 1) (kd := 0) (v := .int x1) (pcJ := 74) rfl L rfl rfl rfl ?_
          refine j_V.cl mb5_M mb5_74 rfl (md := 3) (mj := 204) rfl (by decide) ma5_M (As := [.ref 359, .int x1]) (rest := []) (jk_spl3 (K.at rfl) rfl rfl rfl (Nat.le_of_ble_eq_true rfl) (Nat.le_of_ble_eq_true rfl)) (fun d => ma5_ok (K.fi [359, 360] rfl rfl)) ?_
          rintro r hz ⟨rfl, ez⟩
          rw [ez]
          clear ez
          show j_V jP _ 214 77 lv [.int (m_next w x1)] h _
          refine j_V.ldL mb5_M mb5_77 rfl (i := 0) (kd := 2) (v := .ref 359) (pcJ := 78) rfl L rfl rfl rfl ?_
          refine j_V.ldL mb5_M mb5_78 rfl (i := 1) (kd := 0) (v := .int x1) (pcJ := 79) rfl L rfl rfl rfl ?_
          refine j_V.one mb5_M mb5_79 (by decide) (pcJ := 80) (stJ := [.int 2, .int x1, .ref 359, .int (m_next w x1)]) rfl ?_
          refine j_V.cl mb5_M mb5_80 rfl (md := 3) (mj := 178) rfl (by decide) ma3_M (As := [.ref 359, .int x1, .int 2]) (rest := [.int (m_next w x1)]) (jk_spl3 (K.at rfl) rfl rfl rfl (Nat.le_of_ble_eq_true rfl) (Nat.le_of_ble_eq_true rfl)) (fun d => ma3_ok (K.fi [359, 360] rfl rfl)) ?_
          rintro r hz ⟨rfl, ez⟩
          rw [ez]
          clear ez
          show j_V jP _ 214 83 lv [.int (m_of w x1 2), .int (m_next w x1)] h _
          refine j_V.cut (b := 105) (stJ := [.int ((if (m_next w x1) = (m_of w x1 2) then 0 else (if (m_trackFor w x1 (m_next w x1)) = (-1) then 3 else 0)) : Int32)]) (fun v => [(0, .ref 359), (1, .int x1)]) ((if (m_next w x1) = (m_of w x1 2) then 0 else (if (m_trackFor w x1 (m_next w x1)) = (-1) then 3 else 0)) : Int32) (fun Q kk => ?_) (fun lv L => ?_)
          · refine j_V.icmp mb5_M mb5_83 (t := 104) rfl (fun c83_0 => ?_) (fun c83_0 => ?_)
            · replace c83_0 : (m_next w x1) = (m_of w x1 2) := jd_eq c83_0
              refine j_V.one mb5_M mb5_104 (by decide) (pcJ := 105) (stJ := [.int 0]) rfl ?_
              exact Eq.subst (motive := fun z => j_V jP _ 214 105 _ (.int z :: []) h Q) (show ((if (m_next w x1) = (m_of w x1 2) then 0 else (if (m_trackFor w x1 (m_next w x1)) = (-1) then 3 else 0)) : Int32) = 0 from (if_pos c83_0).trans (rfl)) (kk _ L)
            · replace c83_0 : ¬ ((m_next w x1) = (m_of w x1 2)) := jd_eqn c83_0
              refine j_V.ldL mb5_M mb5_86 rfl (i := 0) (kd := 2) (v := .ref 359) (pcJ := 87) rfl L rfl rfl rfl ?_
              refine j_V.ldL mb5_M mb5_87 rfl (i := 1) (kd := 0) (v := .int x1) (pcJ := 88) rfl L rfl rfl rfl ?_
              refine j_V.ldL mb5_M mb5_88 rfl (i := 0) (kd := 2) (v := .ref 359) (pcJ := 89) rfl L rfl rfl rfl ?_
              refine j_V.ldL mb5_M mb5_89 rfl (i := 1) (kd := 0) (v := .int x1) (pcJ := 90) rfl L rfl rfl rfl ?_
              refine j_V.cl mb5_M mb5_90 rfl (md := 3) (mj := 204) rfl (by decide) ma5_M (As := [.ref 359, .int x1]) (rest := [.int x1, .ref 359]) (jk_spl3 (K.at rfl) rfl rfl rfl (Nat.le_of_ble_eq_true rfl) (Nat.le_of_ble_eq_true rfl)) (fun d => ma5_ok (K.fi [359, 360] rfl rfl)) ?_
              rintro r hz ⟨rfl, ez⟩
              rw [ez]
              clear ez
              show j_V jP _ 214 93 lv [.int (m_next w x1), .int x1, .ref 359] h _
              refine j_V.cl mb5_M mb5_93 rfl (md := 3) (mj := 208) rfl (by decide) ma9_M (As := [.ref 359, .int x1, .int (m_next w x1)]) (rest := []) (jk_spl3 (K.at rfl) rfl rfl rfl (Nat.le_of_ble_eq_true rfl) (Nat.le_of_ble_eq_true rfl)) (fun d => ma9_ok (K.fi [359, 360] rfl rfl)) ?_
              rintro r hz ⟨rfl, ez⟩
              rw [ez]
              clear ez
              show j_V jP _ 214 96 lv [.int (m_trackFor w x1 (m_next w x1))] h _
              refine j_V.one mb5_M mb5_96 (by decide) (pcJ := 97) (stJ := [.int (-1), .int (m_trackFor w x1 (m_next w x1))]) rfl ?_
              refine j_V.icmp mb5_M mb5_97 (t := 104) rfl (fun c97_1 => ?_) (fun c97_1 => ?_)
              · replace c97_1 : ¬ ((m_trackFor w x1 (m_next w x1)) = (-1)) := jd_ne c97_1
                refine j_V.one mb5_M mb5_104 (by decide) (pcJ := 105) (stJ := [.int 0]) rfl ?_
                exact Eq.subst (motive := fun z => j_V jP _ 214 105 _ (.int z :: []) h Q) (show ((if (m_next w x1) = (m_of w x1 2) then 0 else (if (m_trackFor w x1 (m_next w x1)) = (-1) then 3 else 0)) : Int32) = 0 from (if_neg c83_0).trans ((if_neg c97_1).trans (rfl))) (kk _ L)
              · replace c97_1 : (m_trackFor w x1 (m_next w x1)) = (-1) := jd_nen c97_1
                refine j_V.one mb5_M mb5_100 (by decide) (pcJ := 101) (stJ := [.int 3]) rfl ?_
                refine j_V.gto mb5_M mb5_101 (t := 105) rfl ?_
                exact Eq.subst (motive := fun z => j_V jP _ 214 105 _ (.int z :: []) h Q) (show ((if (m_next w x1) = (m_of w x1 2) then 0 else (if (m_trackFor w x1 (m_next w x1)) = (-1) then 3 else 0)) : Int32) = 3 from (if_neg c83_0).trans ((if_pos c97_1).trans (rfl))) (kk _ L)
          exact j_V.ri mb5_M mb5_105 ⟨congrArg (fun z => some (Value.int z)) (Eq.symm (show (m_whyNot w x1) = ((if (m_next w x1) = (m_of w x1 2) then 0 else (if (m_trackFor w x1 (m_next w x1)) = (-1) then 3 else 0)) : Int32) from (if_neg c8_0).trans ((if_neg c21_1).trans ((if_neg c33_2).trans ((if_pos c67_3).trans (rfl)))))), rfl⟩
        · replace c67_3 : ¬ ((m_whoOn w (m_sectionOf w x1)) = (-1)) := jd_eqn c67_3
          refine j_V.one mb5_M mb5_70 (by decide) (pcJ := 71) (stJ := [.int 4]) rfl ?_
          exact j_V.ri mb5_M mb5_71 ⟨congrArg (fun z => some (Value.int z)) (Eq.symm (show (m_whyNot w x1) = 4 from (if_neg c8_0).trans ((if_neg c21_1).trans ((if_neg c33_2).trans ((if_neg c67_3).trans (rfl)))))), rfl⟩
      · replace c33_2 : (m_of w x1 6) = 0 := jd_nen c33_2
        refine j_V.ldL mb5_M mb5_36 rfl (i := 0) (kd := 2) (v := .ref 359) (pcJ := 37) rfl L rfl rfl rfl ?_
        refine j_V.ldL mb5_M mb5_37 rfl (i := 1) (kd := 0) (v := .int x1) (pcJ := 38) rfl L rfl rfl rfl ?_
        refine j_V.ldL mb5_M mb5_38 rfl (i := 0) (kd := 2) (v := .ref 359) (pcJ := 39) rfl L rfl rfl rfl ?_
        refine j_V.ldL mb5_M mb5_39 rfl (i := 1) (kd := 0) (v := .int x1) (pcJ := 40) rfl L rfl rfl rfl ?_
        refine j_V.one mb5_M mb5_40 (by decide) (pcJ := 41) (stJ := [.int 1, .int x1, .ref 359, .int x1, .ref 359]) rfl ?_
        refine j_V.cl mb5_M mb5_41 rfl (md := 3) (mj := 178) rfl (by decide) ma3_M (As := [.ref 359, .int x1, .int 1]) (rest := [.int x1, .ref 359]) (jk_spl3 (K.at rfl) rfl rfl rfl (Nat.le_of_ble_eq_true rfl) (Nat.le_of_ble_eq_true rfl)) (fun d => ma3_ok (K.fi [359, 360] rfl rfl)) ?_
        rintro r hz ⟨rfl, ez⟩
        rw [ez]
        clear ez
        show j_V jP _ 214 44 lv [.int (m_of w x1 1), .int x1, .ref 359] h _
        refine j_V.cl mb5_M mb5_44 rfl (md := 3) (mj := 208) rfl (by decide) ma9_M (As := [.ref 359, .int x1, .int (m_of w x1 1)]) (rest := []) (jk_spl3 (K.at rfl) rfl rfl rfl (Nat.le_of_ble_eq_true rfl) (Nat.le_of_ble_eq_true rfl)) (fun d => ma9_ok (K.fi [359, 360] rfl rfl)) ?_
        rintro r hz ⟨rfl, ez⟩
        rw [ez]
        clear ez
        show j_V jP _ 214 47 lv [.int (m_trackFor w x1 (m_of w x1 1))] h _
        refine j_V.one mb5_M mb5_47 (by decide) (pcJ := 48) (stJ := [.int (-1), .int (m_trackFor w x1 (m_of w x1 1))]) rfl ?_
        refine j_V.cut (b := 56) (stJ := [.int ((if (m_trackFor w x1 (m_of w x1 1)) = (-1) then 3 else 0) : Int32)]) (fun v => [(0, .ref 359), (1, .int x1)]) ((if (m_trackFor w x1 (m_of w x1 1)) = (-1) then 3 else 0) : Int32) (fun Q kk => ?_) (fun lv L => ?_)
        · refine j_V.icmp mb5_M mb5_48 (t := 55) rfl (fun c48_0 => ?_) (fun c48_0 => ?_)
          · replace c48_0 : ¬ ((m_trackFor w x1 (m_of w x1 1)) = (-1)) := jd_ne c48_0
            refine j_V.one mb5_M mb5_55 (by decide) (pcJ := 56) (stJ := [.int 0]) rfl ?_
            exact Eq.subst (motive := fun z => j_V jP _ 214 56 _ (.int z :: []) h Q) (show ((if (m_trackFor w x1 (m_of w x1 1)) = (-1) then 3 else 0) : Int32) = 0 from (if_neg c48_0).trans (rfl)) (kk _ L)
          · replace c48_0 : (m_trackFor w x1 (m_of w x1 1)) = (-1) := jd_nen c48_0
            refine j_V.one mb5_M mb5_51 (by decide) (pcJ := 52) (stJ := [.int 3]) rfl ?_
            refine j_V.gto mb5_M mb5_52 (t := 56) rfl ?_
            exact Eq.subst (motive := fun z => j_V jP _ 214 56 _ (.int z :: []) h Q) (show ((if (m_trackFor w x1 (m_of w x1 1)) = (-1) then 3 else 0) : Int32) = 3 from (if_pos c48_0).trans (rfl)) (kk _ L)
        exact j_V.ri mb5_M mb5_56 ⟨congrArg (fun z => some (Value.int z)) (Eq.symm (show (m_whyNot w x1) = ((if (m_trackFor w x1 (m_of w x1 1)) = (-1) then 3 else 0) : Int32) from (if_neg c8_0).trans ((if_neg c21_1).trans ((if_pos c33_2).trans (rfl))))), rfl⟩
    · replace c21_1 : (m_of w x1 6) = 2 := jd_nen c21_1
      refine j_V.one mb5_M mb5_24 (by decide) (pcJ := 25) (stJ := [.int 2]) rfl ?_
      exact j_V.ri mb5_M mb5_25 ⟨congrArg (fun z => some (Value.int z)) (Eq.symm (show (m_whyNot w x1) = 2 from (if_neg c8_0).trans ((if_pos c21_1).trans (rfl)))), rfl⟩
  · replace c8_0 : (m_of w x1 6) = 3 := jd_nen c8_0
    refine j_V.one mb5_M mb5_11 (by decide) (pcJ := 12) (stJ := [.int 1]) rfl ?_
    exact j_V.ri mb5_M mb5_12 ⟨congrArg (fun z => some (Value.int z)) (Eq.symm (show (m_whyNot w x1) = 1 from (if_pos c8_0).trans (rfl))), rfl⟩
set_option maxRecDepth 100000 in
theorem mb6_M : j_meth jP 218 = some (yX10_hasRoom, cX10_hasRoom, 6, (some .boolean), 3, false, 10) := rfl
set_option maxRecDepth 100000 in
theorem mb6_0 : j_code jP 218 0 = some (.iconst 0) := rfl
set_option maxRecDepth 100000 in
theorem mb6_1 : j_code jP 218 1 = some (.istore 4) := rfl
set_option maxRecDepth 100000 in
theorem mb6_3 : j_code jP 218 3 = some (.iload 4) := rfl
set_option maxRecDepth 100000 in
theorem mb6_5 : j_code jP 218 5 = some (.aload_n 0) := rfl
set_option maxRecDepth 100000 in
theorem mb6_6 : j_code jP 218 6 = some (.iload_n 2) := rfl
set_option maxRecDepth 100000 in
theorem mb6_7 : j_code jP 218 7 = some (.iconst 1) := rfl
set_option maxRecDepth 100000 in
theorem mb6_8 : j_code jP 218 8 = some (.invokevirtual 69) := rfl
set_option maxRecDepth 100000 in
theorem mb6_11 : j_code jP 218 11 = some (.if_icmp .ge 65) := rfl
set_option maxRecDepth 100000 in
theorem mb6_14 : j_code jP 218 14 = some (.aload_n 0) := rfl
set_option maxRecDepth 100000 in
theorem mb6_15 : j_code jP 218 15 = some (.iload_n 2) := rfl
set_option maxRecDepth 100000 in
theorem mb6_16 : j_code jP 218 16 = some (.iload 4) := rfl
set_option maxRecDepth 100000 in
theorem mb6_18 : j_code jP 218 18 = some (.invokevirtual 210) := rfl
set_option maxRecDepth 100000 in
theorem mb6_21 : j_code jP 218 21 = some (.istore 5) := rfl
set_option maxRecDepth 100000 in
theorem mb6_23 : j_code jP 218 23 = some (.aload_n 0) := rfl
set_option maxRecDepth 100000 in
theorem mb6_24 : j_code jP 218 24 = some (.iload_n 2) := rfl
set_option maxRecDepth 100000 in
theorem mb6_25 : j_code jP 218 25 = some (.iconst 5) := rfl
set_option maxRecDepth 100000 in
theorem mb6_26 : j_code jP 218 26 = some (.iload 4) := rfl
set_option maxRecDepth 100000 in
theorem mb6_28 : j_code jP 218 28 = some (.iadd) := rfl
set_option maxRecDepth 100000 in
theorem mb6_29 : j_code jP 218 29 = some (.invokevirtual 69) := rfl
set_option maxRecDepth 100000 in
theorem mb6_32 : j_code jP 218 32 = some (.ifCond .ne 38) := rfl
set_option maxRecDepth 100000 in
theorem mb6_35 : j_code jP 218 35 = some (.aload_n 0) := rfl
set_option maxRecDepth 100000 in
theorem mb6_36 : j_code jP 218 36 = some (.iload_n 2) := rfl
set_option maxRecDepth 100000 in
theorem mb6_37 : j_code jP 218 37 = some (.iconst 2) := rfl
set_option maxRecDepth 100000 in
theorem mb6_38 : j_code jP 218 38 = some (.iload 4) := rfl
set_option maxRecDepth 100000 in
theorem mb6_40 : j_code jP 218 40 = some (.iadd) := rfl
set_option maxRecDepth 100000 in
theorem mb6_41 : j_code jP 218 41 = some (.invokevirtual 69) := rfl
set_option maxRecDepth 100000 in
theorem mb6_44 : j_code jP 218 44 = some (.aload_n 0) := rfl
set_option maxRecDepth 100000 in
theorem mb6_45 : j_code jP 218 45 = some (.iload_n 1) := rfl
set_option maxRecDepth 100000 in
theorem mb6_46 : j_code jP 218 46 = some (.iconst 0) := rfl
set_option maxRecDepth 100000 in
theorem mb6_47 : j_code jP 218 47 = some (.invokevirtual 198) := rfl
set_option maxRecDepth 100000 in
theorem mb6_50 : j_code jP 218 50 = some (.if_icmp .lt 20) := rfl
set_option maxRecDepth 100000 in
theorem mb6_53 : j_code jP 218 53 = some (.iload 5) := rfl
set_option maxRecDepth 100000 in
theorem mb6_55 : j_code jP 218 55 = some (.iconst (-1)) := rfl
set_option maxRecDepth 100000 in
theorem mb6_56 : j_code jP 218 56 = some (.if_icmp .eq 12) := rfl
set_option maxRecDepth 100000 in
theorem mb6_59 : j_code jP 218 59 = some (.iload_n 3) := rfl
set_option maxRecDepth 100000 in
theorem mb6_60 : j_code jP 218 60 = some (.iload 5) := rfl
set_option maxRecDepth 100000 in
theorem mb6_62 : j_code jP 218 62 = some (.ishr) := rfl
set_option maxRecDepth 100000 in
theorem mb6_63 : j_code jP 218 63 = some (.iconst 1) := rfl
set_option maxRecDepth 100000 in
theorem mb6_64 : j_code jP 218 64 = some (.iand) := rfl
set_option maxRecDepth 100000 in
theorem mb6_65 : j_code jP 218 65 = some (.ifCond .ne 5) := rfl
set_option maxRecDepth 100000 in
theorem mb6_68 : j_code jP 218 68 = some (.iconst 1) := rfl
set_option maxRecDepth 100000 in
theorem mb6_69 : j_code jP 218 69 = some (.ireturn) := rfl
set_option maxRecDepth 100000 in
theorem mb6_70 : j_code jP 218 70 = some (.iinc 4 1) := rfl
set_option maxRecDepth 100000 in
theorem mb6_73 : j_code jP 218 73 = some (.goto (-70)) := rfl
set_option maxRecDepth 100000 in
theorem mb6_76 : j_code jP 218 76 = some (.iconst 0) := rfl
set_option maxRecDepth 100000 in
theorem mb6_77 : j_code jP 218 77 = some (.ireturn) := rfl
def m_hasRoom_l3 (w : List Int32) (v1 : Int32) (v2 : Int32) (v3 : Int32) : Nat → Int32 → Int32
  | 0, v4 => 0
  | f + 1, v4 => (if (m_st w v2 (5 + v4)) = 0 then (if (m_st w v2 (2 + v4)) < (m_of w v1 0) then (m_hasRoom_l3 w v1 v2 v3 f ((v4 + 1))) else (if (m_whoAt w v2 v4) = (-1) then 1 else (if ((v3 >>> ((m_whoAt w v2 v4) &&& 31)) &&& 1) = 0 then 1 else (m_hasRoom_l3 w v1 v2 v3 f ((v4 + 1)))))) else (m_hasRoom_l3 w v1 v2 v3 f ((v4 + 1))))
set_option maxRecDepth 1000000 in
theorem mb6_ok_l3 {u : Nat → Value} {w : List Int32} {v1 v2 v3 : Int32} {d : Nat} {h h0 : J_H} : ∀ (f : Nat) (v4 : Int32) {lv : J_L}, lpN (m_st w v2 1) v4 = f → LK lv [(0, .ref 359), (1, .int v1), (2, .int v2), (3, .int v3), (4, .int v4)] → KN h [(359, .inl (10, [(u 0), .ref 360, .ref 361, .ref 362, .ref 363, .ref 364, .ref 365, .ref 366, .ref 367, (u 9), (u 10), (u 11), (u 12), (u 13), (u 14), (u 15), (u 16), (u 17), (u 18), (u 19), (u 20), (u 21), .ref 368, (u 23), .ref 369, .ref 370, .ref 371, (u 27)])), (360, .inr (.inl (0, w)))] h0 → j_V jP d 218 3 lv [] h (fun rv h' => rv = some (.int (m_hasRoom_l3 w v1 v2 v3 f v4)) ∧ h' = h) := by
  intro f
  induction f with
  | zero =>
    intro v4 lv e L K
    refine j_V.ldL mb6_M mb6_3 rfl (i := 4) (kd := 0) (v := .int v4) (pcJ := 5) rfl L rfl rfl rfl ?_
    refine j_V.ldL mb6_M mb6_5 rfl (i := 0) (kd := 2) (v := .ref 359) (pcJ := 6) rfl L rfl rfl rfl ?_
    refine j_V.ldL mb6_M mb6_6 rfl (i := 2) (kd := 0) (v := .int v2) (pcJ := 7) rfl L rfl rfl rfl ?_
    refine j_V.one mb6_M mb6_7 (by decide) (pcJ := 8) (stJ := [.int 1, .int v2, .ref 359, .int v4]) rfl ?_
    refine j_V.cl mb6_M mb6_8 rfl (md := 3) (mj := 176) rfl (by decide) ma1_M (As := [.ref 359, .int v2, .int 1]) (rest := [.int v4]) (jk_spl3 (K.at rfl) rfl rfl rfl (Nat.le_of_ble_eq_true rfl) (Nat.le_of_ble_eq_true rfl)) (fun d => ma1_ok (K.fi [359, 360] rfl rfl)) ?_
    rintro r hz ⟨rfl, ez⟩
    rw [ez]
    clear ez
    show j_V jP _ 218 11 lv [.int (m_st w v2 1), .int v4] h _
    refine j_V.icmp mb6_M mb6_11 (t := 76) rfl (fun c11_0 => ?_) (fun c11_0 => ?_)
    · replace c11_0 : ¬ (v4 < (m_st w v2 1)) := jd_ge c11_0
      refine j_V.one mb6_M mb6_76 (by decide) (pcJ := 77) (stJ := [.int 0]) rfl ?_
      exact j_V.ri mb6_M mb6_77 ⟨congrArg (fun z => some (Value.int z)) (Eq.symm (show (m_hasRoom_l3 w v1 v2 v3 0 v4) = 0 from rfl)), rfl⟩
    · replace c11_0 : v4 < (m_st w v2 1) := jd_gen c11_0
      exact absurd c11_0 (lpN_z e)
  | succ f ih =>
    intro v4 lv e L K
    refine j_V.ldL mb6_M mb6_3 rfl (i := 4) (kd := 0) (v := .int v4) (pcJ := 5) rfl L rfl rfl rfl ?_
    refine j_V.ldL mb6_M mb6_5 rfl (i := 0) (kd := 2) (v := .ref 359) (pcJ := 6) rfl L rfl rfl rfl ?_
    refine j_V.ldL mb6_M mb6_6 rfl (i := 2) (kd := 0) (v := .int v2) (pcJ := 7) rfl L rfl rfl rfl ?_
    refine j_V.one mb6_M mb6_7 (by decide) (pcJ := 8) (stJ := [.int 1, .int v2, .ref 359, .int v4]) rfl ?_
    refine j_V.cl mb6_M mb6_8 rfl (md := 3) (mj := 176) rfl (by decide) ma1_M (As := [.ref 359, .int v2, .int 1]) (rest := [.int v4]) (jk_spl3 (K.at rfl) rfl rfl rfl (Nat.le_of_ble_eq_true rfl) (Nat.le_of_ble_eq_true rfl)) (fun d => ma1_ok (K.fi [359, 360] rfl rfl)) ?_
    rintro r hz ⟨rfl, ez⟩
    rw [ez]
    clear ez
    show j_V jP _ 218 11 lv [.int (m_st w v2 1), .int v4] h _
    refine j_V.icmp mb6_M mb6_11 (t := 76) rfl (fun c11_0 => ?_) (fun c11_0 => ?_)
    · replace c11_0 : ¬ (v4 < (m_st w v2 1)) := jd_ge c11_0
      exact absurd (lpN_s e) c11_0
    · replace c11_0 : v4 < (m_st w v2 1) := jd_gen c11_0
      refine j_V.ldL mb6_M mb6_14 rfl (i := 0) (kd := 2) (v := .ref 359) (pcJ := 15) rfl L rfl rfl rfl ?_
      refine j_V.ldL mb6_M mb6_15 rfl (i := 2) (kd := 0) (v := .int v2) (pcJ := 16) rfl L rfl rfl rfl ?_
      refine j_V.ldL mb6_M mb6_16 rfl (i := 4) (kd := 0) (v := .int v4) (pcJ := 18) rfl L rfl rfl rfl ?_
      refine j_V.cl mb6_M mb6_18 rfl (md := 3) (mj := 206) rfl (by decide) ma7_M (As := [.ref 359, .int v2, .int v4]) (rest := []) (jk_spl3 (K.at rfl) rfl rfl rfl (Nat.le_of_ble_eq_true rfl) (Nat.le_of_ble_eq_true rfl)) (fun d => ma7_ok (K.fi [359, 360] rfl rfl)) ?_
      rintro r hz ⟨rfl, ez⟩
      rw [ez]
      clear ez
      show j_V jP _ 218 21 lv [.int (m_whoAt w v2 v4)] h _
      refine j_V.stL mb6_M mb6_21 rfl (i := 5) (kd := 0) (kl' := [(0, .ref 359), (1, .int v1), (2, .int v2), (3, .int v3), (4, .int v4), (5, .int (m_whoAt w v2 v4))]) (pcJ := 23) rfl L rfl (by decide) rfl rfl rfl (fun lv L => ?_)
      refine j_V.ldL mb6_M mb6_23 rfl (i := 0) (kd := 2) (v := .ref 359) (pcJ := 24) rfl L rfl rfl rfl ?_
      refine j_V.ldL mb6_M mb6_24 rfl (i := 2) (kd := 0) (v := .int v2) (pcJ := 25) rfl L rfl rfl rfl ?_
      refine j_V.one mb6_M mb6_25 (by decide) (pcJ := 26) (stJ := [.int 5, .int v2, .ref 359]) rfl ?_
      refine j_V.ldL mb6_M mb6_26 rfl (i := 4) (kd := 0) (v := .int v4) (pcJ := 28) rfl L rfl rfl rfl ?_
      refine j_V.one mb6_M mb6_28 (by decide) (pcJ := 29) (stJ := [.int (5 + v4), .int v2, .ref 359]) rfl ?_
      refine j_V.cl mb6_M mb6_29 rfl (md := 3) (mj := 176) rfl (by decide) ma1_M (As := [.ref 359, .int v2, .int (5 + v4)]) (rest := []) (jk_spl3 (K.at rfl) rfl rfl rfl (Nat.le_of_ble_eq_true rfl) (Nat.le_of_ble_eq_true rfl)) (fun d => ma1_ok (K.fi [359, 360] rfl rfl)) ?_
      rintro r hz ⟨rfl, ez⟩
      rw [ez]
      clear ez
      show j_V jP _ 218 32 lv [.int (m_st w v2 (5 + v4))] h _
      refine j_V.ifc mb6_M mb6_32 (t := 70) rfl (fun c32_0 => ?_) (fun c32_0 => ?_)
      · replace c32_0 : ¬ ((m_st w v2 (5 + v4)) = 0) := jd_ne c32_0
        refine j_V.inL mb6_M mb6_70 (i := 4) (kl' := [(0, .ref 359), (1, .int v1), (2, .int v2), (3, .int v3), (4, .int (v4 + 1)), (5, .int (m_whoAt w v2 v4))]) (pcJ := 73) L rfl rfl rfl rfl (fun lv L => ?_)
        refine j_V.gto mb6_M mb6_73 (t := 3) rfl ?_
        refine j_V.mono (ih ((v4 + 1)) (lpN_n e) (L.sub ⟨rfl, rfl, rfl, rfl, rfl, trivial⟩) K) ?_
        rintro r hz ⟨rfl, rfl⟩
        exact ⟨congrArg (fun z => some (Value.int z)) (Eq.symm (show (m_hasRoom_l3 w v1 v2 v3 (f + 1) v4) = (m_hasRoom_l3 w v1 v2 v3 f ((v4 + 1))) from (if_neg c32_0).trans (rfl))), rfl⟩
      · replace c32_0 : (m_st w v2 (5 + v4)) = 0 := jd_nen c32_0
        refine j_V.ldL mb6_M mb6_35 rfl (i := 0) (kd := 2) (v := .ref 359) (pcJ := 36) rfl L rfl rfl rfl ?_
        refine j_V.ldL mb6_M mb6_36 rfl (i := 2) (kd := 0) (v := .int v2) (pcJ := 37) rfl L rfl rfl rfl ?_
        refine j_V.one mb6_M mb6_37 (by decide) (pcJ := 38) (stJ := [.int 2, .int v2, .ref 359]) rfl ?_
        refine j_V.ldL mb6_M mb6_38 rfl (i := 4) (kd := 0) (v := .int v4) (pcJ := 40) rfl L rfl rfl rfl ?_
        refine j_V.one mb6_M mb6_40 (by decide) (pcJ := 41) (stJ := [.int (2 + v4), .int v2, .ref 359]) rfl ?_
        refine j_V.cl mb6_M mb6_41 rfl (md := 3) (mj := 176) rfl (by decide) ma1_M (As := [.ref 359, .int v2, .int (2 + v4)]) (rest := []) (jk_spl3 (K.at rfl) rfl rfl rfl (Nat.le_of_ble_eq_true rfl) (Nat.le_of_ble_eq_true rfl)) (fun d => ma1_ok (K.fi [359, 360] rfl rfl)) ?_
        rintro r hz ⟨rfl, ez⟩
        rw [ez]
        clear ez
        show j_V jP _ 218 44 lv [.int (m_st w v2 (2 + v4))] h _
        refine j_V.ldL mb6_M mb6_44 rfl (i := 0) (kd := 2) (v := .ref 359) (pcJ := 45) rfl L rfl rfl rfl ?_
        refine j_V.ldL mb6_M mb6_45 rfl (i := 1) (kd := 0) (v := .int v1) (pcJ := 46) rfl L rfl rfl rfl ?_
        refine j_V.one mb6_M mb6_46 (by decide) (pcJ := 47) (stJ := [.int 0, .int v1, .ref 359, .int (m_st w v2 (2 + v4))]) rfl ?_
        refine j_V.cl mb6_M mb6_47 rfl (md := 3) (mj := 178) rfl (by decide) ma3_M (As := [.ref 359, .int v1, .int 0]) (rest := [.int (m_st w v2 (2 + v4))]) (jk_spl3 (K.at rfl) rfl rfl rfl (Nat.le_of_ble_eq_true rfl) (Nat.le_of_ble_eq_true rfl)) (fun d => ma3_ok (K.fi [359, 360] rfl rfl)) ?_
        rintro r hz ⟨rfl, ez⟩
        rw [ez]
        clear ez
        show j_V jP _ 218 50 lv [.int (m_of w v1 0), .int (m_st w v2 (2 + v4))] h _
        refine j_V.icmp mb6_M mb6_50 (t := 70) rfl (fun c50_1 => ?_) (fun c50_1 => ?_)
        · replace c50_1 : (m_st w v2 (2 + v4)) < (m_of w v1 0) := jd_lt c50_1
          refine j_V.inL mb6_M mb6_70 (i := 4) (kl' := [(0, .ref 359), (1, .int v1), (2, .int v2), (3, .int v3), (4, .int (v4 + 1)), (5, .int (m_whoAt w v2 v4))]) (pcJ := 73) L rfl rfl rfl rfl (fun lv L => ?_)
          refine j_V.gto mb6_M mb6_73 (t := 3) rfl ?_
          refine j_V.mono (ih ((v4 + 1)) (lpN_n e) (L.sub ⟨rfl, rfl, rfl, rfl, rfl, trivial⟩) K) ?_
          rintro r hz ⟨rfl, rfl⟩
          exact ⟨congrArg (fun z => some (Value.int z)) (Eq.symm (show (m_hasRoom_l3 w v1 v2 v3 (f + 1) v4) = (m_hasRoom_l3 w v1 v2 v3 f ((v4 + 1))) from (if_pos c32_0).trans ((if_pos c50_1).trans (rfl)))), rfl⟩
        · replace c50_1 : ¬ ((m_st w v2 (2 + v4)) < (m_of w v1 0)) := jd_ltn c50_1
          refine j_V.ldL mb6_M mb6_53 rfl (i := 5) (kd := 0) (v := .int (m_whoAt w v2 v4)) (pcJ := 55) rfl L rfl rfl rfl ?_
          refine j_V.one mb6_M mb6_55 (by decide) (pcJ := 56) (stJ := [.int (-1), .int (m_whoAt w v2 v4)]) rfl ?_
          refine j_V.icmp mb6_M mb6_56 (t := 68) rfl (fun c56_2 => ?_) (fun c56_2 => ?_)
          · replace c56_2 : (m_whoAt w v2 v4) = (-1) := jd_eq c56_2
            refine j_V.one mb6_M mb6_68 (by decide) (pcJ := 69) (stJ := [.int 1]) rfl ?_
            exact j_V.ri mb6_M mb6_69 ⟨congrArg (fun z => some (Value.int z)) (Eq.symm (show (m_hasRoom_l3 w v1 v2 v3 (f + 1) v4) = 1 from (if_pos c32_0).trans ((if_neg c50_1).trans ((if_pos c56_2).trans (rfl))))), rfl⟩
          · replace c56_2 : ¬ ((m_whoAt w v2 v4) = (-1)) := jd_eqn c56_2
            refine j_V.ldL mb6_M mb6_59 rfl (i := 3) (kd := 0) (v := .int v3) (pcJ := 60) rfl L rfl rfl rfl ?_
            refine j_V.ldL mb6_M mb6_60 rfl (i := 5) (kd := 0) (v := .int (m_whoAt w v2 v4)) (pcJ := 62) rfl L rfl rfl rfl ?_
            refine j_V.one mb6_M mb6_62 (by decide) (pcJ := 63) (stJ := [.int (v3 >>> ((m_whoAt w v2 v4) &&& 31))]) rfl ?_
            refine j_V.one mb6_M mb6_63 (by decide) (pcJ := 64) (stJ := [.int 1, .int (v3 >>> ((m_whoAt w v2 v4) &&& 31))]) rfl ?_
            refine j_V.one mb6_M mb6_64 (by decide) (pcJ := 65) (stJ := [.int ((v3 >>> ((m_whoAt w v2 v4) &&& 31)) &&& 1)]) rfl ?_
            refine j_V.ifc mb6_M mb6_65 (t := 70) rfl (fun c65_3 => ?_) (fun c65_3 => ?_)
            · replace c65_3 : ¬ (((v3 >>> ((m_whoAt w v2 v4) &&& 31)) &&& 1) = 0) := jd_ne c65_3
              refine j_V.inL mb6_M mb6_70 (i := 4) (kl' := [(0, .ref 359), (1, .int v1), (2, .int v2), (3, .int v3), (4, .int (v4 + 1)), (5, .int (m_whoAt w v2 v4))]) (pcJ := 73) L rfl rfl rfl rfl (fun lv L => ?_)
              refine j_V.gto mb6_M mb6_73 (t := 3) rfl ?_
              refine j_V.mono (ih ((v4 + 1)) (lpN_n e) (L.sub ⟨rfl, rfl, rfl, rfl, rfl, trivial⟩) K) ?_
              rintro r hz ⟨rfl, rfl⟩
              exact ⟨congrArg (fun z => some (Value.int z)) (Eq.symm (show (m_hasRoom_l3 w v1 v2 v3 (f + 1) v4) = (m_hasRoom_l3 w v1 v2 v3 f ((v4 + 1))) from (if_pos c32_0).trans ((if_neg c50_1).trans ((if_neg c56_2).trans ((if_neg c65_3).trans (rfl)))))), rfl⟩
            · replace c65_3 : ((v3 >>> ((m_whoAt w v2 v4) &&& 31)) &&& 1) = 0 := jd_nen c65_3
              refine j_V.one mb6_M mb6_68 (by decide) (pcJ := 69) (stJ := [.int 1]) rfl ?_
              exact j_V.ri mb6_M mb6_69 ⟨congrArg (fun z => some (Value.int z)) (Eq.symm (show (m_hasRoom_l3 w v1 v2 v3 (f + 1) v4) = 1 from (if_pos c32_0).trans ((if_neg c50_1).trans ((if_neg c56_2).trans ((if_pos c65_3).trans (rfl)))))), rfl⟩
def m_hasRoom (w : List Int32) (x1 : Int32) (x2 : Int32) (x3 : Int32) : Int32 := (m_hasRoom_l3 w x1 x2 x3 (lpN (m_st w x2 1) 0) 0)
set_option maxRecDepth 1000000 in
theorem mb6_ok {u : Nat → Value} {w : List Int32} {x1 x2 x3 : Int32} {d : Nat} {h h0 : J_H} (K : KN h [(359, .inl (10, [(u 0), .ref 360, .ref 361, .ref 362, .ref 363, .ref 364, .ref 365, .ref 366, .ref 367, (u 9), (u 10), (u 11), (u 12), (u 13), (u 14), (u 15), (u 16), (u 17), (u 18), (u 19), (u 20), (u 21), .ref 368, (u 23), .ref 369, .ref 370, .ref 371, (u 27)])), (360, .inr (.inl (0, w)))] h0) : j_V jP d 218 0 (lv_args 0 [.ref 359, .int x1, .int x2, .int x3]) [] h (fun rv h' => rv = some (.int (m_hasRoom w x1 x2 x3)) ∧ h' = h) := by
  show j_V jP d 218 0 [(0, .ref 359), (1, .int x1), (2, .int x2), (3, .int x3)] [] h _
  obtain ⟨lv, elv, L⟩ : ∃ lv, lv = [(0, .ref 359), (1, .int x1), (2, .int x2), (3, .int x3)] ∧ LK lv [(0, .ref 359), (1, .int x1), (2, .int x2), (3, .int x3)] := ⟨_, rfl, LK.rf⟩
  rw [← elv]
  clear elv
  refine j_V.one mb6_M mb6_0 (by decide) (pcJ := 1) (stJ := [.int 0]) rfl ?_
  refine j_V.stL mb6_M mb6_1 rfl (i := 4) (kd := 0) (kl' := [(0, .ref 359), (1, .int x1), (2, .int x2), (3, .int x3), (4, .int 0)]) (pcJ := 3) rfl L rfl (by decide) rfl rfl rfl (fun lv L => ?_)
  refine j_V.mono (mb6_ok_l3 _ (0) rfl L K) ?_
  rintro r hz ⟨rfl, rfl⟩
  exact ⟨congrArg (fun z => some (Value.int z)) (Eq.symm (show (m_hasRoom w x1 x2 x3) = (m_hasRoom_l3 w x1 x2 x3 (lpN (m_st w x2 1) 0) 0) from rfl)), rfl⟩
set_option maxRecDepth 100000 in
theorem mb7_M : j_meth jP 220 = some (yX10_isStuck, cX10_isStuck, 3, (some .boolean), 0, false, 10) := rfl
set_option maxRecDepth 100000 in
theorem mb7_0 : j_code jP 220 0 = some (.iconst 0) := rfl
set_option maxRecDepth 100000 in
theorem mb7_1 : j_code jP 220 1 = some (.istore_n 1) := rfl
set_option maxRecDepth 100000 in
theorem mb7_2 : j_code jP 220 2 = some (.iconst 0) := rfl
set_option maxRecDepth 100000 in
theorem mb7_3 : j_code jP 220 3 = some (.istore_n 2) := rfl
set_option maxRecDepth 100000 in
theorem mb7_4 : j_code jP 220 4 = some (.iload_n 2) := rfl
set_option maxRecDepth 100000 in
theorem mb7_5 : j_code jP 220 5 = some (.aload_n 0) := rfl
set_option maxRecDepth 100000 in
theorem mb7_6 : j_code jP 220 6 = some (.getfield 7) := rfl
set_option maxRecDepth 100000 in
theorem mb7_9 : j_code jP 220 9 = some (.sipush 203) := rfl
set_option maxRecDepth 100000 in
theorem mb7_12 : j_code jP 220 12 = some (.iaload) := rfl
set_option maxRecDepth 100000 in
theorem mb7_13 : j_code jP 220 13 = some (.if_icmp .ge 51) := rfl
set_option maxRecDepth 100000 in
theorem mb7_16 : j_code jP 220 16 = some (.aload_n 0) := rfl
set_option maxRecDepth 100000 in
theorem mb7_17 : j_code jP 220 17 = some (.iload_n 2) := rfl
set_option maxRecDepth 100000 in
theorem mb7_18 : j_code jP 220 18 = some (.bipush 6) := rfl
set_option maxRecDepth 100000 in
theorem mb7_20 : j_code jP 220 20 = some (.invokevirtual 198) := rfl
set_option maxRecDepth 100000 in
theorem mb7_23 : j_code jP 220 23 = some (.iconst 2) := rfl
set_option maxRecDepth 100000 in
theorem mb7_24 : j_code jP 220 24 = some (.if_icmp .eq 11) := rfl
set_option maxRecDepth 100000 in
theorem mb7_27 : j_code jP 220 27 = some (.aload_n 0) := rfl
set_option maxRecDepth 100000 in
theorem mb7_28 : j_code jP 220 28 = some (.iload_n 2) := rfl
set_option maxRecDepth 100000 in
theorem mb7_29 : j_code jP 220 29 = some (.invokevirtual 250) := rfl
set_option maxRecDepth 100000 in
theorem mb7_32 : j_code jP 220 32 = some (.ifCond .ne 5) := rfl
set_option maxRecDepth 100000 in
theorem mb7_35 : j_code jP 220 35 = some (.iconst 0) := rfl
set_option maxRecDepth 100000 in
theorem mb7_36 : j_code jP 220 36 = some (.ireturn) := rfl
set_option maxRecDepth 100000 in
theorem mb7_37 : j_code jP 220 37 = some (.iload_n 1) := rfl
set_option maxRecDepth 100000 in
theorem mb7_38 : j_code jP 220 38 = some (.ifCond .ne 14) := rfl
set_option maxRecDepth 100000 in
theorem mb7_41 : j_code jP 220 41 = some (.aload_n 0) := rfl
set_option maxRecDepth 100000 in
theorem mb7_42 : j_code jP 220 42 = some (.iload_n 2) := rfl
set_option maxRecDepth 100000 in
theorem mb7_43 : j_code jP 220 43 = some (.bipush 6) := rfl
set_option maxRecDepth 100000 in
theorem mb7_45 : j_code jP 220 45 = some (.invokevirtual 198) := rfl
set_option maxRecDepth 100000 in
theorem mb7_48 : j_code jP 220 48 = some (.iconst 1) := rfl
set_option maxRecDepth 100000 in
theorem mb7_49 : j_code jP 220 49 = some (.if_icmp .ne 7) := rfl
set_option maxRecDepth 100000 in
theorem mb7_52 : j_code jP 220 52 = some (.iconst 1) := rfl
set_option maxRecDepth 100000 in
theorem mb7_53 : j_code jP 220 53 = some (.goto 4) := rfl
set_option maxRecDepth 100000 in
theorem mb7_56 : j_code jP 220 56 = some (.iconst 0) := rfl
set_option maxRecDepth 100000 in
theorem mb7_57 : j_code jP 220 57 = some (.istore_n 1) := rfl
set_option maxRecDepth 100000 in
theorem mb7_58 : j_code jP 220 58 = some (.iinc 2 1) := rfl
set_option maxRecDepth 100000 in
theorem mb7_61 : j_code jP 220 61 = some (.goto (-57)) := rfl
set_option maxRecDepth 100000 in
theorem mb7_64 : j_code jP 220 64 = some (.iload_n 1) := rfl
set_option maxRecDepth 100000 in
theorem mb7_65 : j_code jP 220 65 = some (.ireturn) := rfl
def m_isStuck_l4 (w : List Int32) : Nat → Int32 → Int32 → Int32
  | 0, v2, v1 => v1
  | f + 1, v2, v1 => (if (m_of w v2 6) = 2 then 0 else (if (m_whyNot w v2) = 0 then 0 else (m_isStuck_l4 w f ((v2 + 1)) (((if v1 = 0 then (if (m_of w v2 6) = 1 then 1 else 0) else 1) : Int32)))))
set_option maxRecDepth 1000000 in
theorem mb7_ok_l4 {u : Nat → Value} {w : List Int32} {d : Nat} {h h0 : J_H} : ∀ (f : Nat) (v2 v1 : Int32) {lv : J_L}, lpN (gA w 203) v2 = f → LK lv [(0, .ref 359), (1, .int v1), (2, .int v2)] → KN h [(359, .inl (10, [(u 0), .ref 360, .ref 361, .ref 362, .ref 363, .ref 364, .ref 365, .ref 366, .ref 367, (u 9), (u 10), (u 11), (u 12), (u 13), (u 14), (u 15), (u 16), (u 17), (u 18), (u 19), (u 20), (u 21), .ref 368, (u 23), .ref 369, .ref 370, .ref 371, (u 27)])), (360, .inr (.inl (0, w)))] h0 → j_V jP d 220 4 lv [] h (fun rv h' => rv = some (.int (m_isStuck_l4 w f v2 v1)) ∧ h' = h) := by
  intro f
  induction f with
  | zero =>
    intro v2 v1 lv e L K
    refine j_V.ldL mb7_M mb7_4 rfl (i := 2) (kd := 0) (v := .int v2) (pcJ := 5) rfl L rfl rfl rfl ?_
    refine j_V.ldL mb7_M mb7_5 rfl (i := 0) (kd := 2) (v := .ref 359) (pcJ := 6) rfl L rfl rfl rfl ?_
    refine j_V.getK mb7_M mb7_6 (ci := 10) (j := 1) rfl K rfl rfl ?_
    refine j_V.one mb7_M mb7_9 (by decide) (pcJ := 12) (stJ := [.int 203, .ref 360, .int v2]) rfl ?_
    refine j_V.iaA mb7_M mb7_12 K rfl ?_
    refine j_V.icmp mb7_M mb7_13 (t := 64) rfl (fun c13_0 => ?_) (fun c13_0 => ?_)
    · replace c13_0 : ¬ (v2 < (gA w 203)) := jd_ge c13_0
      refine j_V.ldL mb7_M mb7_64 rfl (i := 1) (kd := 0) (v := .int v1) (pcJ := 65) rfl L rfl rfl rfl ?_
      exact j_V.ri mb7_M mb7_65 ⟨congrArg (fun z => some (Value.int z)) (Eq.symm (show (m_isStuck_l4 w 0 v2 v1) = v1 from rfl)), rfl⟩
    · replace c13_0 : v2 < (gA w 203) := jd_gen c13_0
      exact absurd c13_0 (lpN_z e)
  | succ f ih =>
    intro v2 v1 lv e L K
    refine j_V.ldL mb7_M mb7_4 rfl (i := 2) (kd := 0) (v := .int v2) (pcJ := 5) rfl L rfl rfl rfl ?_
    refine j_V.ldL mb7_M mb7_5 rfl (i := 0) (kd := 2) (v := .ref 359) (pcJ := 6) rfl L rfl rfl rfl ?_
    refine j_V.getK mb7_M mb7_6 (ci := 10) (j := 1) rfl K rfl rfl ?_
    refine j_V.one mb7_M mb7_9 (by decide) (pcJ := 12) (stJ := [.int 203, .ref 360, .int v2]) rfl ?_
    refine j_V.iaA mb7_M mb7_12 K rfl ?_
    refine j_V.icmp mb7_M mb7_13 (t := 64) rfl (fun c13_0 => ?_) (fun c13_0 => ?_)
    · replace c13_0 : ¬ (v2 < (gA w 203)) := jd_ge c13_0
      exact absurd (lpN_s e) c13_0
    · replace c13_0 : v2 < (gA w 203) := jd_gen c13_0
      refine j_V.ldL mb7_M mb7_16 rfl (i := 0) (kd := 2) (v := .ref 359) (pcJ := 17) rfl L rfl rfl rfl ?_
      refine j_V.ldL mb7_M mb7_17 rfl (i := 2) (kd := 0) (v := .int v2) (pcJ := 18) rfl L rfl rfl rfl ?_
      refine j_V.one mb7_M mb7_18 (by decide) (pcJ := 20) (stJ := [.int 6, .int v2, .ref 359]) rfl ?_
      refine j_V.cl mb7_M mb7_20 rfl (md := 3) (mj := 178) rfl (by decide) ma3_M (As := [.ref 359, .int v2, .int 6]) (rest := []) (jk_spl3 (K.at rfl) rfl rfl rfl (Nat.le_of_ble_eq_true rfl) (Nat.le_of_ble_eq_true rfl)) (fun d => ma3_ok (K.fi [359, 360] rfl rfl)) ?_
      rintro r hz ⟨rfl, ez⟩
      rw [ez]
      clear ez
      show j_V jP _ 220 23 lv [.int (m_of w v2 6)] h _
      refine j_V.one mb7_M mb7_23 (by decide) (pcJ := 24) (stJ := [.int 2, .int (m_of w v2 6)]) rfl ?_
      refine j_V.icmp mb7_M mb7_24 (t := 35) rfl (fun c24_0 => ?_) (fun c24_0 => ?_)
      · replace c24_0 : (m_of w v2 6) = 2 := jd_eq c24_0
        refine j_V.one mb7_M mb7_35 (by decide) (pcJ := 36) (stJ := [.int 0]) rfl ?_
        exact j_V.ri mb7_M mb7_36 ⟨congrArg (fun z => some (Value.int z)) (Eq.symm (show (m_isStuck_l4 w (f + 1) v2 v1) = 0 from (if_pos c24_0).trans (rfl))), rfl⟩
      · replace c24_0 : ¬ ((m_of w v2 6) = 2) := jd_eqn c24_0
        refine j_V.ldL mb7_M mb7_27 rfl (i := 0) (kd := 2) (v := .ref 359) (pcJ := 28) rfl L rfl rfl rfl ?_
        refine j_V.ldL mb7_M mb7_28 rfl (i := 2) (kd := 0) (v := .int v2) (pcJ := 29) rfl L rfl rfl rfl ?_
        refine j_V.cl mb7_M mb7_29 rfl (md := 3) (mj := 214) rfl (by decide) mb5_M (As := [.ref 359, .int v2]) (rest := []) (jk_spl3 (K.at rfl) rfl rfl rfl (Nat.le_of_ble_eq_true rfl) (Nat.le_of_ble_eq_true rfl)) (fun d => mb5_ok (K.fi [359, 360] rfl rfl)) ?_
        rintro r hz ⟨rfl, ez⟩
        rw [ez]
        clear ez
        show j_V jP _ 220 32 lv [.int (m_whyNot w v2)] h _
        refine j_V.ifc mb7_M mb7_32 (t := 37) rfl (fun c32_1 => ?_) (fun c32_1 => ?_)
        · replace c32_1 : ¬ ((m_whyNot w v2) = 0) := jd_ne c32_1
          refine j_V.ldL mb7_M mb7_37 rfl (i := 1) (kd := 0) (v := .int v1) (pcJ := 38) rfl L rfl rfl rfl ?_
          refine j_V.cut (b := 57) (stJ := [.int ((if v1 = 0 then (if (m_of w v2 6) = 1 then 1 else 0) else 1) : Int32)]) (fun v => [(0, .ref 359), (1, .int v1), (2, .int v2)]) ((if v1 = 0 then (if (m_of w v2 6) = 1 then 1 else 0) else 1) : Int32) (fun Q kk => ?_) (fun lv L => ?_)
          · refine j_V.ifc mb7_M mb7_38 (t := 52) rfl (fun c38_0 => ?_) (fun c38_0 => ?_)
            · replace c38_0 : ¬ (v1 = 0) := jd_ne c38_0
              refine j_V.one mb7_M mb7_52 (by decide) (pcJ := 53) (stJ := [.int 1]) rfl ?_
              refine j_V.gto mb7_M mb7_53 (t := 57) rfl ?_
              exact Eq.subst (motive := fun z => j_V jP _ 220 57 _ (.int z :: []) h Q) (show ((if v1 = 0 then (if (m_of w v2 6) = 1 then 1 else 0) else 1) : Int32) = 1 from (if_neg c38_0).trans (rfl)) (kk _ L)
            · replace c38_0 : v1 = 0 := jd_nen c38_0
              refine j_V.ldL mb7_M mb7_41 rfl (i := 0) (kd := 2) (v := .ref 359) (pcJ := 42) rfl L rfl rfl rfl ?_
              refine j_V.ldL mb7_M mb7_42 rfl (i := 2) (kd := 0) (v := .int v2) (pcJ := 43) rfl L rfl rfl rfl ?_
              refine j_V.one mb7_M mb7_43 (by decide) (pcJ := 45) (stJ := [.int 6, .int v2, .ref 359]) rfl ?_
              refine j_V.cl mb7_M mb7_45 rfl (md := 3) (mj := 178) rfl (by decide) ma3_M (As := [.ref 359, .int v2, .int 6]) (rest := []) (jk_spl3 (K.at rfl) rfl rfl rfl (Nat.le_of_ble_eq_true rfl) (Nat.le_of_ble_eq_true rfl)) (fun d => ma3_ok (K.fi [359, 360] rfl rfl)) ?_
              rintro r hz ⟨rfl, ez⟩
              rw [ez]
              clear ez
              show j_V jP _ 220 48 lv [.int (m_of w v2 6)] h _
              refine j_V.one mb7_M mb7_48 (by decide) (pcJ := 49) (stJ := [.int 1, .int (m_of w v2 6)]) rfl ?_
              refine j_V.icmp mb7_M mb7_49 (t := 56) rfl (fun c49_1 => ?_) (fun c49_1 => ?_)
              · replace c49_1 : ¬ ((m_of w v2 6) = 1) := jd_ne c49_1
                refine j_V.one mb7_M mb7_56 (by decide) (pcJ := 57) (stJ := [.int 0]) rfl ?_
                exact Eq.subst (motive := fun z => j_V jP _ 220 57 _ (.int z :: []) h Q) (show ((if v1 = 0 then (if (m_of w v2 6) = 1 then 1 else 0) else 1) : Int32) = 0 from (if_pos c38_0).trans ((if_neg c49_1).trans (rfl))) (kk _ L)
              · replace c49_1 : (m_of w v2 6) = 1 := jd_nen c49_1
                refine j_V.one mb7_M mb7_52 (by decide) (pcJ := 53) (stJ := [.int 1]) rfl ?_
                refine j_V.gto mb7_M mb7_53 (t := 57) rfl ?_
                exact Eq.subst (motive := fun z => j_V jP _ 220 57 _ (.int z :: []) h Q) (show ((if v1 = 0 then (if (m_of w v2 6) = 1 then 1 else 0) else 1) : Int32) = 1 from (if_pos c38_0).trans ((if_pos c49_1).trans (rfl))) (kk _ L)
          refine j_V.stL mb7_M mb7_57 rfl (i := 1) (kd := 0) (kl' := [(0, .ref 359), (1, .int ((if v1 = 0 then (if (m_of w v2 6) = 1 then 1 else 0) else 1) : Int32)), (2, .int v2)]) (pcJ := 58) rfl L rfl (by decide) rfl rfl rfl (fun lv L => ?_)
          refine j_V.inL mb7_M mb7_58 (i := 2) (kl' := [(0, .ref 359), (1, .int ((if v1 = 0 then (if (m_of w v2 6) = 1 then 1 else 0) else 1) : Int32)), (2, .int (v2 + 1))]) (pcJ := 61) L rfl rfl rfl rfl (fun lv L => ?_)
          refine j_V.gto mb7_M mb7_61 (t := 4) rfl ?_
          refine j_V.mono (ih ((v2 + 1)) (((if v1 = 0 then (if (m_of w v2 6) = 1 then 1 else 0) else 1) : Int32)) (lpN_n e) L K) ?_
          rintro r hz ⟨rfl, rfl⟩
          exact ⟨congrArg (fun z => some (Value.int z)) (Eq.symm (show (m_isStuck_l4 w (f + 1) v2 v1) = (m_isStuck_l4 w f ((v2 + 1)) (((if v1 = 0 then (if (m_of w v2 6) = 1 then 1 else 0) else 1) : Int32))) from (if_neg c24_0).trans ((if_neg c32_1).trans (rfl)))), rfl⟩
        · replace c32_1 : (m_whyNot w v2) = 0 := jd_nen c32_1
          refine j_V.one mb7_M mb7_35 (by decide) (pcJ := 36) (stJ := [.int 0]) rfl ?_
          exact j_V.ri mb7_M mb7_36 ⟨congrArg (fun z => some (Value.int z)) (Eq.symm (show (m_isStuck_l4 w (f + 1) v2 v1) = 0 from (if_neg c24_0).trans ((if_pos c32_1).trans (rfl)))), rfl⟩
def m_isStuck (w : List Int32) : Int32 := (m_isStuck_l4 w (lpN (gA w 203) 0) 0 0)
set_option maxRecDepth 1000000 in
theorem mb7_ok {u : Nat → Value} {w : List Int32} {d : Nat} {h h0 : J_H} (K : KN h [(359, .inl (10, [(u 0), .ref 360, .ref 361, .ref 362, .ref 363, .ref 364, .ref 365, .ref 366, .ref 367, (u 9), (u 10), (u 11), (u 12), (u 13), (u 14), (u 15), (u 16), (u 17), (u 18), (u 19), (u 20), (u 21), .ref 368, (u 23), .ref 369, .ref 370, .ref 371, (u 27)])), (360, .inr (.inl (0, w)))] h0) : j_V jP d 220 0 (lv_args 0 [.ref 359]) [] h (fun rv h' => rv = some (.int (m_isStuck w)) ∧ h' = h) := by
  show j_V jP d 220 0 [(0, .ref 359)] [] h _
  obtain ⟨lv, elv, L⟩ : ∃ lv, lv = [(0, .ref 359)] ∧ LK lv [(0, .ref 359)] := ⟨_, rfl, LK.rf⟩
  rw [← elv]
  clear elv
  refine j_V.one mb7_M mb7_0 (by decide) (pcJ := 1) (stJ := [.int 0]) rfl ?_
  refine j_V.stL mb7_M mb7_1 rfl (i := 1) (kd := 0) (kl' := [(0, .ref 359), (1, .int 0)]) (pcJ := 2) rfl L rfl (by decide) rfl rfl rfl (fun lv L => ?_)
  refine j_V.one mb7_M mb7_2 (by decide) (pcJ := 3) (stJ := [.int 0]) rfl ?_
  refine j_V.stL mb7_M mb7_3 rfl (i := 2) (kd := 0) (kl' := [(0, .ref 359), (1, .int 0), (2, .int 0)]) (pcJ := 4) rfl L rfl (by decide) rfl rfl rfl (fun lv L => ?_)
  refine j_V.mono (mb7_ok_l4 _ (0) (0) rfl L K) ?_
  rintro r hz ⟨rfl, rfl⟩
  exact ⟨congrArg (fun z => some (Value.int z)) (Eq.symm (show (m_isStuck w) = (m_isStuck_l4 w (lpN (gA w 203) 0) 0 0) from rfl)), rfl⟩
set_option maxRecDepth 100000 in
theorem mb8_M : j_meth jP 221 = some (yX10_isHeld, cX10_isHeld, 2, (some .boolean), 1, false, 10) := rfl
set_option maxRecDepth 100000 in
theorem mb8_0 : j_code jP 221 0 = some (.aload_n 0) := rfl
set_option maxRecDepth 100000 in
theorem mb8_1 : j_code jP 221 1 = some (.getfield 7) := rfl
set_option maxRecDepth 100000 in
theorem mb8_4 : j_code jP 221 4 = some (.sipush 201) := rfl
set_option maxRecDepth 100000 in
theorem mb8_7 : j_code jP 221 7 = some (.iaload) := rfl
set_option maxRecDepth 100000 in
theorem mb8_8 : j_code jP 221 8 = some (.aload_n 0) := rfl
set_option maxRecDepth 100000 in
theorem mb8_9 : j_code jP 221 9 = some (.iload_n 1) := rfl
set_option maxRecDepth 100000 in
theorem mb8_10 : j_code jP 221 10 = some (.bipush 10) := rfl
set_option maxRecDepth 100000 in
theorem mb8_12 : j_code jP 221 12 = some (.invokevirtual 198) := rfl
set_option maxRecDepth 100000 in
theorem mb8_15 : j_code jP 221 15 = some (.if_icmp .ge 7) := rfl
set_option maxRecDepth 100000 in
theorem mb8_18 : j_code jP 221 18 = some (.iconst 1) := rfl
set_option maxRecDepth 100000 in
theorem mb8_19 : j_code jP 221 19 = some (.goto 4) := rfl
set_option maxRecDepth 100000 in
theorem mb8_22 : j_code jP 221 22 = some (.iconst 0) := rfl
set_option maxRecDepth 100000 in
theorem mb8_23 : j_code jP 221 23 = some (.ireturn) := rfl
def m_isHeld (w : List Int32) (x1 : Int32) : Int32 := ((if (gA w 201) < (m_of w x1 10) then 1 else 0) : Int32)
set_option maxRecDepth 1000000 in
theorem mb8_ok {u : Nat → Value} {w : List Int32} {x1 : Int32} {d : Nat} {h h0 : J_H} (K : KN h [(359, .inl (10, [(u 0), .ref 360, .ref 361, .ref 362, .ref 363, .ref 364, .ref 365, .ref 366, .ref 367, (u 9), (u 10), (u 11), (u 12), (u 13), (u 14), (u 15), (u 16), (u 17), (u 18), (u 19), (u 20), (u 21), .ref 368, (u 23), .ref 369, .ref 370, .ref 371, (u 27)])), (360, .inr (.inl (0, w)))] h0) : j_V jP d 221 0 (lv_args 0 [.ref 359, .int x1]) [] h (fun rv h' => rv = some (.int (m_isHeld w x1)) ∧ h' = h) := by
  show j_V jP d 221 0 [(0, .ref 359), (1, .int x1)] [] h _
  obtain ⟨lv, elv, L⟩ : ∃ lv, lv = [(0, .ref 359), (1, .int x1)] ∧ LK lv [(0, .ref 359), (1, .int x1)] := ⟨_, rfl, LK.rf⟩
  rw [← elv]
  clear elv
  refine j_V.ldL mb8_M mb8_0 rfl (i := 0) (kd := 2) (v := .ref 359) (pcJ := 1) rfl L rfl rfl rfl ?_
  refine j_V.getK mb8_M mb8_1 (ci := 10) (j := 1) rfl K rfl rfl ?_
  refine j_V.one mb8_M mb8_4 (by decide) (pcJ := 7) (stJ := [.int 201, .ref 360]) rfl ?_
  refine j_V.iaA mb8_M mb8_7 K rfl ?_
  refine j_V.ldL mb8_M mb8_8 rfl (i := 0) (kd := 2) (v := .ref 359) (pcJ := 9) rfl L rfl rfl rfl ?_
  refine j_V.ldL mb8_M mb8_9 rfl (i := 1) (kd := 0) (v := .int x1) (pcJ := 10) rfl L rfl rfl rfl ?_
  refine j_V.one mb8_M mb8_10 (by decide) (pcJ := 12) (stJ := [.int 10, .int x1, .ref 359, .int (gA w 201)]) rfl ?_
  refine j_V.cl mb8_M mb8_12 rfl (md := 3) (mj := 178) rfl (by decide) ma3_M (As := [.ref 359, .int x1, .int 10]) (rest := [.int (gA w 201)]) (jk_spl3 (K.at rfl) rfl rfl rfl (Nat.le_of_ble_eq_true rfl) (Nat.le_of_ble_eq_true rfl)) (fun d => ma3_ok (K.fi [359, 360] rfl rfl)) ?_
  rintro r hz ⟨rfl, ez⟩
  rw [ez]
  clear ez
  show j_V jP _ 221 15 lv [.int (m_of w x1 10), .int (gA w 201)] h _
  refine j_V.cut (b := 23) (stJ := [.int ((if (gA w 201) < (m_of w x1 10) then 1 else 0) : Int32)]) (fun v => [(0, .ref 359), (1, .int x1)]) ((if (gA w 201) < (m_of w x1 10) then 1 else 0) : Int32) (fun Q kk => ?_) (fun lv L => ?_)
  · refine j_V.icmp mb8_M mb8_15 (t := 22) rfl (fun c15_0 => ?_) (fun c15_0 => ?_)
    · replace c15_0 : ¬ ((gA w 201) < (m_of w x1 10)) := jd_ge c15_0
      refine j_V.one mb8_M mb8_22 (by decide) (pcJ := 23) (stJ := [.int 0]) rfl ?_
      exact Eq.subst (motive := fun z => j_V jP _ 221 23 _ (.int z :: []) h Q) (show ((if (gA w 201) < (m_of w x1 10) then 1 else 0) : Int32) = 0 from (if_neg c15_0).trans (rfl)) (kk _ L)
    · replace c15_0 : (gA w 201) < (m_of w x1 10) := jd_gen c15_0
      refine j_V.one mb8_M mb8_18 (by decide) (pcJ := 19) (stJ := [.int 1]) rfl ?_
      refine j_V.gto mb8_M mb8_19 (t := 23) rfl ?_
      exact Eq.subst (motive := fun z => j_V jP _ 221 23 _ (.int z :: []) h Q) (show ((if (gA w 201) < (m_of w x1 10) then 1 else 0) : Int32) = 1 from (if_pos c15_0).trans (rfl)) (kk _ L)
  exact j_V.ri mb8_M mb8_23 ⟨congrArg (fun z => some (Value.int z)) (Eq.symm (show (m_isHeld w x1) = ((if (gA w 201) < (m_of w x1 10) then 1 else 0) : Int32) from rfl)), rfl⟩
set_option maxRecDepth 100000 in
theorem mb9_M : j_meth jP 224 = some (yX10_link0, cX10_link0, 3, (some .int), 2, false, 10) := rfl
set_option maxRecDepth 100000 in
theorem mb9_0 : j_code jP 224 0 = some (.aload_n 0) := rfl
set_option maxRecDepth 100000 in
theorem mb9_1 : j_code jP 224 1 = some (.getfield 7) := rfl
set_option maxRecDepth 100000 in
theorem mb9_4 : j_code jP 224 4 = some (.sipush 297) := rfl
set_option maxRecDepth 100000 in
theorem mb9_7 : j_code jP 224 7 = some (.iconst 3) := rfl
set_option maxRecDepth 100000 in
theorem mb9_8 : j_code jP 224 8 = some (.iload_n 1) := rfl
set_option maxRecDepth 100000 in
theorem mb9_9 : j_code jP 224 9 = some (.imul) := rfl
set_option maxRecDepth 100000 in
theorem mb9_10 : j_code jP 224 10 = some (.iadd) := rfl
set_option maxRecDepth 100000 in
theorem mb9_11 : j_code jP 224 11 = some (.iload_n 2) := rfl
set_option maxRecDepth 100000 in
theorem mb9_12 : j_code jP 224 12 = some (.iadd) := rfl
set_option maxRecDepth 100000 in
theorem mb9_13 : j_code jP 224 13 = some (.iaload) := rfl
set_option maxRecDepth 100000 in
theorem mb9_14 : j_code jP 224 14 = some (.ireturn) := rfl
def m_link0 (w : List Int32) (x1 : Int32) (x2 : Int32) : Int32 := (gA w ((297 + (3 * x1)) + x2))
set_option maxRecDepth 1000000 in
theorem mb9_ok {u : Nat → Value} {w : List Int32} {x1 x2 : Int32} {d : Nat} {h h0 : J_H} (K : KN h [(359, .inl (10, [(u 0), .ref 360, .ref 361, .ref 362, .ref 363, .ref 364, .ref 365, .ref 366, .ref 367, (u 9), (u 10), (u 11), (u 12), (u 13), (u 14), (u 15), (u 16), (u 17), (u 18), (u 19), (u 20), (u 21), .ref 368, (u 23), .ref 369, .ref 370, .ref 371, (u 27)])), (360, .inr (.inl (0, w)))] h0) : j_V jP d 224 0 (lv_args 0 [.ref 359, .int x1, .int x2]) [] h (fun rv h' => rv = some (.int (m_link0 w x1 x2)) ∧ h' = h) := by
  show j_V jP d 224 0 [(0, .ref 359), (1, .int x1), (2, .int x2)] [] h _
  obtain ⟨lv, elv, L⟩ : ∃ lv, lv = [(0, .ref 359), (1, .int x1), (2, .int x2)] ∧ LK lv [(0, .ref 359), (1, .int x1), (2, .int x2)] := ⟨_, rfl, LK.rf⟩
  rw [← elv]
  clear elv
  refine j_V.ldL mb9_M mb9_0 rfl (i := 0) (kd := 2) (v := .ref 359) (pcJ := 1) rfl L rfl rfl rfl ?_
  refine j_V.getK mb9_M mb9_1 (ci := 10) (j := 1) rfl K rfl rfl ?_
  refine j_V.one mb9_M mb9_4 (by decide) (pcJ := 7) (stJ := [.int 297, .ref 360]) rfl ?_
  refine j_V.one mb9_M mb9_7 (by decide) (pcJ := 8) (stJ := [.int 3, .int 297, .ref 360]) rfl ?_
  refine j_V.ldL mb9_M mb9_8 rfl (i := 1) (kd := 0) (v := .int x1) (pcJ := 9) rfl L rfl rfl rfl ?_
  refine j_V.one mb9_M mb9_9 (by decide) (pcJ := 10) (stJ := [.int (3 * x1), .int 297, .ref 360]) rfl ?_
  refine j_V.one mb9_M mb9_10 (by decide) (pcJ := 11) (stJ := [.int (297 + (3 * x1)), .ref 360]) rfl ?_
  refine j_V.ldL mb9_M mb9_11 rfl (i := 2) (kd := 0) (v := .int x2) (pcJ := 12) rfl L rfl rfl rfl ?_
  refine j_V.one mb9_M mb9_12 (by decide) (pcJ := 13) (stJ := [.int ((297 + (3 * x1)) + x2), .ref 360]) rfl ?_
  refine j_V.iaA mb9_M mb9_13 K rfl ?_
  exact j_V.ri mb9_M mb9_14 ⟨congrArg (fun z => some (Value.int z)) (Eq.symm (show (m_link0 w x1 x2) = (gA w ((297 + (3 * x1)) + x2)) from rfl)), rfl⟩
set_option maxRecDepth 100000 in
theorem mc0_M : j_meth jP 225 = some (yX10_keepsIt, cX10_keepsIt, 4, (some .boolean), 1, false, 10) := rfl
set_option maxRecDepth 100000 in
theorem mc0_0 : j_code jP 225 0 = some (.aload_n 0) := rfl
set_option maxRecDepth 100000 in
theorem mc0_1 : j_code jP 225 1 = some (.iload_n 1) := rfl
set_option maxRecDepth 100000 in
theorem mc0_2 : j_code jP 225 2 = some (.iconst 0) := rfl
set_option maxRecDepth 100000 in
theorem mc0_3 : j_code jP 225 3 = some (.invokevirtual 259) := rfl
set_option maxRecDepth 100000 in
theorem mc0_6 : j_code jP 225 6 = some (.istore_n 2) := rfl
set_option maxRecDepth 100000 in
theorem mc0_7 : j_code jP 225 7 = some (.aload_n 0) := rfl
set_option maxRecDepth 100000 in
theorem mc0_8 : j_code jP 225 8 = some (.iload_n 1) := rfl
set_option maxRecDepth 100000 in
theorem mc0_9 : j_code jP 225 9 = some (.iconst 2) := rfl
set_option maxRecDepth 100000 in
theorem mc0_10 : j_code jP 225 10 = some (.invokevirtual 259) := rfl
set_option maxRecDepth 100000 in
theorem mc0_13 : j_code jP 225 13 = some (.istore_n 3) := rfl
set_option maxRecDepth 100000 in
theorem mc0_14 : j_code jP 225 14 = some (.aload_n 0) := rfl
set_option maxRecDepth 100000 in
theorem mc0_15 : j_code jP 225 15 = some (.iload_n 2) := rfl
set_option maxRecDepth 100000 in
theorem mc0_16 : j_code jP 225 16 = some (.bipush 6) := rfl
set_option maxRecDepth 100000 in
theorem mc0_18 : j_code jP 225 18 = some (.invokevirtual 198) := rfl
set_option maxRecDepth 100000 in
theorem mc0_21 : j_code jP 225 21 = some (.iconst 1) := rfl
set_option maxRecDepth 100000 in
theorem mc0_22 : j_code jP 225 22 = some (.if_icmp .ne 52) := rfl
set_option maxRecDepth 100000 in
theorem mc0_25 : j_code jP 225 25 = some (.aload_n 0) := rfl
set_option maxRecDepth 100000 in
theorem mc0_26 : j_code jP 225 26 = some (.iload_n 2) := rfl
set_option maxRecDepth 100000 in
theorem mc0_27 : j_code jP 225 27 = some (.bipush 7) := rfl
set_option maxRecDepth 100000 in
theorem mc0_29 : j_code jP 225 29 = some (.invokevirtual 198) := rfl
set_option maxRecDepth 100000 in
theorem mc0_32 : j_code jP 225 32 = some (.aload_n 0) := rfl
set_option maxRecDepth 100000 in
theorem mc0_33 : j_code jP 225 33 = some (.iload_n 1) := rfl
set_option maxRecDepth 100000 in
theorem mc0_34 : j_code jP 225 34 = some (.iconst 1) := rfl
set_option maxRecDepth 100000 in
theorem mc0_35 : j_code jP 225 35 = some (.invokevirtual 259) := rfl
set_option maxRecDepth 100000 in
theorem mc0_38 : j_code jP 225 38 = some (.if_icmp .ne 36) := rfl
set_option maxRecDepth 100000 in
theorem mc0_41 : j_code jP 225 41 = some (.aload_n 0) := rfl
set_option maxRecDepth 100000 in
theorem mc0_42 : j_code jP 225 42 = some (.iload_n 3) := rfl
set_option maxRecDepth 100000 in
theorem mc0_43 : j_code jP 225 43 = some (.bipush 6) := rfl
set_option maxRecDepth 100000 in
theorem mc0_45 : j_code jP 225 45 = some (.invokevirtual 198) := rfl
set_option maxRecDepth 100000 in
theorem mc0_48 : j_code jP 225 48 = some (.iconst 3) := rfl
set_option maxRecDepth 100000 in
theorem mc0_49 : j_code jP 225 49 = some (.if_icmp .eq 25) := rfl
set_option maxRecDepth 100000 in
theorem mc0_52 : j_code jP 225 52 = some (.aload_n 0) := rfl
set_option maxRecDepth 100000 in
theorem mc0_53 : j_code jP 225 53 = some (.iload_n 3) := rfl
set_option maxRecDepth 100000 in
theorem mc0_54 : j_code jP 225 54 = some (.bipush 13) := rfl
set_option maxRecDepth 100000 in
theorem mc0_56 : j_code jP 225 56 = some (.aload_n 0) := rfl
set_option maxRecDepth 100000 in
theorem mc0_57 : j_code jP 225 57 = some (.iload_n 1) := rfl
set_option maxRecDepth 100000 in
theorem mc0_58 : j_code jP 225 58 = some (.iconst 1) := rfl
set_option maxRecDepth 100000 in
theorem mc0_59 : j_code jP 225 59 = some (.invokevirtual 259) := rfl
set_option maxRecDepth 100000 in
theorem mc0_62 : j_code jP 225 62 = some (.iadd) := rfl
set_option maxRecDepth 100000 in
theorem mc0_63 : j_code jP 225 63 = some (.invokevirtual 198) := rfl
set_option maxRecDepth 100000 in
theorem mc0_66 : j_code jP 225 66 = some (.iconst (-1)) := rfl
set_option maxRecDepth 100000 in
theorem mc0_67 : j_code jP 225 67 = some (.if_icmp .ne 7) := rfl
set_option maxRecDepth 100000 in
theorem mc0_70 : j_code jP 225 70 = some (.iconst 1) := rfl
set_option maxRecDepth 100000 in
theorem mc0_71 : j_code jP 225 71 = some (.goto 4) := rfl
set_option maxRecDepth 100000 in
theorem mc0_74 : j_code jP 225 74 = some (.iconst 0) := rfl
set_option maxRecDepth 100000 in
theorem mc0_75 : j_code jP 225 75 = some (.ireturn) := rfl
def m_keepsIt (w : List Int32) (x1 : Int32) : Int32 := ((if (m_of w (m_link0 w x1 0) 6) = 1 then (if (m_of w (m_link0 w x1 0) 7) = (m_link0 w x1 1) then (if (m_of w (m_link0 w x1 2) 6) = 3 then 0 else (if (m_of w (m_link0 w x1 2) (13 + (m_link0 w x1 1))) = (-1) then 1 else 0)) else 0) else 0) : Int32)
set_option maxRecDepth 1000000 in
theorem mc0_ok {u : Nat → Value} {w : List Int32} {x1 : Int32} {d : Nat} {h h0 : J_H} (K : KN h [(359, .inl (10, [(u 0), .ref 360, .ref 361, .ref 362, .ref 363, .ref 364, .ref 365, .ref 366, .ref 367, (u 9), (u 10), (u 11), (u 12), (u 13), (u 14), (u 15), (u 16), (u 17), (u 18), (u 19), (u 20), (u 21), .ref 368, (u 23), .ref 369, .ref 370, .ref 371, (u 27)])), (360, .inr (.inl (0, w)))] h0) : j_V jP d 225 0 (lv_args 0 [.ref 359, .int x1]) [] h (fun rv h' => rv = some (.int (m_keepsIt w x1)) ∧ h' = h) := by
  show j_V jP d 225 0 [(0, .ref 359), (1, .int x1)] [] h _
  obtain ⟨lv, elv, L⟩ : ∃ lv, lv = [(0, .ref 359), (1, .int x1)] ∧ LK lv [(0, .ref 359), (1, .int x1)] := ⟨_, rfl, LK.rf⟩
  rw [← elv]
  clear elv
  refine j_V.ldL mc0_M mc0_0 rfl (i := 0) (kd := 2) (v := .ref 359) (pcJ := 1) rfl L rfl rfl rfl ?_
  refine j_V.ldL mc0_M mc0_1 rfl (i := 1) (kd := 0) (v := .int x1) (pcJ := 2) rfl L rfl rfl rfl ?_
  refine j_V.one mc0_M mc0_2 (by decide) (pcJ := 3) (stJ := [.int 0, .int x1, .ref 359]) rfl ?_
  refine j_V.cl mc0_M mc0_3 rfl (md := 3) (mj := 224) rfl (by decide) mb9_M (As := [.ref 359, .int x1, .int 0]) (rest := []) (jk_spl3 (K.at rfl) rfl rfl rfl (Nat.le_of_ble_eq_true rfl) (Nat.le_of_ble_eq_true rfl)) (fun d => mb9_ok (K.fi [359, 360] rfl rfl)) ?_
  rintro r hz ⟨rfl, ez⟩
  rw [ez]
  clear ez
  show j_V jP _ 225 6 lv [.int (m_link0 w x1 0)] h _
  refine j_V.stL mc0_M mc0_6 rfl (i := 2) (kd := 0) (kl' := [(0, .ref 359), (1, .int x1), (2, .int (m_link0 w x1 0))]) (pcJ := 7) rfl L rfl (by decide) rfl rfl rfl (fun lv L => ?_)
  refine j_V.ldL mc0_M mc0_7 rfl (i := 0) (kd := 2) (v := .ref 359) (pcJ := 8) rfl L rfl rfl rfl ?_
  refine j_V.ldL mc0_M mc0_8 rfl (i := 1) (kd := 0) (v := .int x1) (pcJ := 9) rfl L rfl rfl rfl ?_
  refine j_V.one mc0_M mc0_9 (by decide) (pcJ := 10) (stJ := [.int 2, .int x1, .ref 359]) rfl ?_
  refine j_V.cl mc0_M mc0_10 rfl (md := 3) (mj := 224) rfl (by decide) mb9_M (As := [.ref 359, .int x1, .int 2]) (rest := []) (jk_spl3 (K.at rfl) rfl rfl rfl (Nat.le_of_ble_eq_true rfl) (Nat.le_of_ble_eq_true rfl)) (fun d => mb9_ok (K.fi [359, 360] rfl rfl)) ?_
  rintro r hz ⟨rfl, ez⟩
  rw [ez]
  clear ez
  show j_V jP _ 225 13 lv [.int (m_link0 w x1 2)] h _
  refine j_V.stL mc0_M mc0_13 rfl (i := 3) (kd := 0) (kl' := [(0, .ref 359), (1, .int x1), (2, .int (m_link0 w x1 0)), (3, .int (m_link0 w x1 2))]) (pcJ := 14) rfl L rfl (by decide) rfl rfl rfl (fun lv L => ?_)
  refine j_V.ldL mc0_M mc0_14 rfl (i := 0) (kd := 2) (v := .ref 359) (pcJ := 15) rfl L rfl rfl rfl ?_
  refine j_V.ldL mc0_M mc0_15 rfl (i := 2) (kd := 0) (v := .int (m_link0 w x1 0)) (pcJ := 16) rfl L rfl rfl rfl ?_
  refine j_V.one mc0_M mc0_16 (by decide) (pcJ := 18) (stJ := [.int 6, .int (m_link0 w x1 0), .ref 359]) rfl ?_
  refine j_V.cl mc0_M mc0_18 rfl (md := 3) (mj := 178) rfl (by decide) ma3_M (As := [.ref 359, .int (m_link0 w x1 0), .int 6]) (rest := []) (jk_spl3 (K.at rfl) rfl rfl rfl (Nat.le_of_ble_eq_true rfl) (Nat.le_of_ble_eq_true rfl)) (fun d => ma3_ok (K.fi [359, 360] rfl rfl)) ?_
  rintro r hz ⟨rfl, ez⟩
  rw [ez]
  clear ez
  show j_V jP _ 225 21 lv [.int (m_of w (m_link0 w x1 0) 6)] h _
  refine j_V.one mc0_M mc0_21 (by decide) (pcJ := 22) (stJ := [.int 1, .int (m_of w (m_link0 w x1 0) 6)]) rfl ?_
  refine j_V.cut (b := 75) (stJ := [.int ((if (m_of w (m_link0 w x1 0) 6) = 1 then (if (m_of w (m_link0 w x1 0) 7) = (m_link0 w x1 1) then (if (m_of w (m_link0 w x1 2) 6) = 3 then 0 else (if (m_of w (m_link0 w x1 2) (13 + (m_link0 w x1 1))) = (-1) then 1 else 0)) else 0) else 0) : Int32)]) (fun v => [(0, .ref 359), (1, .int x1), (2, .int (m_link0 w x1 0)), (3, .int (m_link0 w x1 2))]) ((if (m_of w (m_link0 w x1 0) 6) = 1 then (if (m_of w (m_link0 w x1 0) 7) = (m_link0 w x1 1) then (if (m_of w (m_link0 w x1 2) 6) = 3 then 0 else (if (m_of w (m_link0 w x1 2) (13 + (m_link0 w x1 1))) = (-1) then 1 else 0)) else 0) else 0) : Int32) (fun Q kk => ?_) (fun lv L => ?_)
  · refine j_V.icmp mc0_M mc0_22 (t := 74) rfl (fun c22_0 => ?_) (fun c22_0 => ?_)
    · replace c22_0 : ¬ ((m_of w (m_link0 w x1 0) 6) = 1) := jd_ne c22_0
      refine j_V.one mc0_M mc0_74 (by decide) (pcJ := 75) (stJ := [.int 0]) rfl ?_
      exact Eq.subst (motive := fun z => j_V jP _ 225 75 _ (.int z :: []) h Q) (show ((if (m_of w (m_link0 w x1 0) 6) = 1 then (if (m_of w (m_link0 w x1 0) 7) = (m_link0 w x1 1) then (if (m_of w (m_link0 w x1 2) 6) = 3 then 0 else (if (m_of w (m_link0 w x1 2) (13 + (m_link0 w x1 1))) = (-1) then 1 else 0)) else 0) else 0) : Int32) = 0 from (if_neg c22_0).trans (rfl)) (kk _ L)
    · replace c22_0 : (m_of w (m_link0 w x1 0) 6) = 1 := jd_nen c22_0
      refine j_V.ldL mc0_M mc0_25 rfl (i := 0) (kd := 2) (v := .ref 359) (pcJ := 26) rfl L rfl rfl rfl ?_
      refine j_V.ldL mc0_M mc0_26 rfl (i := 2) (kd := 0) (v := .int (m_link0 w x1 0)) (pcJ := 27) rfl L rfl rfl rfl ?_
      refine j_V.one mc0_M mc0_27 (by decide) (pcJ := 29) (stJ := [.int 7, .int (m_link0 w x1 0), .ref 359]) rfl ?_
      refine j_V.cl mc0_M mc0_29 rfl (md := 3) (mj := 178) rfl (by decide) ma3_M (As := [.ref 359, .int (m_link0 w x1 0), .int 7]) (rest := []) (jk_spl3 (K.at rfl) rfl rfl rfl (Nat.le_of_ble_eq_true rfl) (Nat.le_of_ble_eq_true rfl)) (fun d => ma3_ok (K.fi [359, 360] rfl rfl)) ?_
      rintro r hz ⟨rfl, ez⟩
      rw [ez]
      clear ez
      show j_V jP _ 225 32 lv [.int (m_of w (m_link0 w x1 0) 7)] h _
      refine j_V.ldL mc0_M mc0_32 rfl (i := 0) (kd := 2) (v := .ref 359) (pcJ := 33) rfl L rfl rfl rfl ?_
      refine j_V.ldL mc0_M mc0_33 rfl (i := 1) (kd := 0) (v := .int x1) (pcJ := 34) rfl L rfl rfl rfl ?_
      refine j_V.one mc0_M mc0_34 (by decide) (pcJ := 35) (stJ := [.int 1, .int x1, .ref 359, .int (m_of w (m_link0 w x1 0) 7)]) rfl ?_
      refine j_V.cl mc0_M mc0_35 rfl (md := 3) (mj := 224) rfl (by decide) mb9_M (As := [.ref 359, .int x1, .int 1]) (rest := [.int (m_of w (m_link0 w x1 0) 7)]) (jk_spl3 (K.at rfl) rfl rfl rfl (Nat.le_of_ble_eq_true rfl) (Nat.le_of_ble_eq_true rfl)) (fun d => mb9_ok (K.fi [359, 360] rfl rfl)) ?_
      rintro r hz ⟨rfl, ez⟩
      rw [ez]
      clear ez
      show j_V jP _ 225 38 lv [.int (m_link0 w x1 1), .int (m_of w (m_link0 w x1 0) 7)] h _
      refine j_V.icmp mc0_M mc0_38 (t := 74) rfl (fun c38_1 => ?_) (fun c38_1 => ?_)
      · replace c38_1 : ¬ ((m_of w (m_link0 w x1 0) 7) = (m_link0 w x1 1)) := jd_ne c38_1
        refine j_V.one mc0_M mc0_74 (by decide) (pcJ := 75) (stJ := [.int 0]) rfl ?_
        exact Eq.subst (motive := fun z => j_V jP _ 225 75 _ (.int z :: []) h Q) (show ((if (m_of w (m_link0 w x1 0) 6) = 1 then (if (m_of w (m_link0 w x1 0) 7) = (m_link0 w x1 1) then (if (m_of w (m_link0 w x1 2) 6) = 3 then 0 else (if (m_of w (m_link0 w x1 2) (13 + (m_link0 w x1 1))) = (-1) then 1 else 0)) else 0) else 0) : Int32) = 0 from (if_pos c22_0).trans ((if_neg c38_1).trans (rfl))) (kk _ L)
      · replace c38_1 : (m_of w (m_link0 w x1 0) 7) = (m_link0 w x1 1) := jd_nen c38_1
        refine j_V.ldL mc0_M mc0_41 rfl (i := 0) (kd := 2) (v := .ref 359) (pcJ := 42) rfl L rfl rfl rfl ?_
        refine j_V.ldL mc0_M mc0_42 rfl (i := 3) (kd := 0) (v := .int (m_link0 w x1 2)) (pcJ := 43) rfl L rfl rfl rfl ?_
        refine j_V.one mc0_M mc0_43 (by decide) (pcJ := 45) (stJ := [.int 6, .int (m_link0 w x1 2), .ref 359]) rfl ?_
        refine j_V.cl mc0_M mc0_45 rfl (md := 3) (mj := 178) rfl (by decide) ma3_M (As := [.ref 359, .int (m_link0 w x1 2), .int 6]) (rest := []) (jk_spl3 (K.at rfl) rfl rfl rfl (Nat.le_of_ble_eq_true rfl) (Nat.le_of_ble_eq_true rfl)) (fun d => ma3_ok (K.fi [359, 360] rfl rfl)) ?_
        rintro r hz ⟨rfl, ez⟩
        rw [ez]
        clear ez
        show j_V jP _ 225 48 lv [.int (m_of w (m_link0 w x1 2) 6)] h _
        refine j_V.one mc0_M mc0_48 (by decide) (pcJ := 49) (stJ := [.int 3, .int (m_of w (m_link0 w x1 2) 6)]) rfl ?_
        refine j_V.icmp mc0_M mc0_49 (t := 74) rfl (fun c49_2 => ?_) (fun c49_2 => ?_)
        · replace c49_2 : (m_of w (m_link0 w x1 2) 6) = 3 := jd_eq c49_2
          refine j_V.one mc0_M mc0_74 (by decide) (pcJ := 75) (stJ := [.int 0]) rfl ?_
          exact Eq.subst (motive := fun z => j_V jP _ 225 75 _ (.int z :: []) h Q) (show ((if (m_of w (m_link0 w x1 0) 6) = 1 then (if (m_of w (m_link0 w x1 0) 7) = (m_link0 w x1 1) then (if (m_of w (m_link0 w x1 2) 6) = 3 then 0 else (if (m_of w (m_link0 w x1 2) (13 + (m_link0 w x1 1))) = (-1) then 1 else 0)) else 0) else 0) : Int32) = 0 from (if_pos c22_0).trans ((if_pos c38_1).trans ((if_pos c49_2).trans (rfl)))) (kk _ L)
        · replace c49_2 : ¬ ((m_of w (m_link0 w x1 2) 6) = 3) := jd_eqn c49_2
          refine j_V.ldL mc0_M mc0_52 rfl (i := 0) (kd := 2) (v := .ref 359) (pcJ := 53) rfl L rfl rfl rfl ?_
          refine j_V.ldL mc0_M mc0_53 rfl (i := 3) (kd := 0) (v := .int (m_link0 w x1 2)) (pcJ := 54) rfl L rfl rfl rfl ?_
          refine j_V.one mc0_M mc0_54 (by decide) (pcJ := 56) (stJ := [.int 13, .int (m_link0 w x1 2), .ref 359]) rfl ?_
          refine j_V.ldL mc0_M mc0_56 rfl (i := 0) (kd := 2) (v := .ref 359) (pcJ := 57) rfl L rfl rfl rfl ?_
          refine j_V.ldL mc0_M mc0_57 rfl (i := 1) (kd := 0) (v := .int x1) (pcJ := 58) rfl L rfl rfl rfl ?_
          refine j_V.one mc0_M mc0_58 (by decide) (pcJ := 59) (stJ := [.int 1, .int x1, .ref 359, .int 13, .int (m_link0 w x1 2), .ref 359]) rfl ?_
          refine j_V.cl mc0_M mc0_59 rfl (md := 3) (mj := 224) rfl (by decide) mb9_M (As := [.ref 359, .int x1, .int 1]) (rest := [.int 13, .int (m_link0 w x1 2), .ref 359]) (jk_spl3 (K.at rfl) rfl rfl rfl (Nat.le_of_ble_eq_true rfl) (Nat.le_of_ble_eq_true rfl)) (fun d => mb9_ok (K.fi [359, 360] rfl rfl)) ?_
          rintro r hz ⟨rfl, ez⟩
          rw [ez]
          clear ez
          show j_V jP _ 225 62 lv [.int (m_link0 w x1 1), .int 13, .int (m_link0 w x1 2), .ref 359] h _
          refine j_V.one mc0_M mc0_62 (by decide) (pcJ := 63) (stJ := [.int (13 + (m_link0 w x1 1)), .int (m_link0 w x1 2), .ref 359]) rfl ?_
          refine j_V.cl mc0_M mc0_63 rfl (md := 3) (mj := 178) rfl (by decide) ma3_M (As := [.ref 359, .int (m_link0 w x1 2), .int (13 + (m_link0 w x1 1))]) (rest := []) (jk_spl3 (K.at rfl) rfl rfl rfl (Nat.le_of_ble_eq_true rfl) (Nat.le_of_ble_eq_true rfl)) (fun d => ma3_ok (K.fi [359, 360] rfl rfl)) ?_
          rintro r hz ⟨rfl, ez⟩
          rw [ez]
          clear ez
          show j_V jP _ 225 66 lv [.int (m_of w (m_link0 w x1 2) (13 + (m_link0 w x1 1)))] h _
          refine j_V.one mc0_M mc0_66 (by decide) (pcJ := 67) (stJ := [.int (-1), .int (m_of w (m_link0 w x1 2) (13 + (m_link0 w x1 1)))]) rfl ?_
          refine j_V.icmp mc0_M mc0_67 (t := 74) rfl (fun c67_3 => ?_) (fun c67_3 => ?_)
          · replace c67_3 : ¬ ((m_of w (m_link0 w x1 2) (13 + (m_link0 w x1 1))) = (-1)) := jd_ne c67_3
            refine j_V.one mc0_M mc0_74 (by decide) (pcJ := 75) (stJ := [.int 0]) rfl ?_
            exact Eq.subst (motive := fun z => j_V jP _ 225 75 _ (.int z :: []) h Q) (show ((if (m_of w (m_link0 w x1 0) 6) = 1 then (if (m_of w (m_link0 w x1 0) 7) = (m_link0 w x1 1) then (if (m_of w (m_link0 w x1 2) 6) = 3 then 0 else (if (m_of w (m_link0 w x1 2) (13 + (m_link0 w x1 1))) = (-1) then 1 else 0)) else 0) else 0) : Int32) = 0 from (if_pos c22_0).trans ((if_pos c38_1).trans ((if_neg c49_2).trans ((if_neg c67_3).trans (rfl))))) (kk _ L)
          · replace c67_3 : (m_of w (m_link0 w x1 2) (13 + (m_link0 w x1 1))) = (-1) := jd_nen c67_3
            refine j_V.one mc0_M mc0_70 (by decide) (pcJ := 71) (stJ := [.int 1]) rfl ?_
            refine j_V.gto mc0_M mc0_71 (t := 75) rfl ?_
            exact Eq.subst (motive := fun z => j_V jP _ 225 75 _ (.int z :: []) h Q) (show ((if (m_of w (m_link0 w x1 0) 6) = 1 then (if (m_of w (m_link0 w x1 0) 7) = (m_link0 w x1 1) then (if (m_of w (m_link0 w x1 2) 6) = 3 then 0 else (if (m_of w (m_link0 w x1 2) (13 + (m_link0 w x1 1))) = (-1) then 1 else 0)) else 0) else 0) : Int32) = 1 from (if_pos c22_0).trans ((if_pos c38_1).trans ((if_neg c49_2).trans ((if_pos c67_3).trans (rfl))))) (kk _ L)
  exact j_V.ri mc0_M mc0_75 ⟨congrArg (fun z => some (Value.int z)) (Eq.symm (show (m_keepsIt w x1) = ((if (m_of w (m_link0 w x1 0) 6) = 1 then (if (m_of w (m_link0 w x1 0) 7) = (m_link0 w x1 1) then (if (m_of w (m_link0 w x1 2) 6) = 3 then 0 else (if (m_of w (m_link0 w x1 2) (13 + (m_link0 w x1 1))) = (-1) then 1 else 0)) else 0) else 0) : Int32) from rfl)), rfl⟩
set_option maxRecDepth 100000 in
theorem mc1_M : j_meth jP 226 = some (yX10_isKept, cX10_isKept, 3, (some .boolean), 1, false, 10) := rfl
set_option maxRecDepth 100000 in
theorem mc1_0 : j_code jP 226 0 = some (.iconst 0) := rfl
set_option maxRecDepth 100000 in
theorem mc1_1 : j_code jP 226 1 = some (.istore_n 2) := rfl
set_option maxRecDepth 100000 in
theorem mc1_2 : j_code jP 226 2 = some (.iload_n 2) := rfl
set_option maxRecDepth 100000 in
theorem mc1_3 : j_code jP 226 3 = some (.aload_n 0) := rfl
set_option maxRecDepth 100000 in
theorem mc1_4 : j_code jP 226 4 = some (.getfield 7) := rfl
set_option maxRecDepth 100000 in
theorem mc1_7 : j_code jP 226 7 = some (.sipush 296) := rfl
set_option maxRecDepth 100000 in
theorem mc1_10 : j_code jP 226 10 = some (.iaload) := rfl
set_option maxRecDepth 100000 in
theorem mc1_11 : j_code jP 226 11 = some (.if_icmp .ge 29) := rfl
set_option maxRecDepth 100000 in
theorem mc1_14 : j_code jP 226 14 = some (.aload_n 0) := rfl
set_option maxRecDepth 100000 in
theorem mc1_15 : j_code jP 226 15 = some (.iload_n 2) := rfl
set_option maxRecDepth 100000 in
theorem mc1_16 : j_code jP 226 16 = some (.iconst 0) := rfl
set_option maxRecDepth 100000 in
theorem mc1_17 : j_code jP 226 17 = some (.invokevirtual 259) := rfl
set_option maxRecDepth 100000 in
theorem mc1_20 : j_code jP 226 20 = some (.iload_n 1) := rfl
set_option maxRecDepth 100000 in
theorem mc1_21 : j_code jP 226 21 = some (.if_icmp .ne 13) := rfl
set_option maxRecDepth 100000 in
theorem mc1_24 : j_code jP 226 24 = some (.aload_n 0) := rfl
set_option maxRecDepth 100000 in
theorem mc1_25 : j_code jP 226 25 = some (.iload_n 2) := rfl
set_option maxRecDepth 100000 in
theorem mc1_26 : j_code jP 226 26 = some (.invokevirtual 262) := rfl
set_option maxRecDepth 100000 in
theorem mc1_29 : j_code jP 226 29 = some (.ifCond .eq 5) := rfl
set_option maxRecDepth 100000 in
theorem mc1_32 : j_code jP 226 32 = some (.iconst 1) := rfl
set_option maxRecDepth 100000 in
theorem mc1_33 : j_code jP 226 33 = some (.ireturn) := rfl
set_option maxRecDepth 100000 in
theorem mc1_34 : j_code jP 226 34 = some (.iinc 2 1) := rfl
set_option maxRecDepth 100000 in
theorem mc1_37 : j_code jP 226 37 = some (.goto (-35)) := rfl
set_option maxRecDepth 100000 in
theorem mc1_40 : j_code jP 226 40 = some (.iconst 0) := rfl
set_option maxRecDepth 100000 in
theorem mc1_41 : j_code jP 226 41 = some (.ireturn) := rfl
def m_isKept_l2 (w : List Int32) (v1 : Int32) : Nat → Int32 → Int32
  | 0, v2 => 0
  | f + 1, v2 => (if (m_link0 w v2 0) = v1 then (if (m_keepsIt w v2) = 0 then (m_isKept_l2 w v1 f ((v2 + 1))) else 1) else (m_isKept_l2 w v1 f ((v2 + 1))))
set_option maxRecDepth 1000000 in
theorem mc1_ok_l2 {u : Nat → Value} {w : List Int32} {v1 : Int32} {d : Nat} {h h0 : J_H} : ∀ (f : Nat) (v2 : Int32) {lv : J_L}, lpN (gA w 296) v2 = f → LK lv [(0, .ref 359), (1, .int v1), (2, .int v2)] → KN h [(359, .inl (10, [(u 0), .ref 360, .ref 361, .ref 362, .ref 363, .ref 364, .ref 365, .ref 366, .ref 367, (u 9), (u 10), (u 11), (u 12), (u 13), (u 14), (u 15), (u 16), (u 17), (u 18), (u 19), (u 20), (u 21), .ref 368, (u 23), .ref 369, .ref 370, .ref 371, (u 27)])), (360, .inr (.inl (0, w)))] h0 → j_V jP d 226 2 lv [] h (fun rv h' => rv = some (.int (m_isKept_l2 w v1 f v2)) ∧ h' = h) := by
  intro f
  induction f with
  | zero =>
    intro v2 lv e L K
    refine j_V.ldL mc1_M mc1_2 rfl (i := 2) (kd := 0) (v := .int v2) (pcJ := 3) rfl L rfl rfl rfl ?_
    refine j_V.ldL mc1_M mc1_3 rfl (i := 0) (kd := 2) (v := .ref 359) (pcJ := 4) rfl L rfl rfl rfl ?_
    refine j_V.getK mc1_M mc1_4 (ci := 10) (j := 1) rfl K rfl rfl ?_
    refine j_V.one mc1_M mc1_7 (by decide) (pcJ := 10) (stJ := [.int 296, .ref 360, .int v2]) rfl ?_
    refine j_V.iaA mc1_M mc1_10 K rfl ?_
    refine j_V.icmp mc1_M mc1_11 (t := 40) rfl (fun c11_0 => ?_) (fun c11_0 => ?_)
    · replace c11_0 : ¬ (v2 < (gA w 296)) := jd_ge c11_0
      refine j_V.one mc1_M mc1_40 (by decide) (pcJ := 41) (stJ := [.int 0]) rfl ?_
      exact j_V.ri mc1_M mc1_41 ⟨congrArg (fun z => some (Value.int z)) (Eq.symm (show (m_isKept_l2 w v1 0 v2) = 0 from rfl)), rfl⟩
    · replace c11_0 : v2 < (gA w 296) := jd_gen c11_0
      exact absurd c11_0 (lpN_z e)
  | succ f ih =>
    intro v2 lv e L K
    refine j_V.ldL mc1_M mc1_2 rfl (i := 2) (kd := 0) (v := .int v2) (pcJ := 3) rfl L rfl rfl rfl ?_
    refine j_V.ldL mc1_M mc1_3 rfl (i := 0) (kd := 2) (v := .ref 359) (pcJ := 4) rfl L rfl rfl rfl ?_
    refine j_V.getK mc1_M mc1_4 (ci := 10) (j := 1) rfl K rfl rfl ?_
    refine j_V.one mc1_M mc1_7 (by decide) (pcJ := 10) (stJ := [.int 296, .ref 360, .int v2]) rfl ?_
    refine j_V.iaA mc1_M mc1_10 K rfl ?_
    refine j_V.icmp mc1_M mc1_11 (t := 40) rfl (fun c11_0 => ?_) (fun c11_0 => ?_)
    · replace c11_0 : ¬ (v2 < (gA w 296)) := jd_ge c11_0
      exact absurd (lpN_s e) c11_0
    · replace c11_0 : v2 < (gA w 296) := jd_gen c11_0
      refine j_V.ldL mc1_M mc1_14 rfl (i := 0) (kd := 2) (v := .ref 359) (pcJ := 15) rfl L rfl rfl rfl ?_
      refine j_V.ldL mc1_M mc1_15 rfl (i := 2) (kd := 0) (v := .int v2) (pcJ := 16) rfl L rfl rfl rfl ?_
      refine j_V.one mc1_M mc1_16 (by decide) (pcJ := 17) (stJ := [.int 0, .int v2, .ref 359]) rfl ?_
      refine j_V.cl mc1_M mc1_17 rfl (md := 3) (mj := 224) rfl (by decide) mb9_M (As := [.ref 359, .int v2, .int 0]) (rest := []) (jk_spl3 (K.at rfl) rfl rfl rfl (Nat.le_of_ble_eq_true rfl) (Nat.le_of_ble_eq_true rfl)) (fun d => mb9_ok (K.fi [359, 360] rfl rfl)) ?_
      rintro r hz ⟨rfl, ez⟩
      rw [ez]
      clear ez
      show j_V jP _ 226 20 lv [.int (m_link0 w v2 0)] h _
      refine j_V.ldL mc1_M mc1_20 rfl (i := 1) (kd := 0) (v := .int v1) (pcJ := 21) rfl L rfl rfl rfl ?_
      refine j_V.icmp mc1_M mc1_21 (t := 34) rfl (fun c21_0 => ?_) (fun c21_0 => ?_)
      · replace c21_0 : ¬ ((m_link0 w v2 0) = v1) := jd_ne c21_0
        refine j_V.inL mc1_M mc1_34 (i := 2) (kl' := [(0, .ref 359), (1, .int v1), (2, .int (v2 + 1))]) (pcJ := 37) L rfl rfl rfl rfl (fun lv L => ?_)
        refine j_V.gto mc1_M mc1_37 (t := 2) rfl ?_
        refine j_V.mono (ih ((v2 + 1)) (lpN_n e) L K) ?_
        rintro r hz ⟨rfl, rfl⟩
        exact ⟨congrArg (fun z => some (Value.int z)) (Eq.symm (show (m_isKept_l2 w v1 (f + 1) v2) = (m_isKept_l2 w v1 f ((v2 + 1))) from (if_neg c21_0).trans (rfl))), rfl⟩
      · replace c21_0 : (m_link0 w v2 0) = v1 := jd_nen c21_0
        refine j_V.ldL mc1_M mc1_24 rfl (i := 0) (kd := 2) (v := .ref 359) (pcJ := 25) rfl L rfl rfl rfl ?_
        refine j_V.ldL mc1_M mc1_25 rfl (i := 2) (kd := 0) (v := .int v2) (pcJ := 26) rfl L rfl rfl rfl ?_
        refine j_V.cl mc1_M mc1_26 rfl (md := 3) (mj := 225) rfl (by decide) mc0_M (As := [.ref 359, .int v2]) (rest := []) (jk_spl3 (K.at rfl) rfl rfl rfl (Nat.le_of_ble_eq_true rfl) (Nat.le_of_ble_eq_true rfl)) (fun d => mc0_ok (K.fi [359, 360] rfl rfl)) ?_
        rintro r hz ⟨rfl, ez⟩
        rw [ez]
        clear ez
        show j_V jP _ 226 29 lv [.int (m_keepsIt w v2)] h _
        refine j_V.ifc mc1_M mc1_29 (t := 34) rfl (fun c29_1 => ?_) (fun c29_1 => ?_)
        · replace c29_1 : (m_keepsIt w v2) = 0 := jd_eq c29_1
          refine j_V.inL mc1_M mc1_34 (i := 2) (kl' := [(0, .ref 359), (1, .int v1), (2, .int (v2 + 1))]) (pcJ := 37) L rfl rfl rfl rfl (fun lv L => ?_)
          refine j_V.gto mc1_M mc1_37 (t := 2) rfl ?_
          refine j_V.mono (ih ((v2 + 1)) (lpN_n e) L K) ?_
          rintro r hz ⟨rfl, rfl⟩
          exact ⟨congrArg (fun z => some (Value.int z)) (Eq.symm (show (m_isKept_l2 w v1 (f + 1) v2) = (m_isKept_l2 w v1 f ((v2 + 1))) from (if_pos c21_0).trans ((if_pos c29_1).trans (rfl)))), rfl⟩
        · replace c29_1 : ¬ ((m_keepsIt w v2) = 0) := jd_eqn c29_1
          refine j_V.one mc1_M mc1_32 (by decide) (pcJ := 33) (stJ := [.int 1]) rfl ?_
          exact j_V.ri mc1_M mc1_33 ⟨congrArg (fun z => some (Value.int z)) (Eq.symm (show (m_isKept_l2 w v1 (f + 1) v2) = 1 from (if_pos c21_0).trans ((if_neg c29_1).trans (rfl)))), rfl⟩
def m_isKept (w : List Int32) (x1 : Int32) : Int32 := (m_isKept_l2 w x1 (lpN (gA w 296) 0) 0)
set_option maxRecDepth 1000000 in
theorem mc1_ok {u : Nat → Value} {w : List Int32} {x1 : Int32} {d : Nat} {h h0 : J_H} (K : KN h [(359, .inl (10, [(u 0), .ref 360, .ref 361, .ref 362, .ref 363, .ref 364, .ref 365, .ref 366, .ref 367, (u 9), (u 10), (u 11), (u 12), (u 13), (u 14), (u 15), (u 16), (u 17), (u 18), (u 19), (u 20), (u 21), .ref 368, (u 23), .ref 369, .ref 370, .ref 371, (u 27)])), (360, .inr (.inl (0, w)))] h0) : j_V jP d 226 0 (lv_args 0 [.ref 359, .int x1]) [] h (fun rv h' => rv = some (.int (m_isKept w x1)) ∧ h' = h) := by
  show j_V jP d 226 0 [(0, .ref 359), (1, .int x1)] [] h _
  obtain ⟨lv, elv, L⟩ : ∃ lv, lv = [(0, .ref 359), (1, .int x1)] ∧ LK lv [(0, .ref 359), (1, .int x1)] := ⟨_, rfl, LK.rf⟩
  rw [← elv]
  clear elv
  refine j_V.one mc1_M mc1_0 (by decide) (pcJ := 1) (stJ := [.int 0]) rfl ?_
  refine j_V.stL mc1_M mc1_1 rfl (i := 2) (kd := 0) (kl' := [(0, .ref 359), (1, .int x1), (2, .int 0)]) (pcJ := 2) rfl L rfl (by decide) rfl rfl rfl (fun lv L => ?_)
  refine j_V.mono (mc1_ok_l2 _ (0) rfl L K) ?_
  rintro r hz ⟨rfl, rfl⟩
  exact ⟨congrArg (fun z => some (Value.int z)) (Eq.symm (show (m_isKept w x1) = (m_isKept_l2 w x1 (lpN (gA w 296) 0) 0) from rfl)), rfl⟩
set_option maxRecDepth 100000 in
theorem mc2_M : j_meth jP 229 = some (yX10_howMany, cX10_howMany, 4, (some .int), 1, false, 10) := rfl
set_option maxRecDepth 100000 in
theorem mc2_0 : j_code jP 229 0 = some (.iconst 0) := rfl
set_option maxRecDepth 100000 in
theorem mc2_1 : j_code jP 229 1 = some (.istore_n 2) := rfl
set_option maxRecDepth 100000 in
theorem mc2_2 : j_code jP 229 2 = some (.iconst 0) := rfl
set_option maxRecDepth 100000 in
theorem mc2_3 : j_code jP 229 3 = some (.istore_n 3) := rfl
set_option maxRecDepth 100000 in
theorem mc2_4 : j_code jP 229 4 = some (.iload_n 3) := rfl
set_option maxRecDepth 100000 in
theorem mc2_5 : j_code jP 229 5 = some (.aload_n 0) := rfl
set_option maxRecDepth 100000 in
theorem mc2_6 : j_code jP 229 6 = some (.getfield 7) := rfl
set_option maxRecDepth 100000 in
theorem mc2_9 : j_code jP 229 9 = some (.sipush 203) := rfl
set_option maxRecDepth 100000 in
theorem mc2_12 : j_code jP 229 12 = some (.iaload) := rfl
set_option maxRecDepth 100000 in
theorem mc2_13 : j_code jP 229 13 = some (.if_icmp .ge 28) := rfl
set_option maxRecDepth 100000 in
theorem mc2_16 : j_code jP 229 16 = some (.iload_n 2) := rfl
set_option maxRecDepth 100000 in
theorem mc2_17 : j_code jP 229 17 = some (.aload_n 0) := rfl
set_option maxRecDepth 100000 in
theorem mc2_18 : j_code jP 229 18 = some (.iload_n 3) := rfl
set_option maxRecDepth 100000 in
theorem mc2_19 : j_code jP 229 19 = some (.bipush 6) := rfl
set_option maxRecDepth 100000 in
theorem mc2_21 : j_code jP 229 21 = some (.invokevirtual 198) := rfl
set_option maxRecDepth 100000 in
theorem mc2_24 : j_code jP 229 24 = some (.iload_n 1) := rfl
set_option maxRecDepth 100000 in
theorem mc2_25 : j_code jP 229 25 = some (.if_icmp .ne 7) := rfl
set_option maxRecDepth 100000 in
theorem mc2_28 : j_code jP 229 28 = some (.iconst 1) := rfl
set_option maxRecDepth 100000 in
theorem mc2_29 : j_code jP 229 29 = some (.goto 4) := rfl
set_option maxRecDepth 100000 in
theorem mc2_32 : j_code jP 229 32 = some (.iconst 0) := rfl
set_option maxRecDepth 100000 in
theorem mc2_33 : j_code jP 229 33 = some (.iadd) := rfl
set_option maxRecDepth 100000 in
theorem mc2_34 : j_code jP 229 34 = some (.istore_n 2) := rfl
set_option maxRecDepth 100000 in
theorem mc2_35 : j_code jP 229 35 = some (.iinc 3 1) := rfl
set_option maxRecDepth 100000 in
theorem mc2_38 : j_code jP 229 38 = some (.goto (-34)) := rfl
set_option maxRecDepth 100000 in
theorem mc2_41 : j_code jP 229 41 = some (.iload_n 2) := rfl
set_option maxRecDepth 100000 in
theorem mc2_42 : j_code jP 229 42 = some (.ireturn) := rfl
def m_howMany_l4 (w : List Int32) (v1 : Int32) : Nat → Int32 → Int32 → Int32
  | 0, v3, v2 => v2
  | f + 1, v3, v2 => (m_howMany_l4 w v1 f ((v3 + 1)) ((v2 + ((if (m_of w v3 6) = v1 then 1 else 0) : Int32))))
set_option maxRecDepth 1000000 in
theorem mc2_ok_l4 {u : Nat → Value} {w : List Int32} {v1 : Int32} {d : Nat} {h h0 : J_H} : ∀ (f : Nat) (v3 v2 : Int32) {lv : J_L}, lpN (gA w 203) v3 = f → LK lv [(0, .ref 359), (1, .int v1), (2, .int v2), (3, .int v3)] → KN h [(359, .inl (10, [(u 0), .ref 360, .ref 361, .ref 362, .ref 363, .ref 364, .ref 365, .ref 366, .ref 367, (u 9), (u 10), (u 11), (u 12), (u 13), (u 14), (u 15), (u 16), (u 17), (u 18), (u 19), (u 20), (u 21), .ref 368, (u 23), .ref 369, .ref 370, .ref 371, (u 27)])), (360, .inr (.inl (0, w)))] h0 → j_V jP d 229 4 lv [] h (fun rv h' => rv = some (.int (m_howMany_l4 w v1 f v3 v2)) ∧ h' = h) := by
  intro f
  induction f with
  | zero =>
    intro v3 v2 lv e L K
    refine j_V.ldL mc2_M mc2_4 rfl (i := 3) (kd := 0) (v := .int v3) (pcJ := 5) rfl L rfl rfl rfl ?_
    refine j_V.ldL mc2_M mc2_5 rfl (i := 0) (kd := 2) (v := .ref 359) (pcJ := 6) rfl L rfl rfl rfl ?_
    refine j_V.getK mc2_M mc2_6 (ci := 10) (j := 1) rfl K rfl rfl ?_
    refine j_V.one mc2_M mc2_9 (by decide) (pcJ := 12) (stJ := [.int 203, .ref 360, .int v3]) rfl ?_
    refine j_V.iaA mc2_M mc2_12 K rfl ?_
    refine j_V.icmp mc2_M mc2_13 (t := 41) rfl (fun c13_0 => ?_) (fun c13_0 => ?_)
    · replace c13_0 : ¬ (v3 < (gA w 203)) := jd_ge c13_0
      refine j_V.ldL mc2_M mc2_41 rfl (i := 2) (kd := 0) (v := .int v2) (pcJ := 42) rfl L rfl rfl rfl ?_
      exact j_V.ri mc2_M mc2_42 ⟨congrArg (fun z => some (Value.int z)) (Eq.symm (show (m_howMany_l4 w v1 0 v3 v2) = v2 from rfl)), rfl⟩
    · replace c13_0 : v3 < (gA w 203) := jd_gen c13_0
      exact absurd c13_0 (lpN_z e)
  | succ f ih =>
    intro v3 v2 lv e L K
    refine j_V.ldL mc2_M mc2_4 rfl (i := 3) (kd := 0) (v := .int v3) (pcJ := 5) rfl L rfl rfl rfl ?_
    refine j_V.ldL mc2_M mc2_5 rfl (i := 0) (kd := 2) (v := .ref 359) (pcJ := 6) rfl L rfl rfl rfl ?_
    refine j_V.getK mc2_M mc2_6 (ci := 10) (j := 1) rfl K rfl rfl ?_
    refine j_V.one mc2_M mc2_9 (by decide) (pcJ := 12) (stJ := [.int 203, .ref 360, .int v3]) rfl ?_
    refine j_V.iaA mc2_M mc2_12 K rfl ?_
    refine j_V.icmp mc2_M mc2_13 (t := 41) rfl (fun c13_0 => ?_) (fun c13_0 => ?_)
    · replace c13_0 : ¬ (v3 < (gA w 203)) := jd_ge c13_0
      exact absurd (lpN_s e) c13_0
    · replace c13_0 : v3 < (gA w 203) := jd_gen c13_0
      refine j_V.ldL mc2_M mc2_16 rfl (i := 2) (kd := 0) (v := .int v2) (pcJ := 17) rfl L rfl rfl rfl ?_
      refine j_V.ldL mc2_M mc2_17 rfl (i := 0) (kd := 2) (v := .ref 359) (pcJ := 18) rfl L rfl rfl rfl ?_
      refine j_V.ldL mc2_M mc2_18 rfl (i := 3) (kd := 0) (v := .int v3) (pcJ := 19) rfl L rfl rfl rfl ?_
      refine j_V.one mc2_M mc2_19 (by decide) (pcJ := 21) (stJ := [.int 6, .int v3, .ref 359, .int v2]) rfl ?_
      refine j_V.cl mc2_M mc2_21 rfl (md := 3) (mj := 178) rfl (by decide) ma3_M (As := [.ref 359, .int v3, .int 6]) (rest := [.int v2]) (jk_spl3 (K.at rfl) rfl rfl rfl (Nat.le_of_ble_eq_true rfl) (Nat.le_of_ble_eq_true rfl)) (fun d => ma3_ok (K.fi [359, 360] rfl rfl)) ?_
      rintro r hz ⟨rfl, ez⟩
      rw [ez]
      clear ez
      show j_V jP _ 229 24 lv [.int (m_of w v3 6), .int v2] h _
      refine j_V.ldL mc2_M mc2_24 rfl (i := 1) (kd := 0) (v := .int v1) (pcJ := 25) rfl L rfl rfl rfl ?_
      refine j_V.cut (b := 33) (stJ := [.int ((if (m_of w v3 6) = v1 then 1 else 0) : Int32), .int v2]) (fun v => [(0, .ref 359), (1, .int v1), (2, .int v2), (3, .int v3)]) ((if (m_of w v3 6) = v1 then 1 else 0) : Int32) (fun Q kk => ?_) (fun lv L => ?_)
      · refine j_V.icmp mc2_M mc2_25 (t := 32) rfl (fun c25_0 => ?_) (fun c25_0 => ?_)
        · replace c25_0 : ¬ ((m_of w v3 6) = v1) := jd_ne c25_0
          refine j_V.one mc2_M mc2_32 (by decide) (pcJ := 33) (stJ := [.int 0, .int v2]) rfl ?_
          exact Eq.subst (motive := fun z => j_V jP _ 229 33 _ (.int z :: [.int v2]) h Q) (show ((if (m_of w v3 6) = v1 then 1 else 0) : Int32) = 0 from (if_neg c25_0).trans (rfl)) (kk _ L)
        · replace c25_0 : (m_of w v3 6) = v1 := jd_nen c25_0
          refine j_V.one mc2_M mc2_28 (by decide) (pcJ := 29) (stJ := [.int 1, .int v2]) rfl ?_
          refine j_V.gto mc2_M mc2_29 (t := 33) rfl ?_
          exact Eq.subst (motive := fun z => j_V jP _ 229 33 _ (.int z :: [.int v2]) h Q) (show ((if (m_of w v3 6) = v1 then 1 else 0) : Int32) = 1 from (if_pos c25_0).trans (rfl)) (kk _ L)
      refine j_V.one mc2_M mc2_33 (by decide) (pcJ := 34) (stJ := [.int (v2 + ((if (m_of w v3 6) = v1 then 1 else 0) : Int32))]) rfl ?_
      refine j_V.stL mc2_M mc2_34 rfl (i := 2) (kd := 0) (kl' := [(0, .ref 359), (1, .int v1), (2, .int (v2 + ((if (m_of w v3 6) = v1 then 1 else 0) : Int32))), (3, .int v3)]) (pcJ := 35) rfl L rfl (by decide) rfl rfl rfl (fun lv L => ?_)
      refine j_V.inL mc2_M mc2_35 (i := 3) (kl' := [(0, .ref 359), (1, .int v1), (2, .int (v2 + ((if (m_of w v3 6) = v1 then 1 else 0) : Int32))), (3, .int (v3 + 1))]) (pcJ := 38) L rfl rfl rfl rfl (fun lv L => ?_)
      refine j_V.gto mc2_M mc2_38 (t := 4) rfl ?_
      refine j_V.mono (ih ((v3 + 1)) ((v2 + ((if (m_of w v3 6) = v1 then 1 else 0) : Int32))) (lpN_n e) L K) ?_
      rintro r hz ⟨rfl, rfl⟩
      exact ⟨congrArg (fun z => some (Value.int z)) (Eq.symm (show (m_howMany_l4 w v1 (f + 1) v3 v2) = (m_howMany_l4 w v1 f ((v3 + 1)) ((v2 + ((if (m_of w v3 6) = v1 then 1 else 0) : Int32)))) from rfl)), rfl⟩
def m_howMany (w : List Int32) (x1 : Int32) : Int32 := (m_howMany_l4 w x1 (lpN (gA w 203) 0) 0 0)
set_option maxRecDepth 1000000 in
theorem mc2_ok {u : Nat → Value} {w : List Int32} {x1 : Int32} {d : Nat} {h h0 : J_H} (K : KN h [(359, .inl (10, [(u 0), .ref 360, .ref 361, .ref 362, .ref 363, .ref 364, .ref 365, .ref 366, .ref 367, (u 9), (u 10), (u 11), (u 12), (u 13), (u 14), (u 15), (u 16), (u 17), (u 18), (u 19), (u 20), (u 21), .ref 368, (u 23), .ref 369, .ref 370, .ref 371, (u 27)])), (360, .inr (.inl (0, w)))] h0) : j_V jP d 229 0 (lv_args 0 [.ref 359, .int x1]) [] h (fun rv h' => rv = some (.int (m_howMany w x1)) ∧ h' = h) := by
  show j_V jP d 229 0 [(0, .ref 359), (1, .int x1)] [] h _
  obtain ⟨lv, elv, L⟩ : ∃ lv, lv = [(0, .ref 359), (1, .int x1)] ∧ LK lv [(0, .ref 359), (1, .int x1)] := ⟨_, rfl, LK.rf⟩
  rw [← elv]
  clear elv
  refine j_V.one mc2_M mc2_0 (by decide) (pcJ := 1) (stJ := [.int 0]) rfl ?_
  refine j_V.stL mc2_M mc2_1 rfl (i := 2) (kd := 0) (kl' := [(0, .ref 359), (1, .int x1), (2, .int 0)]) (pcJ := 2) rfl L rfl (by decide) rfl rfl rfl (fun lv L => ?_)
  refine j_V.one mc2_M mc2_2 (by decide) (pcJ := 3) (stJ := [.int 0]) rfl ?_
  refine j_V.stL mc2_M mc2_3 rfl (i := 3) (kd := 0) (kl' := [(0, .ref 359), (1, .int x1), (2, .int 0), (3, .int 0)]) (pcJ := 4) rfl L rfl (by decide) rfl rfl rfl (fun lv L => ?_)
  refine j_V.mono (mc2_ok_l4 _ (0) (0) rfl L K) ?_
  rintro r hz ⟨rfl, rfl⟩
  exact ⟨congrArg (fun z => some (Value.int z)) (Eq.symm (show (m_howMany w x1) = (m_howMany_l4 w x1 (lpN (gA w 203) 0) 0 0) from rfl)), rfl⟩
set_option maxRecDepth 100000 in
theorem mc3_M : j_meth jP 230 = some (yX10_price, cX10_price, 3, (some .int), 0, false, 10) := rfl
set_option maxRecDepth 100000 in
theorem mc3_0 : j_code jP 230 0 = some (.iconst 0) := rfl
set_option maxRecDepth 100000 in
theorem mc3_1 : j_code jP 230 1 = some (.istore_n 1) := rfl
set_option maxRecDepth 100000 in
theorem mc3_2 : j_code jP 230 2 = some (.iconst 0) := rfl
set_option maxRecDepth 100000 in
theorem mc3_3 : j_code jP 230 3 = some (.istore_n 2) := rfl
set_option maxRecDepth 100000 in
theorem mc3_4 : j_code jP 230 4 = some (.iload_n 2) := rfl
set_option maxRecDepth 100000 in
theorem mc3_5 : j_code jP 230 5 = some (.aload_n 0) := rfl
set_option maxRecDepth 100000 in
theorem mc3_6 : j_code jP 230 6 = some (.getfield 7) := rfl
set_option maxRecDepth 100000 in
theorem mc3_9 : j_code jP 230 9 = some (.sipush 203) := rfl
set_option maxRecDepth 100000 in
theorem mc3_12 : j_code jP 230 12 = some (.iaload) := rfl
set_option maxRecDepth 100000 in
theorem mc3_13 : j_code jP 230 13 = some (.if_icmp .ge 41) := rfl
set_option maxRecDepth 100000 in
theorem mc3_16 : j_code jP 230 16 = some (.iload_n 1) := rfl
set_option maxRecDepth 100000 in
theorem mc3_17 : j_code jP 230 17 = some (.aload_n 0) := rfl
set_option maxRecDepth 100000 in
theorem mc3_18 : j_code jP 230 18 = some (.iload_n 2) := rfl
set_option maxRecDepth 100000 in
theorem mc3_19 : j_code jP 230 19 = some (.iconst 5) := rfl
set_option maxRecDepth 100000 in
theorem mc3_20 : j_code jP 230 20 = some (.invokevirtual 198) := rfl
set_option maxRecDepth 100000 in
theorem mc3_23 : j_code jP 230 23 = some (.aload_n 0) := rfl
set_option maxRecDepth 100000 in
theorem mc3_24 : j_code jP 230 24 = some (.iload_n 2) := rfl
set_option maxRecDepth 100000 in
theorem mc3_25 : j_code jP 230 25 = some (.bipush 6) := rfl
set_option maxRecDepth 100000 in
theorem mc3_27 : j_code jP 230 27 = some (.invokevirtual 198) := rfl
set_option maxRecDepth 100000 in
theorem mc3_30 : j_code jP 230 30 = some (.iconst 3) := rfl
set_option maxRecDepth 100000 in
theorem mc3_31 : j_code jP 230 31 = some (.if_icmp .ne 11) := rfl
set_option maxRecDepth 100000 in
theorem mc3_34 : j_code jP 230 34 = some (.aload_n 0) := rfl
set_option maxRecDepth 100000 in
theorem mc3_35 : j_code jP 230 35 = some (.iload_n 2) := rfl
set_option maxRecDepth 100000 in
theorem mc3_36 : j_code jP 230 36 = some (.invokevirtual 282) := rfl
set_option maxRecDepth 100000 in
theorem mc3_39 : j_code jP 230 39 = some (.goto 6) := rfl
set_option maxRecDepth 100000 in
theorem mc3_42 : j_code jP 230 42 = some (.sipush 1000) := rfl
set_option maxRecDepth 100000 in
theorem mc3_45 : j_code jP 230 45 = some (.imul) := rfl
set_option maxRecDepth 100000 in
theorem mc3_46 : j_code jP 230 46 = some (.iadd) := rfl
set_option maxRecDepth 100000 in
theorem mc3_47 : j_code jP 230 47 = some (.istore_n 1) := rfl
set_option maxRecDepth 100000 in
theorem mc3_48 : j_code jP 230 48 = some (.iinc 2 1) := rfl
set_option maxRecDepth 100000 in
theorem mc3_51 : j_code jP 230 51 = some (.goto (-47)) := rfl
set_option maxRecDepth 100000 in
theorem mc3_54 : j_code jP 230 54 = some (.iload_n 1) := rfl
set_option maxRecDepth 100000 in
theorem mc3_55 : j_code jP 230 55 = some (.ireturn) := rfl
def m_price_l4 (w : List Int32) : Nat → Int32 → Int32 → Int32
  | 0, v2, v1 => v1
  | f + 1, v2, v1 => (m_price_l4 w f ((v2 + 1)) ((v1 + ((m_of w v2 5) * ((if (m_of w v2 6) = 3 then (m_delayOf w v2) else 1000) : Int32)))))
set_option maxRecDepth 1000000 in
theorem mc3_ok_l4 {u : Nat → Value} {w : List Int32} {d : Nat} {h h0 : J_H} : ∀ (f : Nat) (v2 v1 : Int32) {lv : J_L}, lpN (gA w 203) v2 = f → LK lv [(0, .ref 359), (1, .int v1), (2, .int v2)] → KN h [(359, .inl (10, [(u 0), .ref 360, .ref 361, .ref 362, .ref 363, .ref 364, .ref 365, .ref 366, .ref 367, (u 9), (u 10), (u 11), (u 12), (u 13), (u 14), (u 15), (u 16), (u 17), (u 18), (u 19), (u 20), (u 21), .ref 368, (u 23), .ref 369, .ref 370, .ref 371, (u 27)])), (360, .inr (.inl (0, w)))] h0 → j_V jP d 230 4 lv [] h (fun rv h' => rv = some (.int (m_price_l4 w f v2 v1)) ∧ h' = h) := by
  intro f
  induction f with
  | zero =>
    intro v2 v1 lv e L K
    refine j_V.ldL mc3_M mc3_4 rfl (i := 2) (kd := 0) (v := .int v2) (pcJ := 5) rfl L rfl rfl rfl ?_
    refine j_V.ldL mc3_M mc3_5 rfl (i := 0) (kd := 2) (v := .ref 359) (pcJ := 6) rfl L rfl rfl rfl ?_
    refine j_V.getK mc3_M mc3_6 (ci := 10) (j := 1) rfl K rfl rfl ?_
    refine j_V.one mc3_M mc3_9 (by decide) (pcJ := 12) (stJ := [.int 203, .ref 360, .int v2]) rfl ?_
    refine j_V.iaA mc3_M mc3_12 K rfl ?_
    refine j_V.icmp mc3_M mc3_13 (t := 54) rfl (fun c13_0 => ?_) (fun c13_0 => ?_)
    · replace c13_0 : ¬ (v2 < (gA w 203)) := jd_ge c13_0
      refine j_V.ldL mc3_M mc3_54 rfl (i := 1) (kd := 0) (v := .int v1) (pcJ := 55) rfl L rfl rfl rfl ?_
      exact j_V.ri mc3_M mc3_55 ⟨congrArg (fun z => some (Value.int z)) (Eq.symm (show (m_price_l4 w 0 v2 v1) = v1 from rfl)), rfl⟩
    · replace c13_0 : v2 < (gA w 203) := jd_gen c13_0
      exact absurd c13_0 (lpN_z e)
  | succ f ih =>
    intro v2 v1 lv e L K
    refine j_V.ldL mc3_M mc3_4 rfl (i := 2) (kd := 0) (v := .int v2) (pcJ := 5) rfl L rfl rfl rfl ?_
    refine j_V.ldL mc3_M mc3_5 rfl (i := 0) (kd := 2) (v := .ref 359) (pcJ := 6) rfl L rfl rfl rfl ?_
    refine j_V.getK mc3_M mc3_6 (ci := 10) (j := 1) rfl K rfl rfl ?_
    refine j_V.one mc3_M mc3_9 (by decide) (pcJ := 12) (stJ := [.int 203, .ref 360, .int v2]) rfl ?_
    refine j_V.iaA mc3_M mc3_12 K rfl ?_
    refine j_V.icmp mc3_M mc3_13 (t := 54) rfl (fun c13_0 => ?_) (fun c13_0 => ?_)
    · replace c13_0 : ¬ (v2 < (gA w 203)) := jd_ge c13_0
      exact absurd (lpN_s e) c13_0
    · replace c13_0 : v2 < (gA w 203) := jd_gen c13_0
      refine j_V.ldL mc3_M mc3_16 rfl (i := 1) (kd := 0) (v := .int v1) (pcJ := 17) rfl L rfl rfl rfl ?_
      refine j_V.ldL mc3_M mc3_17 rfl (i := 0) (kd := 2) (v := .ref 359) (pcJ := 18) rfl L rfl rfl rfl ?_
      refine j_V.ldL mc3_M mc3_18 rfl (i := 2) (kd := 0) (v := .int v2) (pcJ := 19) rfl L rfl rfl rfl ?_
      refine j_V.one mc3_M mc3_19 (by decide) (pcJ := 20) (stJ := [.int 5, .int v2, .ref 359, .int v1]) rfl ?_
      refine j_V.cl mc3_M mc3_20 rfl (md := 3) (mj := 178) rfl (by decide) ma3_M (As := [.ref 359, .int v2, .int 5]) (rest := [.int v1]) (jk_spl3 (K.at rfl) rfl rfl rfl (Nat.le_of_ble_eq_true rfl) (Nat.le_of_ble_eq_true rfl)) (fun d => ma3_ok (K.fi [359, 360] rfl rfl)) ?_
      rintro r hz ⟨rfl, ez⟩
      rw [ez]
      clear ez
      show j_V jP _ 230 23 lv [.int (m_of w v2 5), .int v1] h _
      refine j_V.ldL mc3_M mc3_23 rfl (i := 0) (kd := 2) (v := .ref 359) (pcJ := 24) rfl L rfl rfl rfl ?_
      refine j_V.ldL mc3_M mc3_24 rfl (i := 2) (kd := 0) (v := .int v2) (pcJ := 25) rfl L rfl rfl rfl ?_
      refine j_V.one mc3_M mc3_25 (by decide) (pcJ := 27) (stJ := [.int 6, .int v2, .ref 359, .int (m_of w v2 5), .int v1]) rfl ?_
      refine j_V.cl mc3_M mc3_27 rfl (md := 3) (mj := 178) rfl (by decide) ma3_M (As := [.ref 359, .int v2, .int 6]) (rest := [.int (m_of w v2 5), .int v1]) (jk_spl3 (K.at rfl) rfl rfl rfl (Nat.le_of_ble_eq_true rfl) (Nat.le_of_ble_eq_true rfl)) (fun d => ma3_ok (K.fi [359, 360] rfl rfl)) ?_
      rintro r hz ⟨rfl, ez⟩
      rw [ez]
      clear ez
      show j_V jP _ 230 30 lv [.int (m_of w v2 6), .int (m_of w v2 5), .int v1] h _
      refine j_V.one mc3_M mc3_30 (by decide) (pcJ := 31) (stJ := [.int 3, .int (m_of w v2 6), .int (m_of w v2 5), .int v1]) rfl ?_
      refine j_V.cut (b := 45) (stJ := [.int ((if (m_of w v2 6) = 3 then (m_delayOf w v2) else 1000) : Int32), .int (m_of w v2 5), .int v1]) (fun v => [(0, .ref 359), (1, .int v1), (2, .int v2)]) ((if (m_of w v2 6) = 3 then (m_delayOf w v2) else 1000) : Int32) (fun Q kk => ?_) (fun lv L => ?_)
      · refine j_V.icmp mc3_M mc3_31 (t := 42) rfl (fun c31_0 => ?_) (fun c31_0 => ?_)
        · replace c31_0 : ¬ ((m_of w v2 6) = 3) := jd_ne c31_0
          refine j_V.one mc3_M mc3_42 (by decide) (pcJ := 45) (stJ := [.int 1000, .int (m_of w v2 5), .int v1]) rfl ?_
          exact Eq.subst (motive := fun z => j_V jP _ 230 45 _ (.int z :: [.int (m_of w v2 5), .int v1]) h Q) (show ((if (m_of w v2 6) = 3 then (m_delayOf w v2) else 1000) : Int32) = 1000 from (if_neg c31_0).trans (rfl)) (kk _ L)
        · replace c31_0 : (m_of w v2 6) = 3 := jd_nen c31_0
          refine j_V.ldL mc3_M mc3_34 rfl (i := 0) (kd := 2) (v := .ref 359) (pcJ := 35) rfl L rfl rfl rfl ?_
          refine j_V.ldL mc3_M mc3_35 rfl (i := 2) (kd := 0) (v := .int v2) (pcJ := 36) rfl L rfl rfl rfl ?_
          refine j_V.cl mc3_M mc3_36 rfl (md := 3) (mj := 213) rfl (by decide) mb4_M (As := [.ref 359, .int v2]) (rest := [.int (m_of w v2 5), .int v1]) (jk_spl3 (K.at rfl) rfl rfl rfl (Nat.le_of_ble_eq_true rfl) (Nat.le_of_ble_eq_true rfl)) (fun d => mb4_ok (K.fi [359, 360] rfl rfl)) ?_
          rintro r hz ⟨rfl, ez⟩
          rw [ez]
          clear ez
          show j_V jP _ 230 39 lv [.int (m_delayOf w v2), .int (m_of w v2 5), .int v1] h _
          refine j_V.gto mc3_M mc3_39 (t := 45) rfl ?_
          exact Eq.subst (motive := fun z => j_V jP _ 230 45 _ (.int z :: [.int (m_of w v2 5), .int v1]) h Q) (show ((if (m_of w v2 6) = 3 then (m_delayOf w v2) else 1000) : Int32) = (m_delayOf w v2) from (if_pos c31_0).trans (rfl)) (kk _ L)
      refine j_V.one mc3_M mc3_45 (by decide) (pcJ := 46) (stJ := [.int ((m_of w v2 5) * ((if (m_of w v2 6) = 3 then (m_delayOf w v2) else 1000) : Int32)), .int v1]) rfl ?_
      refine j_V.one mc3_M mc3_46 (by decide) (pcJ := 47) (stJ := [.int (v1 + ((m_of w v2 5) * ((if (m_of w v2 6) = 3 then (m_delayOf w v2) else 1000) : Int32)))]) rfl ?_
      refine j_V.stL mc3_M mc3_47 rfl (i := 1) (kd := 0) (kl' := [(0, .ref 359), (1, .int (v1 + ((m_of w v2 5) * ((if (m_of w v2 6) = 3 then (m_delayOf w v2) else 1000) : Int32)))), (2, .int v2)]) (pcJ := 48) rfl L rfl (by decide) rfl rfl rfl (fun lv L => ?_)
      refine j_V.inL mc3_M mc3_48 (i := 2) (kl' := [(0, .ref 359), (1, .int (v1 + ((m_of w v2 5) * ((if (m_of w v2 6) = 3 then (m_delayOf w v2) else 1000) : Int32)))), (2, .int (v2 + 1))]) (pcJ := 51) L rfl rfl rfl rfl (fun lv L => ?_)
      refine j_V.gto mc3_M mc3_51 (t := 4) rfl ?_
      refine j_V.mono (ih ((v2 + 1)) ((v1 + ((m_of w v2 5) * ((if (m_of w v2 6) = 3 then (m_delayOf w v2) else 1000) : Int32)))) (lpN_n e) L K) ?_
      rintro r hz ⟨rfl, rfl⟩
      exact ⟨congrArg (fun z => some (Value.int z)) (Eq.symm (show (m_price_l4 w (f + 1) v2 v1) = (m_price_l4 w f ((v2 + 1)) ((v1 + ((m_of w v2 5) * ((if (m_of w v2 6) = 3 then (m_delayOf w v2) else 1000) : Int32))))) from rfl)), rfl⟩
def m_price (w : List Int32) : Int32 := (m_price_l4 w (lpN (gA w 203) 0) 0 0)
set_option maxRecDepth 1000000 in
theorem mc3_ok {u : Nat → Value} {w : List Int32} {d : Nat} {h h0 : J_H} (K : KN h [(359, .inl (10, [(u 0), .ref 360, .ref 361, .ref 362, .ref 363, .ref 364, .ref 365, .ref 366, .ref 367, (u 9), (u 10), (u 11), (u 12), (u 13), (u 14), (u 15), (u 16), (u 17), (u 18), (u 19), (u 20), (u 21), .ref 368, (u 23), .ref 369, .ref 370, .ref 371, (u 27)])), (360, .inr (.inl (0, w)))] h0) : j_V jP d 230 0 (lv_args 0 [.ref 359]) [] h (fun rv h' => rv = some (.int (m_price w)) ∧ h' = h) := by
  show j_V jP d 230 0 [(0, .ref 359)] [] h _
  obtain ⟨lv, elv, L⟩ : ∃ lv, lv = [(0, .ref 359)] ∧ LK lv [(0, .ref 359)] := ⟨_, rfl, LK.rf⟩
  rw [← elv]
  clear elv
  refine j_V.one mc3_M mc3_0 (by decide) (pcJ := 1) (stJ := [.int 0]) rfl ?_
  refine j_V.stL mc3_M mc3_1 rfl (i := 1) (kd := 0) (kl' := [(0, .ref 359), (1, .int 0)]) (pcJ := 2) rfl L rfl (by decide) rfl rfl rfl (fun lv L => ?_)
  refine j_V.one mc3_M mc3_2 (by decide) (pcJ := 3) (stJ := [.int 0]) rfl ?_
  refine j_V.stL mc3_M mc3_3 rfl (i := 2) (kd := 0) (kl' := [(0, .ref 359), (1, .int 0), (2, .int 0)]) (pcJ := 4) rfl L rfl (by decide) rfl rfl rfl (fun lv L => ?_)
  refine j_V.mono (mc3_ok_l4 _ (0) (0) rfl L K) ?_
  rintro r hz ⟨rfl, rfl⟩
  exact ⟨congrArg (fun z => some (Value.int z)) (Eq.symm (show (m_price w) = (m_price_l4 w (lpN (gA w 203) 0) 0 0) from rfl)), rfl⟩
set_option maxRecDepth 100000 in
theorem mc4_M : j_meth jP 233 = some (yX10_greatestDelay, cX10_greatestDelay, 4, (some .int), 0, false, 10) := rfl
set_option maxRecDepth 100000 in
theorem mc4_0 : j_code jP 233 0 = some (.iconst 0) := rfl
set_option maxRecDepth 100000 in
theorem mc4_1 : j_code jP 233 1 = some (.istore_n 1) := rfl
set_option maxRecDepth 100000 in
theorem mc4_2 : j_code jP 233 2 = some (.iconst 0) := rfl
set_option maxRecDepth 100000 in
theorem mc4_3 : j_code jP 233 3 = some (.istore_n 2) := rfl
set_option maxRecDepth 100000 in
theorem mc4_4 : j_code jP 233 4 = some (.iconst 0) := rfl
set_option maxRecDepth 100000 in
theorem mc4_5 : j_code jP 233 5 = some (.istore_n 3) := rfl
set_option maxRecDepth 100000 in
theorem mc4_6 : j_code jP 233 6 = some (.iload_n 3) := rfl
set_option maxRecDepth 100000 in
theorem mc4_7 : j_code jP 233 7 = some (.aload_n 0) := rfl
set_option maxRecDepth 100000 in
theorem mc4_8 : j_code jP 233 8 = some (.getfield 7) := rfl
set_option maxRecDepth 100000 in
theorem mc4_11 : j_code jP 233 11 = some (.sipush 203) := rfl
set_option maxRecDepth 100000 in
theorem mc4_14 : j_code jP 233 14 = some (.iaload) := rfl
set_option maxRecDepth 100000 in
theorem mc4_15 : j_code jP 233 15 = some (.if_icmp .ge 47) := rfl
set_option maxRecDepth 100000 in
theorem mc4_18 : j_code jP 233 18 = some (.aload_n 0) := rfl
set_option maxRecDepth 100000 in
theorem mc4_19 : j_code jP 233 19 = some (.iload_n 3) := rfl
set_option maxRecDepth 100000 in
theorem mc4_20 : j_code jP 233 20 = some (.bipush 6) := rfl
set_option maxRecDepth 100000 in
theorem mc4_22 : j_code jP 233 22 = some (.invokevirtual 198) := rfl
set_option maxRecDepth 100000 in
theorem mc4_25 : j_code jP 233 25 = some (.iconst 3) := rfl
set_option maxRecDepth 100000 in
theorem mc4_26 : j_code jP 233 26 = some (.if_icmp .eq 6) := rfl
set_option maxRecDepth 100000 in
theorem mc4_29 : j_code jP 233 29 = some (.goto 27) := rfl
set_option maxRecDepth 100000 in
theorem mc4_32 : j_code jP 233 32 = some (.iload_n 2) := rfl
set_option maxRecDepth 100000 in
theorem mc4_33 : j_code jP 233 33 = some (.ifCond .eq 15) := rfl
set_option maxRecDepth 100000 in
theorem mc4_36 : j_code jP 233 36 = some (.iload_n 1) := rfl
set_option maxRecDepth 100000 in
theorem mc4_37 : j_code jP 233 37 = some (.aload_n 0) := rfl
set_option maxRecDepth 100000 in
theorem mc4_38 : j_code jP 233 38 = some (.iload_n 3) := rfl
set_option maxRecDepth 100000 in
theorem mc4_39 : j_code jP 233 39 = some (.invokevirtual 282) := rfl
set_option maxRecDepth 100000 in
theorem mc4_42 : j_code jP 233 42 = some (.invokestatic 219) := rfl
set_option maxRecDepth 100000 in
theorem mc4_45 : j_code jP 233 45 = some (.goto 8) := rfl
set_option maxRecDepth 100000 in
theorem mc4_48 : j_code jP 233 48 = some (.aload_n 0) := rfl
set_option maxRecDepth 100000 in
theorem mc4_49 : j_code jP 233 49 = some (.iload_n 3) := rfl
set_option maxRecDepth 100000 in
theorem mc4_50 : j_code jP 233 50 = some (.invokevirtual 282) := rfl
set_option maxRecDepth 100000 in
theorem mc4_53 : j_code jP 233 53 = some (.istore_n 1) := rfl
set_option maxRecDepth 100000 in
theorem mc4_54 : j_code jP 233 54 = some (.iconst 1) := rfl
set_option maxRecDepth 100000 in
theorem mc4_55 : j_code jP 233 55 = some (.istore_n 2) := rfl
set_option maxRecDepth 100000 in
theorem mc4_56 : j_code jP 233 56 = some (.iinc 3 1) := rfl
set_option maxRecDepth 100000 in
theorem mc4_59 : j_code jP 233 59 = some (.goto (-53)) := rfl
set_option maxRecDepth 100000 in
theorem mc4_62 : j_code jP 233 62 = some (.iload_n 1) := rfl
set_option maxRecDepth 100000 in
theorem mc4_63 : j_code jP 233 63 = some (.ireturn) := rfl
def m_greatestDelay_l6 (w : List Int32) : Nat → Int32 → Int32 → Int32 → Int32
  | 0, v3, v1, v2 => v1
  | f + 1, v3, v1, v2 => (if (m_of w v3 6) = 3 then (m_greatestDelay_l6 w f ((v3 + 1)) (((if v2 = 0 then (m_delayOf w v3) else (iMx v1 (m_delayOf w v3))) : Int32)) 1) else (m_greatestDelay_l6 w f ((v3 + 1)) v1 v2))
set_option maxRecDepth 1000000 in
theorem mc4_ok_l6 {u : Nat → Value} {w : List Int32} {d : Nat} {h h0 : J_H} : ∀ (f : Nat) (v3 v1 v2 : Int32) {lv : J_L}, lpN (gA w 203) v3 = f → LK lv [(0, .ref 359), (1, .int v1), (2, .int v2), (3, .int v3)] → KN h [(359, .inl (10, [(u 0), .ref 360, .ref 361, .ref 362, .ref 363, .ref 364, .ref 365, .ref 366, .ref 367, (u 9), (u 10), (u 11), (u 12), (u 13), (u 14), (u 15), (u 16), (u 17), (u 18), (u 19), (u 20), (u 21), .ref 368, (u 23), .ref 369, .ref 370, .ref 371, (u 27)])), (360, .inr (.inl (0, w)))] h0 → j_V jP d 233 6 lv [] h (fun rv h' => rv = some (.int (m_greatestDelay_l6 w f v3 v1 v2)) ∧ h' = h) := by
  intro f
  induction f with
  | zero =>
    intro v3 v1 v2 lv e L K
    refine j_V.ldL mc4_M mc4_6 rfl (i := 3) (kd := 0) (v := .int v3) (pcJ := 7) rfl L rfl rfl rfl ?_
    refine j_V.ldL mc4_M mc4_7 rfl (i := 0) (kd := 2) (v := .ref 359) (pcJ := 8) rfl L rfl rfl rfl ?_
    refine j_V.getK mc4_M mc4_8 (ci := 10) (j := 1) rfl K rfl rfl ?_
    refine j_V.one mc4_M mc4_11 (by decide) (pcJ := 14) (stJ := [.int 203, .ref 360, .int v3]) rfl ?_
    refine j_V.iaA mc4_M mc4_14 K rfl ?_
    refine j_V.icmp mc4_M mc4_15 (t := 62) rfl (fun c15_0 => ?_) (fun c15_0 => ?_)
    · replace c15_0 : ¬ (v3 < (gA w 203)) := jd_ge c15_0
      refine j_V.ldL mc4_M mc4_62 rfl (i := 1) (kd := 0) (v := .int v1) (pcJ := 63) rfl L rfl rfl rfl ?_
      exact j_V.ri mc4_M mc4_63 ⟨congrArg (fun z => some (Value.int z)) (Eq.symm (show (m_greatestDelay_l6 w 0 v3 v1 v2) = v1 from rfl)), rfl⟩
    · replace c15_0 : v3 < (gA w 203) := jd_gen c15_0
      exact absurd c15_0 (lpN_z e)
  | succ f ih =>
    intro v3 v1 v2 lv e L K
    refine j_V.ldL mc4_M mc4_6 rfl (i := 3) (kd := 0) (v := .int v3) (pcJ := 7) rfl L rfl rfl rfl ?_
    refine j_V.ldL mc4_M mc4_7 rfl (i := 0) (kd := 2) (v := .ref 359) (pcJ := 8) rfl L rfl rfl rfl ?_
    refine j_V.getK mc4_M mc4_8 (ci := 10) (j := 1) rfl K rfl rfl ?_
    refine j_V.one mc4_M mc4_11 (by decide) (pcJ := 14) (stJ := [.int 203, .ref 360, .int v3]) rfl ?_
    refine j_V.iaA mc4_M mc4_14 K rfl ?_
    refine j_V.icmp mc4_M mc4_15 (t := 62) rfl (fun c15_0 => ?_) (fun c15_0 => ?_)
    · replace c15_0 : ¬ (v3 < (gA w 203)) := jd_ge c15_0
      exact absurd (lpN_s e) c15_0
    · replace c15_0 : v3 < (gA w 203) := jd_gen c15_0
      refine j_V.ldL mc4_M mc4_18 rfl (i := 0) (kd := 2) (v := .ref 359) (pcJ := 19) rfl L rfl rfl rfl ?_
      refine j_V.ldL mc4_M mc4_19 rfl (i := 3) (kd := 0) (v := .int v3) (pcJ := 20) rfl L rfl rfl rfl ?_
      refine j_V.one mc4_M mc4_20 (by decide) (pcJ := 22) (stJ := [.int 6, .int v3, .ref 359]) rfl ?_
      refine j_V.cl mc4_M mc4_22 rfl (md := 3) (mj := 178) rfl (by decide) ma3_M (As := [.ref 359, .int v3, .int 6]) (rest := []) (jk_spl3 (K.at rfl) rfl rfl rfl (Nat.le_of_ble_eq_true rfl) (Nat.le_of_ble_eq_true rfl)) (fun d => ma3_ok (K.fi [359, 360] rfl rfl)) ?_
      rintro r hz ⟨rfl, ez⟩
      rw [ez]
      clear ez
      show j_V jP _ 233 25 lv [.int (m_of w v3 6)] h _
      refine j_V.one mc4_M mc4_25 (by decide) (pcJ := 26) (stJ := [.int 3, .int (m_of w v3 6)]) rfl ?_
      refine j_V.icmp mc4_M mc4_26 (t := 32) rfl (fun c26_0 => ?_) (fun c26_0 => ?_)
      · replace c26_0 : (m_of w v3 6) = 3 := jd_eq c26_0
        refine j_V.ldL mc4_M mc4_32 rfl (i := 2) (kd := 0) (v := .int v2) (pcJ := 33) rfl L rfl rfl rfl ?_
        refine j_V.cut (b := 53) (stJ := [.int ((if v2 = 0 then (m_delayOf w v3) else (iMx v1 (m_delayOf w v3))) : Int32)]) (fun v => [(0, .ref 359), (1, .int v1), (2, .int v2), (3, .int v3)]) ((if v2 = 0 then (m_delayOf w v3) else (iMx v1 (m_delayOf w v3))) : Int32) (fun Q kk => ?_) (fun lv L => ?_)
        · refine j_V.ifc mc4_M mc4_33 (t := 48) rfl (fun c33_0 => ?_) (fun c33_0 => ?_)
          · replace c33_0 : v2 = 0 := jd_eq c33_0
            refine j_V.ldL mc4_M mc4_48 rfl (i := 0) (kd := 2) (v := .ref 359) (pcJ := 49) rfl L rfl rfl rfl ?_
            refine j_V.ldL mc4_M mc4_49 rfl (i := 3) (kd := 0) (v := .int v3) (pcJ := 50) rfl L rfl rfl rfl ?_
            refine j_V.cl mc4_M mc4_50 rfl (md := 3) (mj := 213) rfl (by decide) mb4_M (As := [.ref 359, .int v3]) (rest := []) (jk_spl3 (K.at rfl) rfl rfl rfl (Nat.le_of_ble_eq_true rfl) (Nat.le_of_ble_eq_true rfl)) (fun d => mb4_ok (K.fi [359, 360] rfl rfl)) ?_
            rintro r hz ⟨rfl, ez⟩
            rw [ez]
            clear ez
            show j_V jP _ 233 53 lv [.int (m_delayOf w v3)] h _
            exact Eq.subst (motive := fun z => j_V jP _ 233 53 _ (.int z :: []) h Q) (show ((if v2 = 0 then (m_delayOf w v3) else (iMx v1 (m_delayOf w v3))) : Int32) = (m_delayOf w v3) from (if_pos c33_0).trans (rfl)) (kk _ L)
          · replace c33_0 : ¬ (v2 = 0) := jd_eqn c33_0
            refine j_V.ldL mc4_M mc4_36 rfl (i := 1) (kd := 0) (v := .int v1) (pcJ := 37) rfl L rfl rfl rfl ?_
            refine j_V.ldL mc4_M mc4_37 rfl (i := 0) (kd := 2) (v := .ref 359) (pcJ := 38) rfl L rfl rfl rfl ?_
            refine j_V.ldL mc4_M mc4_38 rfl (i := 3) (kd := 0) (v := .int v3) (pcJ := 39) rfl L rfl rfl rfl ?_
            refine j_V.cl mc4_M mc4_39 rfl (md := 3) (mj := 213) rfl (by decide) mb4_M (As := [.ref 359, .int v3]) (rest := [.int v1]) (jk_spl3 (K.at rfl) rfl rfl rfl (Nat.le_of_ble_eq_true rfl) (Nat.le_of_ble_eq_true rfl)) (fun d => mb4_ok (K.fi [359, 360] rfl rfl)) ?_
            rintro r hz ⟨rfl, ez⟩
            rw [ez]
            clear ez
            show j_V jP _ 233 42 lv [.int (m_delayOf w v3), .int v1] h _
            refine j_V.mx mc4_M mc4_42 rfl rfl (Nat.le_of_ble_eq_true rfl) ?_
            refine j_V.gto mc4_M mc4_45 (t := 53) rfl ?_
            exact Eq.subst (motive := fun z => j_V jP _ 233 53 _ (.int z :: []) h Q) (show ((if v2 = 0 then (m_delayOf w v3) else (iMx v1 (m_delayOf w v3))) : Int32) = (iMx v1 (m_delayOf w v3)) from (if_neg c33_0).trans (rfl)) (kk _ L)
        refine j_V.stL mc4_M mc4_53 rfl (i := 1) (kd := 0) (kl' := [(0, .ref 359), (1, .int ((if v2 = 0 then (m_delayOf w v3) else (iMx v1 (m_delayOf w v3))) : Int32)), (2, .int v2), (3, .int v3)]) (pcJ := 54) rfl L rfl (by decide) rfl rfl rfl (fun lv L => ?_)
        refine j_V.one mc4_M mc4_54 (by decide) (pcJ := 55) (stJ := [.int 1]) rfl ?_
        refine j_V.stL mc4_M mc4_55 rfl (i := 2) (kd := 0) (kl' := [(0, .ref 359), (1, .int ((if v2 = 0 then (m_delayOf w v3) else (iMx v1 (m_delayOf w v3))) : Int32)), (2, .int 1), (3, .int v3)]) (pcJ := 56) rfl L rfl (by decide) rfl rfl rfl (fun lv L => ?_)
        refine j_V.inL mc4_M mc4_56 (i := 3) (kl' := [(0, .ref 359), (1, .int ((if v2 = 0 then (m_delayOf w v3) else (iMx v1 (m_delayOf w v3))) : Int32)), (2, .int 1), (3, .int (v3 + 1))]) (pcJ := 59) L rfl rfl rfl rfl (fun lv L => ?_)
        refine j_V.gto mc4_M mc4_59 (t := 6) rfl ?_
        refine j_V.mono (ih ((v3 + 1)) (((if v2 = 0 then (m_delayOf w v3) else (iMx v1 (m_delayOf w v3))) : Int32)) (1) (lpN_n e) L K) ?_
        rintro r hz ⟨rfl, rfl⟩
        exact ⟨congrArg (fun z => some (Value.int z)) (Eq.symm (show (m_greatestDelay_l6 w (f + 1) v3 v1 v2) = (m_greatestDelay_l6 w f ((v3 + 1)) (((if v2 = 0 then (m_delayOf w v3) else (iMx v1 (m_delayOf w v3))) : Int32)) 1) from (if_pos c26_0).trans (rfl))), rfl⟩
      · replace c26_0 : ¬ ((m_of w v3 6) = 3) := jd_eqn c26_0
        refine j_V.gto mc4_M mc4_29 (t := 56) rfl ?_
        refine j_V.inL mc4_M mc4_56 (i := 3) (kl' := [(0, .ref 359), (1, .int v1), (2, .int v2), (3, .int (v3 + 1))]) (pcJ := 59) L rfl rfl rfl rfl (fun lv L => ?_)
        refine j_V.gto mc4_M mc4_59 (t := 6) rfl ?_
        refine j_V.mono (ih ((v3 + 1)) (v1) (v2) (lpN_n e) L K) ?_
        rintro r hz ⟨rfl, rfl⟩
        exact ⟨congrArg (fun z => some (Value.int z)) (Eq.symm (show (m_greatestDelay_l6 w (f + 1) v3 v1 v2) = (m_greatestDelay_l6 w f ((v3 + 1)) v1 v2) from (if_neg c26_0).trans (rfl))), rfl⟩
def m_greatestDelay (w : List Int32) : Int32 := (m_greatestDelay_l6 w (lpN (gA w 203) 0) 0 0 0)
set_option maxRecDepth 1000000 in
theorem mc4_ok {u : Nat → Value} {w : List Int32} {d : Nat} {h h0 : J_H} (K : KN h [(359, .inl (10, [(u 0), .ref 360, .ref 361, .ref 362, .ref 363, .ref 364, .ref 365, .ref 366, .ref 367, (u 9), (u 10), (u 11), (u 12), (u 13), (u 14), (u 15), (u 16), (u 17), (u 18), (u 19), (u 20), (u 21), .ref 368, (u 23), .ref 369, .ref 370, .ref 371, (u 27)])), (360, .inr (.inl (0, w)))] h0) : j_V jP d 233 0 (lv_args 0 [.ref 359]) [] h (fun rv h' => rv = some (.int (m_greatestDelay w)) ∧ h' = h) := by
  show j_V jP d 233 0 [(0, .ref 359)] [] h _
  obtain ⟨lv, elv, L⟩ : ∃ lv, lv = [(0, .ref 359)] ∧ LK lv [(0, .ref 359)] := ⟨_, rfl, LK.rf⟩
  rw [← elv]
  clear elv
  refine j_V.one mc4_M mc4_0 (by decide) (pcJ := 1) (stJ := [.int 0]) rfl ?_
  refine j_V.stL mc4_M mc4_1 rfl (i := 1) (kd := 0) (kl' := [(0, .ref 359), (1, .int 0)]) (pcJ := 2) rfl L rfl (by decide) rfl rfl rfl (fun lv L => ?_)
  refine j_V.one mc4_M mc4_2 (by decide) (pcJ := 3) (stJ := [.int 0]) rfl ?_
  refine j_V.stL mc4_M mc4_3 rfl (i := 2) (kd := 0) (kl' := [(0, .ref 359), (1, .int 0), (2, .int 0)]) (pcJ := 4) rfl L rfl (by decide) rfl rfl rfl (fun lv L => ?_)
  refine j_V.one mc4_M mc4_4 (by decide) (pcJ := 5) (stJ := [.int 0]) rfl ?_
  refine j_V.stL mc4_M mc4_5 rfl (i := 3) (kd := 0) (kl' := [(0, .ref 359), (1, .int 0), (2, .int 0), (3, .int 0)]) (pcJ := 6) rfl L rfl (by decide) rfl rfl rfl (fun lv L => ?_)
  refine j_V.mono (mc4_ok_l6 _ (0) (0) (0) rfl L K) ?_
  rintro r hz ⟨rfl, rfl⟩
  exact ⟨congrArg (fun z => some (Value.int z)) (Eq.symm (show (m_greatestDelay w) = (m_greatestDelay_l6 w (lpN (gA w 203) 0) 0 0 0) from rfl)), rfl⟩
set_option maxRecDepth 100000 in
theorem mc5_M : j_meth jP 235 = some (yX10_freeOnes, cX10_freeOnes, 4, (some .int), 1, false, 10) := rfl
set_option maxRecDepth 100000 in
theorem mc5_0 : j_code jP 235 0 = some (.iconst 0) := rfl
set_option maxRecDepth 100000 in
theorem mc5_1 : j_code jP 235 1 = some (.istore_n 2) := rfl
set_option maxRecDepth 100000 in
theorem mc5_2 : j_code jP 235 2 = some (.iconst 0) := rfl
set_option maxRecDepth 100000 in
theorem mc5_3 : j_code jP 235 3 = some (.istore_n 3) := rfl
set_option maxRecDepth 100000 in
theorem mc5_4 : j_code jP 235 4 = some (.iload_n 3) := rfl
set_option maxRecDepth 100000 in
theorem mc5_5 : j_code jP 235 5 = some (.aload_n 0) := rfl
set_option maxRecDepth 100000 in
theorem mc5_6 : j_code jP 235 6 = some (.iload_n 1) := rfl
set_option maxRecDepth 100000 in
theorem mc5_7 : j_code jP 235 7 = some (.iconst 1) := rfl
set_option maxRecDepth 100000 in
theorem mc5_8 : j_code jP 235 8 = some (.invokevirtual 69) := rfl
set_option maxRecDepth 100000 in
theorem mc5_11 : j_code jP 235 11 = some (.if_icmp .ge 26) := rfl
set_option maxRecDepth 100000 in
theorem mc5_14 : j_code jP 235 14 = some (.iload_n 2) := rfl
set_option maxRecDepth 100000 in
theorem mc5_15 : j_code jP 235 15 = some (.aload_n 0) := rfl
set_option maxRecDepth 100000 in
theorem mc5_16 : j_code jP 235 16 = some (.iload_n 1) := rfl
set_option maxRecDepth 100000 in
theorem mc5_17 : j_code jP 235 17 = some (.iload_n 3) := rfl
set_option maxRecDepth 100000 in
theorem mc5_18 : j_code jP 235 18 = some (.invokevirtual 213) := rfl
set_option maxRecDepth 100000 in
theorem mc5_21 : j_code jP 235 21 = some (.ifCond .eq 7) := rfl
set_option maxRecDepth 100000 in
theorem mc5_24 : j_code jP 235 24 = some (.iconst 1) := rfl
set_option maxRecDepth 100000 in
theorem mc5_25 : j_code jP 235 25 = some (.goto 4) := rfl
set_option maxRecDepth 100000 in
theorem mc5_28 : j_code jP 235 28 = some (.iconst 0) := rfl
set_option maxRecDepth 100000 in
theorem mc5_29 : j_code jP 235 29 = some (.iadd) := rfl
set_option maxRecDepth 100000 in
theorem mc5_30 : j_code jP 235 30 = some (.istore_n 2) := rfl
set_option maxRecDepth 100000 in
theorem mc5_31 : j_code jP 235 31 = some (.iinc 3 1) := rfl
set_option maxRecDepth 100000 in
theorem mc5_34 : j_code jP 235 34 = some (.goto (-30)) := rfl
set_option maxRecDepth 100000 in
theorem mc5_37 : j_code jP 235 37 = some (.iload_n 2) := rfl
set_option maxRecDepth 100000 in
theorem mc5_38 : j_code jP 235 38 = some (.ireturn) := rfl
def m_freeOnes_l4 (w : List Int32) (v1 : Int32) : Nat → Int32 → Int32 → Int32
  | 0, v3, v2 => v2
  | f + 1, v3, v2 => (m_freeOnes_l4 w v1 f ((v3 + 1)) ((v2 + ((if (m_isFree w v1 v3) = 0 then 0 else 1) : Int32))))
set_option maxRecDepth 1000000 in
theorem mc5_ok_l4 {u : Nat → Value} {w : List Int32} {v1 : Int32} {d : Nat} {h h0 : J_H} : ∀ (f : Nat) (v3 v2 : Int32) {lv : J_L}, lpN (m_st w v1 1) v3 = f → LK lv [(0, .ref 359), (1, .int v1), (2, .int v2), (3, .int v3)] → KN h [(359, .inl (10, [(u 0), .ref 360, .ref 361, .ref 362, .ref 363, .ref 364, .ref 365, .ref 366, .ref 367, (u 9), (u 10), (u 11), (u 12), (u 13), (u 14), (u 15), (u 16), (u 17), (u 18), (u 19), (u 20), (u 21), .ref 368, (u 23), .ref 369, .ref 370, .ref 371, (u 27)])), (360, .inr (.inl (0, w)))] h0 → j_V jP d 235 4 lv [] h (fun rv h' => rv = some (.int (m_freeOnes_l4 w v1 f v3 v2)) ∧ h' = h) := by
  intro f
  induction f with
  | zero =>
    intro v3 v2 lv e L K
    refine j_V.ldL mc5_M mc5_4 rfl (i := 3) (kd := 0) (v := .int v3) (pcJ := 5) rfl L rfl rfl rfl ?_
    refine j_V.ldL mc5_M mc5_5 rfl (i := 0) (kd := 2) (v := .ref 359) (pcJ := 6) rfl L rfl rfl rfl ?_
    refine j_V.ldL mc5_M mc5_6 rfl (i := 1) (kd := 0) (v := .int v1) (pcJ := 7) rfl L rfl rfl rfl ?_
    refine j_V.one mc5_M mc5_7 (by decide) (pcJ := 8) (stJ := [.int 1, .int v1, .ref 359, .int v3]) rfl ?_
    refine j_V.cl mc5_M mc5_8 rfl (md := 3) (mj := 176) rfl (by decide) ma1_M (As := [.ref 359, .int v1, .int 1]) (rest := [.int v3]) (jk_spl3 (K.at rfl) rfl rfl rfl (Nat.le_of_ble_eq_true rfl) (Nat.le_of_ble_eq_true rfl)) (fun d => ma1_ok (K.fi [359, 360] rfl rfl)) ?_
    rintro r hz ⟨rfl, ez⟩
    rw [ez]
    clear ez
    show j_V jP _ 235 11 lv [.int (m_st w v1 1), .int v3] h _
    refine j_V.icmp mc5_M mc5_11 (t := 37) rfl (fun c11_0 => ?_) (fun c11_0 => ?_)
    · replace c11_0 : ¬ (v3 < (m_st w v1 1)) := jd_ge c11_0
      refine j_V.ldL mc5_M mc5_37 rfl (i := 2) (kd := 0) (v := .int v2) (pcJ := 38) rfl L rfl rfl rfl ?_
      exact j_V.ri mc5_M mc5_38 ⟨congrArg (fun z => some (Value.int z)) (Eq.symm (show (m_freeOnes_l4 w v1 0 v3 v2) = v2 from rfl)), rfl⟩
    · replace c11_0 : v3 < (m_st w v1 1) := jd_gen c11_0
      exact absurd c11_0 (lpN_z e)
  | succ f ih =>
    intro v3 v2 lv e L K
    refine j_V.ldL mc5_M mc5_4 rfl (i := 3) (kd := 0) (v := .int v3) (pcJ := 5) rfl L rfl rfl rfl ?_
    refine j_V.ldL mc5_M mc5_5 rfl (i := 0) (kd := 2) (v := .ref 359) (pcJ := 6) rfl L rfl rfl rfl ?_
    refine j_V.ldL mc5_M mc5_6 rfl (i := 1) (kd := 0) (v := .int v1) (pcJ := 7) rfl L rfl rfl rfl ?_
    refine j_V.one mc5_M mc5_7 (by decide) (pcJ := 8) (stJ := [.int 1, .int v1, .ref 359, .int v3]) rfl ?_
    refine j_V.cl mc5_M mc5_8 rfl (md := 3) (mj := 176) rfl (by decide) ma1_M (As := [.ref 359, .int v1, .int 1]) (rest := [.int v3]) (jk_spl3 (K.at rfl) rfl rfl rfl (Nat.le_of_ble_eq_true rfl) (Nat.le_of_ble_eq_true rfl)) (fun d => ma1_ok (K.fi [359, 360] rfl rfl)) ?_
    rintro r hz ⟨rfl, ez⟩
    rw [ez]
    clear ez
    show j_V jP _ 235 11 lv [.int (m_st w v1 1), .int v3] h _
    refine j_V.icmp mc5_M mc5_11 (t := 37) rfl (fun c11_0 => ?_) (fun c11_0 => ?_)
    · replace c11_0 : ¬ (v3 < (m_st w v1 1)) := jd_ge c11_0
      exact absurd (lpN_s e) c11_0
    · replace c11_0 : v3 < (m_st w v1 1) := jd_gen c11_0
      refine j_V.ldL mc5_M mc5_14 rfl (i := 2) (kd := 0) (v := .int v2) (pcJ := 15) rfl L rfl rfl rfl ?_
      refine j_V.ldL mc5_M mc5_15 rfl (i := 0) (kd := 2) (v := .ref 359) (pcJ := 16) rfl L rfl rfl rfl ?_
      refine j_V.ldL mc5_M mc5_16 rfl (i := 1) (kd := 0) (v := .int v1) (pcJ := 17) rfl L rfl rfl rfl ?_
      refine j_V.ldL mc5_M mc5_17 rfl (i := 3) (kd := 0) (v := .int v3) (pcJ := 18) rfl L rfl rfl rfl ?_
      refine j_V.cl mc5_M mc5_18 rfl (md := 3) (mj := 207) rfl (by decide) ma8_M (As := [.ref 359, .int v1, .int v3]) (rest := [.int v2]) (jk_spl3 (K.at rfl) rfl rfl rfl (Nat.le_of_ble_eq_true rfl) (Nat.le_of_ble_eq_true rfl)) (fun d => ma8_ok (K.fi [359, 360] rfl rfl)) ?_
      rintro r hz ⟨rfl, ez⟩
      rw [ez]
      clear ez
      show j_V jP _ 235 21 lv [.int (m_isFree w v1 v3), .int v2] h _
      refine j_V.cut (b := 29) (stJ := [.int ((if (m_isFree w v1 v3) = 0 then 0 else 1) : Int32), .int v2]) (fun v => [(0, .ref 359), (1, .int v1), (2, .int v2), (3, .int v3)]) ((if (m_isFree w v1 v3) = 0 then 0 else 1) : Int32) (fun Q kk => ?_) (fun lv L => ?_)
      · refine j_V.ifc mc5_M mc5_21 (t := 28) rfl (fun c21_0 => ?_) (fun c21_0 => ?_)
        · replace c21_0 : (m_isFree w v1 v3) = 0 := jd_eq c21_0
          refine j_V.one mc5_M mc5_28 (by decide) (pcJ := 29) (stJ := [.int 0, .int v2]) rfl ?_
          exact Eq.subst (motive := fun z => j_V jP _ 235 29 _ (.int z :: [.int v2]) h Q) (show ((if (m_isFree w v1 v3) = 0 then 0 else 1) : Int32) = 0 from (if_pos c21_0).trans (rfl)) (kk _ L)
        · replace c21_0 : ¬ ((m_isFree w v1 v3) = 0) := jd_eqn c21_0
          refine j_V.one mc5_M mc5_24 (by decide) (pcJ := 25) (stJ := [.int 1, .int v2]) rfl ?_
          refine j_V.gto mc5_M mc5_25 (t := 29) rfl ?_
          exact Eq.subst (motive := fun z => j_V jP _ 235 29 _ (.int z :: [.int v2]) h Q) (show ((if (m_isFree w v1 v3) = 0 then 0 else 1) : Int32) = 1 from (if_neg c21_0).trans (rfl)) (kk _ L)
      refine j_V.one mc5_M mc5_29 (by decide) (pcJ := 30) (stJ := [.int (v2 + ((if (m_isFree w v1 v3) = 0 then 0 else 1) : Int32))]) rfl ?_
      refine j_V.stL mc5_M mc5_30 rfl (i := 2) (kd := 0) (kl' := [(0, .ref 359), (1, .int v1), (2, .int (v2 + ((if (m_isFree w v1 v3) = 0 then 0 else 1) : Int32))), (3, .int v3)]) (pcJ := 31) rfl L rfl (by decide) rfl rfl rfl (fun lv L => ?_)
      refine j_V.inL mc5_M mc5_31 (i := 3) (kl' := [(0, .ref 359), (1, .int v1), (2, .int (v2 + ((if (m_isFree w v1 v3) = 0 then 0 else 1) : Int32))), (3, .int (v3 + 1))]) (pcJ := 34) L rfl rfl rfl rfl (fun lv L => ?_)
      refine j_V.gto mc5_M mc5_34 (t := 4) rfl ?_
      refine j_V.mono (ih ((v3 + 1)) ((v2 + ((if (m_isFree w v1 v3) = 0 then 0 else 1) : Int32))) (lpN_n e) L K) ?_
      rintro r hz ⟨rfl, rfl⟩
      exact ⟨congrArg (fun z => some (Value.int z)) (Eq.symm (show (m_freeOnes_l4 w v1 (f + 1) v3 v2) = (m_freeOnes_l4 w v1 f ((v3 + 1)) ((v2 + ((if (m_isFree w v1 v3) = 0 then 0 else 1) : Int32)))) from rfl)), rfl⟩
def m_freeOnes (w : List Int32) (x1 : Int32) : Int32 := (m_freeOnes_l4 w x1 (lpN (m_st w x1 1) 0) 0 0)
set_option maxRecDepth 1000000 in
theorem mc5_ok {u : Nat → Value} {w : List Int32} {x1 : Int32} {d : Nat} {h h0 : J_H} (K : KN h [(359, .inl (10, [(u 0), .ref 360, .ref 361, .ref 362, .ref 363, .ref 364, .ref 365, .ref 366, .ref 367, (u 9), (u 10), (u 11), (u 12), (u 13), (u 14), (u 15), (u 16), (u 17), (u 18), (u 19), (u 20), (u 21), .ref 368, (u 23), .ref 369, .ref 370, .ref 371, (u 27)])), (360, .inr (.inl (0, w)))] h0) : j_V jP d 235 0 (lv_args 0 [.ref 359, .int x1]) [] h (fun rv h' => rv = some (.int (m_freeOnes w x1)) ∧ h' = h) := by
  show j_V jP d 235 0 [(0, .ref 359), (1, .int x1)] [] h _
  obtain ⟨lv, elv, L⟩ : ∃ lv, lv = [(0, .ref 359), (1, .int x1)] ∧ LK lv [(0, .ref 359), (1, .int x1)] := ⟨_, rfl, LK.rf⟩
  rw [← elv]
  clear elv
  refine j_V.one mc5_M mc5_0 (by decide) (pcJ := 1) (stJ := [.int 0]) rfl ?_
  refine j_V.stL mc5_M mc5_1 rfl (i := 2) (kd := 0) (kl' := [(0, .ref 359), (1, .int x1), (2, .int 0)]) (pcJ := 2) rfl L rfl (by decide) rfl rfl rfl (fun lv L => ?_)
  refine j_V.one mc5_M mc5_2 (by decide) (pcJ := 3) (stJ := [.int 0]) rfl ?_
  refine j_V.stL mc5_M mc5_3 rfl (i := 3) (kd := 0) (kl' := [(0, .ref 359), (1, .int x1), (2, .int 0), (3, .int 0)]) (pcJ := 4) rfl L rfl (by decide) rfl rfl rfl (fun lv L => ?_)
  refine j_V.mono (mc5_ok_l4 _ (0) (0) rfl L K) ?_
  rintro r hz ⟨rfl, rfl⟩
  exact ⟨congrArg (fun z => some (Value.int z)) (Eq.symm (show (m_freeOnes w x1) = (m_freeOnes_l4 w x1 (lpN (m_st w x1 1) 0) 0 0) from rfl)), rfl⟩
set_option maxRecDepth 100000 in
theorem mc6_M : j_meth jP 241 = some (yX10_doesFit, cX10_doesFit, 4, (some .boolean), 2, false, 10) := rfl
set_option maxRecDepth 100000 in
theorem mc6_0 : j_code jP 241 0 = some (.iconst 0) := rfl
set_option maxRecDepth 100000 in
theorem mc6_1 : j_code jP 241 1 = some (.istore_n 3) := rfl
set_option maxRecDepth 100000 in
theorem mc6_2 : j_code jP 241 2 = some (.iload_n 3) := rfl
set_option maxRecDepth 100000 in
theorem mc6_3 : j_code jP 241 3 = some (.aload_n 0) := rfl
set_option maxRecDepth 100000 in
theorem mc6_4 : j_code jP 241 4 = some (.iload_n 2) := rfl
set_option maxRecDepth 100000 in
theorem mc6_5 : j_code jP 241 5 = some (.iconst 1) := rfl
set_option maxRecDepth 100000 in
theorem mc6_6 : j_code jP 241 6 = some (.invokevirtual 69) := rfl
set_option maxRecDepth 100000 in
theorem mc6_9 : j_code jP 241 9 = some (.if_icmp .ge 28) := rfl
set_option maxRecDepth 100000 in
theorem mc6_12 : j_code jP 241 12 = some (.aload_n 0) := rfl
set_option maxRecDepth 100000 in
theorem mc6_13 : j_code jP 241 13 = some (.iload_n 2) := rfl
set_option maxRecDepth 100000 in
theorem mc6_14 : j_code jP 241 14 = some (.iconst 2) := rfl
set_option maxRecDepth 100000 in
theorem mc6_15 : j_code jP 241 15 = some (.iload_n 3) := rfl
set_option maxRecDepth 100000 in
theorem mc6_16 : j_code jP 241 16 = some (.iadd) := rfl
set_option maxRecDepth 100000 in
theorem mc6_17 : j_code jP 241 17 = some (.invokevirtual 69) := rfl
set_option maxRecDepth 100000 in
theorem mc6_20 : j_code jP 241 20 = some (.aload_n 0) := rfl
set_option maxRecDepth 100000 in
theorem mc6_21 : j_code jP 241 21 = some (.iload_n 1) := rfl
set_option maxRecDepth 100000 in
theorem mc6_22 : j_code jP 241 22 = some (.iconst 0) := rfl
set_option maxRecDepth 100000 in
theorem mc6_23 : j_code jP 241 23 = some (.invokevirtual 198) := rfl
set_option maxRecDepth 100000 in
theorem mc6_26 : j_code jP 241 26 = some (.if_icmp .lt 5) := rfl
set_option maxRecDepth 100000 in
theorem mc6_29 : j_code jP 241 29 = some (.iconst 1) := rfl
set_option maxRecDepth 100000 in
theorem mc6_30 : j_code jP 241 30 = some (.ireturn) := rfl
set_option maxRecDepth 100000 in
theorem mc6_31 : j_code jP 241 31 = some (.iinc 3 1) := rfl
set_option maxRecDepth 100000 in
theorem mc6_34 : j_code jP 241 34 = some (.goto (-32)) := rfl
set_option maxRecDepth 100000 in
theorem mc6_37 : j_code jP 241 37 = some (.iconst 0) := rfl
set_option maxRecDepth 100000 in
theorem mc6_38 : j_code jP 241 38 = some (.ireturn) := rfl
def m_doesFit_l2 (w : List Int32) (v1 : Int32) (v2 : Int32) : Nat → Int32 → Int32
  | 0, v3 => 0
  | f + 1, v3 => (if (m_st w v2 (2 + v3)) < (m_of w v1 0) then (m_doesFit_l2 w v1 v2 f ((v3 + 1))) else 1)
set_option maxRecDepth 1000000 in
theorem mc6_ok_l2 {u : Nat → Value} {w : List Int32} {v1 v2 : Int32} {d : Nat} {h h0 : J_H} : ∀ (f : Nat) (v3 : Int32) {lv : J_L}, lpN (m_st w v2 1) v3 = f → LK lv [(0, .ref 359), (1, .int v1), (2, .int v2), (3, .int v3)] → KN h [(359, .inl (10, [(u 0), .ref 360, .ref 361, .ref 362, .ref 363, .ref 364, .ref 365, .ref 366, .ref 367, (u 9), (u 10), (u 11), (u 12), (u 13), (u 14), (u 15), (u 16), (u 17), (u 18), (u 19), (u 20), (u 21), .ref 368, (u 23), .ref 369, .ref 370, .ref 371, (u 27)])), (360, .inr (.inl (0, w)))] h0 → j_V jP d 241 2 lv [] h (fun rv h' => rv = some (.int (m_doesFit_l2 w v1 v2 f v3)) ∧ h' = h) := by
  intro f
  induction f with
  | zero =>
    intro v3 lv e L K
    refine j_V.ldL mc6_M mc6_2 rfl (i := 3) (kd := 0) (v := .int v3) (pcJ := 3) rfl L rfl rfl rfl ?_
    refine j_V.ldL mc6_M mc6_3 rfl (i := 0) (kd := 2) (v := .ref 359) (pcJ := 4) rfl L rfl rfl rfl ?_
    refine j_V.ldL mc6_M mc6_4 rfl (i := 2) (kd := 0) (v := .int v2) (pcJ := 5) rfl L rfl rfl rfl ?_
    refine j_V.one mc6_M mc6_5 (by decide) (pcJ := 6) (stJ := [.int 1, .int v2, .ref 359, .int v3]) rfl ?_
    refine j_V.cl mc6_M mc6_6 rfl (md := 3) (mj := 176) rfl (by decide) ma1_M (As := [.ref 359, .int v2, .int 1]) (rest := [.int v3]) (jk_spl3 (K.at rfl) rfl rfl rfl (Nat.le_of_ble_eq_true rfl) (Nat.le_of_ble_eq_true rfl)) (fun d => ma1_ok (K.fi [359, 360] rfl rfl)) ?_
    rintro r hz ⟨rfl, ez⟩
    rw [ez]
    clear ez
    show j_V jP _ 241 9 lv [.int (m_st w v2 1), .int v3] h _
    refine j_V.icmp mc6_M mc6_9 (t := 37) rfl (fun c9_0 => ?_) (fun c9_0 => ?_)
    · replace c9_0 : ¬ (v3 < (m_st w v2 1)) := jd_ge c9_0
      refine j_V.one mc6_M mc6_37 (by decide) (pcJ := 38) (stJ := [.int 0]) rfl ?_
      exact j_V.ri mc6_M mc6_38 ⟨congrArg (fun z => some (Value.int z)) (Eq.symm (show (m_doesFit_l2 w v1 v2 0 v3) = 0 from rfl)), rfl⟩
    · replace c9_0 : v3 < (m_st w v2 1) := jd_gen c9_0
      exact absurd c9_0 (lpN_z e)
  | succ f ih =>
    intro v3 lv e L K
    refine j_V.ldL mc6_M mc6_2 rfl (i := 3) (kd := 0) (v := .int v3) (pcJ := 3) rfl L rfl rfl rfl ?_
    refine j_V.ldL mc6_M mc6_3 rfl (i := 0) (kd := 2) (v := .ref 359) (pcJ := 4) rfl L rfl rfl rfl ?_
    refine j_V.ldL mc6_M mc6_4 rfl (i := 2) (kd := 0) (v := .int v2) (pcJ := 5) rfl L rfl rfl rfl ?_
    refine j_V.one mc6_M mc6_5 (by decide) (pcJ := 6) (stJ := [.int 1, .int v2, .ref 359, .int v3]) rfl ?_
    refine j_V.cl mc6_M mc6_6 rfl (md := 3) (mj := 176) rfl (by decide) ma1_M (As := [.ref 359, .int v2, .int 1]) (rest := [.int v3]) (jk_spl3 (K.at rfl) rfl rfl rfl (Nat.le_of_ble_eq_true rfl) (Nat.le_of_ble_eq_true rfl)) (fun d => ma1_ok (K.fi [359, 360] rfl rfl)) ?_
    rintro r hz ⟨rfl, ez⟩
    rw [ez]
    clear ez
    show j_V jP _ 241 9 lv [.int (m_st w v2 1), .int v3] h _
    refine j_V.icmp mc6_M mc6_9 (t := 37) rfl (fun c9_0 => ?_) (fun c9_0 => ?_)
    · replace c9_0 : ¬ (v3 < (m_st w v2 1)) := jd_ge c9_0
      exact absurd (lpN_s e) c9_0
    · replace c9_0 : v3 < (m_st w v2 1) := jd_gen c9_0
      refine j_V.ldL mc6_M mc6_12 rfl (i := 0) (kd := 2) (v := .ref 359) (pcJ := 13) rfl L rfl rfl rfl ?_
      refine j_V.ldL mc6_M mc6_13 rfl (i := 2) (kd := 0) (v := .int v2) (pcJ := 14) rfl L rfl rfl rfl ?_
      refine j_V.one mc6_M mc6_14 (by decide) (pcJ := 15) (stJ := [.int 2, .int v2, .ref 359]) rfl ?_
      refine j_V.ldL mc6_M mc6_15 rfl (i := 3) (kd := 0) (v := .int v3) (pcJ := 16) rfl L rfl rfl rfl ?_
      refine j_V.one mc6_M mc6_16 (by decide) (pcJ := 17) (stJ := [.int (2 + v3), .int v2, .ref 359]) rfl ?_
      refine j_V.cl mc6_M mc6_17 rfl (md := 3) (mj := 176) rfl (by decide) ma1_M (As := [.ref 359, .int v2, .int (2 + v3)]) (rest := []) (jk_spl3 (K.at rfl) rfl rfl rfl (Nat.le_of_ble_eq_true rfl) (Nat.le_of_ble_eq_true rfl)) (fun d => ma1_ok (K.fi [359, 360] rfl rfl)) ?_
      rintro r hz ⟨rfl, ez⟩
      rw [ez]
      clear ez
      show j_V jP _ 241 20 lv [.int (m_st w v2 (2 + v3))] h _
      refine j_V.ldL mc6_M mc6_20 rfl (i := 0) (kd := 2) (v := .ref 359) (pcJ := 21) rfl L rfl rfl rfl ?_
      refine j_V.ldL mc6_M mc6_21 rfl (i := 1) (kd := 0) (v := .int v1) (pcJ := 22) rfl L rfl rfl rfl ?_
      refine j_V.one mc6_M mc6_22 (by decide) (pcJ := 23) (stJ := [.int 0, .int v1, .ref 359, .int (m_st w v2 (2 + v3))]) rfl ?_
      refine j_V.cl mc6_M mc6_23 rfl (md := 3) (mj := 178) rfl (by decide) ma3_M (As := [.ref 359, .int v1, .int 0]) (rest := [.int (m_st w v2 (2 + v3))]) (jk_spl3 (K.at rfl) rfl rfl rfl (Nat.le_of_ble_eq_true rfl) (Nat.le_of_ble_eq_true rfl)) (fun d => ma3_ok (K.fi [359, 360] rfl rfl)) ?_
      rintro r hz ⟨rfl, ez⟩
      rw [ez]
      clear ez
      show j_V jP _ 241 26 lv [.int (m_of w v1 0), .int (m_st w v2 (2 + v3))] h _
      refine j_V.icmp mc6_M mc6_26 (t := 31) rfl (fun c26_0 => ?_) (fun c26_0 => ?_)
      · replace c26_0 : (m_st w v2 (2 + v3)) < (m_of w v1 0) := jd_lt c26_0
        refine j_V.inL mc6_M mc6_31 (i := 3) (kl' := [(0, .ref 359), (1, .int v1), (2, .int v2), (3, .int (v3 + 1))]) (pcJ := 34) L rfl rfl rfl rfl (fun lv L => ?_)
        refine j_V.gto mc6_M mc6_34 (t := 2) rfl ?_
        refine j_V.mono (ih ((v3 + 1)) (lpN_n e) L K) ?_
        rintro r hz ⟨rfl, rfl⟩
        exact ⟨congrArg (fun z => some (Value.int z)) (Eq.symm (show (m_doesFit_l2 w v1 v2 (f + 1) v3) = (m_doesFit_l2 w v1 v2 f ((v3 + 1))) from (if_pos c26_0).trans (rfl))), rfl⟩
      · replace c26_0 : ¬ ((m_st w v2 (2 + v3)) < (m_of w v1 0)) := jd_ltn c26_0
        refine j_V.one mc6_M mc6_29 (by decide) (pcJ := 30) (stJ := [.int 1]) rfl ?_
        exact j_V.ri mc6_M mc6_30 ⟨congrArg (fun z => some (Value.int z)) (Eq.symm (show (m_doesFit_l2 w v1 v2 (f + 1) v3) = 1 from (if_neg c26_0).trans (rfl))), rfl⟩
def m_doesFit (w : List Int32) (x1 : Int32) (x2 : Int32) : Int32 := (m_doesFit_l2 w x1 x2 (lpN (m_st w x2 1) 0) 0)
set_option maxRecDepth 1000000 in
theorem mc6_ok {u : Nat → Value} {w : List Int32} {x1 x2 : Int32} {d : Nat} {h h0 : J_H} (K : KN h [(359, .inl (10, [(u 0), .ref 360, .ref 361, .ref 362, .ref 363, .ref 364, .ref 365, .ref 366, .ref 367, (u 9), (u 10), (u 11), (u 12), (u 13), (u 14), (u 15), (u 16), (u 17), (u 18), (u 19), (u 20), (u 21), .ref 368, (u 23), .ref 369, .ref 370, .ref 371, (u 27)])), (360, .inr (.inl (0, w)))] h0) : j_V jP d 241 0 (lv_args 0 [.ref 359, .int x1, .int x2]) [] h (fun rv h' => rv = some (.int (m_doesFit w x1 x2)) ∧ h' = h) := by
  show j_V jP d 241 0 [(0, .ref 359), (1, .int x1), (2, .int x2)] [] h _
  obtain ⟨lv, elv, L⟩ : ∃ lv, lv = [(0, .ref 359), (1, .int x1), (2, .int x2)] ∧ LK lv [(0, .ref 359), (1, .int x1), (2, .int x2)] := ⟨_, rfl, LK.rf⟩
  rw [← elv]
  clear elv
  refine j_V.one mc6_M mc6_0 (by decide) (pcJ := 1) (stJ := [.int 0]) rfl ?_
  refine j_V.stL mc6_M mc6_1 rfl (i := 3) (kd := 0) (kl' := [(0, .ref 359), (1, .int x1), (2, .int x2), (3, .int 0)]) (pcJ := 2) rfl L rfl (by decide) rfl rfl rfl (fun lv L => ?_)
  refine j_V.mono (mc6_ok_l2 _ (0) rfl L K) ?_
  rintro r hz ⟨rfl, rfl⟩
  exact ⟨congrArg (fun z => some (Value.int z)) (Eq.symm (show (m_doesFit w x1 x2) = (m_doesFit_l2 w x1 x2 (lpN (m_st w x2 1) 0) 0) from rfl)), rfl⟩
set_option maxRecDepth 100000 in
theorem mc7_M : j_meth jP 244 = some (yX10_waitsFor, cX10_waitsFor, 5, (some .int), 1, false, 10) := rfl
set_option maxRecDepth 100000 in
theorem mc7_0 : j_code jP 244 0 = some (.aload_n 0) := rfl
set_option maxRecDepth 100000 in
theorem mc7_1 : j_code jP 244 1 = some (.iload_n 1) := rfl
set_option maxRecDepth 100000 in
theorem mc7_2 : j_code jP 244 2 = some (.bipush 6) := rfl
set_option maxRecDepth 100000 in
theorem mc7_4 : j_code jP 244 4 = some (.invokevirtual 198) := rfl
set_option maxRecDepth 100000 in
theorem mc7_7 : j_code jP 244 7 = some (.iconst 1) := rfl
set_option maxRecDepth 100000 in
theorem mc7_8 : j_code jP 244 8 = some (.if_icmp .ne 11) := rfl
set_option maxRecDepth 100000 in
theorem mc7_11 : j_code jP 244 11 = some (.aload_n 0) := rfl
set_option maxRecDepth 100000 in
theorem mc7_12 : j_code jP 244 12 = some (.iload_n 1) := rfl
set_option maxRecDepth 100000 in
theorem mc7_13 : j_code jP 244 13 = some (.invokevirtual 250) := rfl
set_option maxRecDepth 100000 in
theorem mc7_16 : j_code jP 244 16 = some (.ifCond .ne 5) := rfl
set_option maxRecDepth 100000 in
theorem mc7_19 : j_code jP 244 19 = some (.iconst 0) := rfl
set_option maxRecDepth 100000 in
theorem mc7_20 : j_code jP 244 20 = some (.ireturn) := rfl
set_option maxRecDepth 100000 in
theorem mc7_21 : j_code jP 244 21 = some (.aload_n 0) := rfl
set_option maxRecDepth 100000 in
theorem mc7_22 : j_code jP 244 22 = some (.aload_n 0) := rfl
set_option maxRecDepth 100000 in
theorem mc7_23 : j_code jP 244 23 = some (.iload_n 1) := rfl
set_option maxRecDepth 100000 in
theorem mc7_24 : j_code jP 244 24 = some (.invokevirtual 216) := rfl
set_option maxRecDepth 100000 in
theorem mc7_27 : j_code jP 244 27 = some (.invokevirtual 231) := rfl
set_option maxRecDepth 100000 in
theorem mc7_30 : j_code jP 244 30 = some (.istore_n 2) := rfl
set_option maxRecDepth 100000 in
theorem mc7_31 : j_code jP 244 31 = some (.iload_n 2) := rfl
set_option maxRecDepth 100000 in
theorem mc7_32 : j_code jP 244 32 = some (.iconst (-1)) := rfl
set_option maxRecDepth 100000 in
theorem mc7_33 : j_code jP 244 33 = some (.if_icmp .eq 7) := rfl
set_option maxRecDepth 100000 in
theorem mc7_36 : j_code jP 244 36 = some (.iconst 1) := rfl
set_option maxRecDepth 100000 in
theorem mc7_37 : j_code jP 244 37 = some (.iload_n 2) := rfl
set_option maxRecDepth 100000 in
theorem mc7_38 : j_code jP 244 38 = some (.ishl) := rfl
set_option maxRecDepth 100000 in
theorem mc7_39 : j_code jP 244 39 = some (.ireturn) := rfl
set_option maxRecDepth 100000 in
theorem mc7_40 : j_code jP 244 40 = some (.iconst 0) := rfl
set_option maxRecDepth 100000 in
theorem mc7_41 : j_code jP 244 41 = some (.istore_n 3) := rfl
set_option maxRecDepth 100000 in
theorem mc7_42 : j_code jP 244 42 = some (.iconst 0) := rfl
set_option maxRecDepth 100000 in
theorem mc7_43 : j_code jP 244 43 = some (.istore 4) := rfl
set_option maxRecDepth 100000 in
theorem mc7_45 : j_code jP 244 45 = some (.iload 4) := rfl
set_option maxRecDepth 100000 in
theorem mc7_47 : j_code jP 244 47 = some (.aload_n 0) := rfl
set_option maxRecDepth 100000 in
theorem mc7_48 : j_code jP 244 48 = some (.getfield 7) := rfl
set_option maxRecDepth 100000 in
theorem mc7_51 : j_code jP 244 51 = some (.sipush 203) := rfl
set_option maxRecDepth 100000 in
theorem mc7_54 : j_code jP 244 54 = some (.iaload) := rfl
set_option maxRecDepth 100000 in
theorem mc7_55 : j_code jP 244 55 = some (.if_icmp .ge 62) := rfl
set_option maxRecDepth 100000 in
theorem mc7_58 : j_code jP 244 58 = some (.iload_n 3) := rfl
set_option maxRecDepth 100000 in
theorem mc7_59 : j_code jP 244 59 = some (.aload_n 0) := rfl
set_option maxRecDepth 100000 in
theorem mc7_60 : j_code jP 244 60 = some (.iload 4) := rfl
set_option maxRecDepth 100000 in
theorem mc7_62 : j_code jP 244 62 = some (.invokevirtual 207) := rfl
set_option maxRecDepth 100000 in
theorem mc7_65 : j_code jP 244 65 = some (.aload_n 0) := rfl
set_option maxRecDepth 100000 in
theorem mc7_66 : j_code jP 244 66 = some (.iload_n 1) := rfl
set_option maxRecDepth 100000 in
theorem mc7_67 : j_code jP 244 67 = some (.invokevirtual 204) := rfl
set_option maxRecDepth 100000 in
theorem mc7_70 : j_code jP 244 70 = some (.if_icmp .ne 38) := rfl
set_option maxRecDepth 100000 in
theorem mc7_73 : j_code jP 244 73 = some (.aload_n 0) := rfl
set_option maxRecDepth 100000 in
theorem mc7_74 : j_code jP 244 74 = some (.aload_n 0) := rfl
set_option maxRecDepth 100000 in
theorem mc7_75 : j_code jP 244 75 = some (.iload_n 1) := rfl
set_option maxRecDepth 100000 in
theorem mc7_76 : j_code jP 244 76 = some (.invokevirtual 204) := rfl
set_option maxRecDepth 100000 in
theorem mc7_79 : j_code jP 244 79 = some (.iconst 2) := rfl
set_option maxRecDepth 100000 in
theorem mc7_80 : j_code jP 244 80 = some (.aload_n 0) := rfl
set_option maxRecDepth 100000 in
theorem mc7_81 : j_code jP 244 81 = some (.iload 4) := rfl
set_option maxRecDepth 100000 in
theorem mc7_83 : j_code jP 244 83 = some (.bipush 8) := rfl
set_option maxRecDepth 100000 in
theorem mc7_85 : j_code jP 244 85 = some (.invokevirtual 198) := rfl
set_option maxRecDepth 100000 in
theorem mc7_88 : j_code jP 244 88 = some (.iadd) := rfl
set_option maxRecDepth 100000 in
theorem mc7_89 : j_code jP 244 89 = some (.invokevirtual 69) := rfl
set_option maxRecDepth 100000 in
theorem mc7_92 : j_code jP 244 92 = some (.aload_n 0) := rfl
set_option maxRecDepth 100000 in
theorem mc7_93 : j_code jP 244 93 = some (.iload_n 1) := rfl
set_option maxRecDepth 100000 in
theorem mc7_94 : j_code jP 244 94 = some (.iconst 0) := rfl
set_option maxRecDepth 100000 in
theorem mc7_95 : j_code jP 244 95 = some (.invokevirtual 198) := rfl
set_option maxRecDepth 100000 in
theorem mc7_98 : j_code jP 244 98 = some (.if_icmp .lt 10) := rfl
set_option maxRecDepth 100000 in
theorem mc7_101 : j_code jP 244 101 = some (.iconst 1) := rfl
set_option maxRecDepth 100000 in
theorem mc7_102 : j_code jP 244 102 = some (.iload 4) := rfl
set_option maxRecDepth 100000 in
theorem mc7_104 : j_code jP 244 104 = some (.ishl) := rfl
set_option maxRecDepth 100000 in
theorem mc7_105 : j_code jP 244 105 = some (.goto 4) := rfl
set_option maxRecDepth 100000 in
theorem mc7_108 : j_code jP 244 108 = some (.iconst 0) := rfl
set_option maxRecDepth 100000 in
theorem mc7_109 : j_code jP 244 109 = some (.ior) := rfl
set_option maxRecDepth 100000 in
theorem mc7_110 : j_code jP 244 110 = some (.istore_n 3) := rfl
set_option maxRecDepth 100000 in
theorem mc7_111 : j_code jP 244 111 = some (.iinc 4 1) := rfl
set_option maxRecDepth 100000 in
theorem mc7_114 : j_code jP 244 114 = some (.goto (-69)) := rfl
set_option maxRecDepth 100000 in
theorem mc7_117 : j_code jP 244 117 = some (.iload_n 3) := rfl
set_option maxRecDepth 100000 in
theorem mc7_118 : j_code jP 244 118 = some (.ireturn) := rfl
def m_waitsFor_l45 (w : List Int32) (v1 : Int32) (v2 : Int32) : Nat → Int32 → Int32 → Int32
  | 0, v4, v3 => v3
  | f + 1, v4, v3 => (m_waitsFor_l45 w v1 v2 f ((v4 + 1)) ((v3 ||| ((if (m_placeOf w v4) = (m_next w v1) then (if (m_st w (m_next w v1) (2 + (m_of w v4 8))) < (m_of w v1 0) then 0 else (1 <<< (v4 &&& 31))) else 0) : Int32))))
set_option maxRecDepth 1000000 in
theorem mc7_ok_l45 {u : Nat → Value} {w : List Int32} {v1 v2 : Int32} {d : Nat} {h h0 : J_H} : ∀ (f : Nat) (v4 v3 : Int32) {lv : J_L}, lpN (gA w 203) v4 = f → LK lv [(0, .ref 359), (1, .int v1), (2, .int v2), (3, .int v3), (4, .int v4)] → KN h [(359, .inl (10, [(u 0), .ref 360, .ref 361, .ref 362, .ref 363, .ref 364, .ref 365, .ref 366, .ref 367, (u 9), (u 10), (u 11), (u 12), (u 13), (u 14), (u 15), (u 16), (u 17), (u 18), (u 19), (u 20), (u 21), .ref 368, (u 23), .ref 369, .ref 370, .ref 371, (u 27)])), (360, .inr (.inl (0, w)))] h0 → j_V jP d 244 45 lv [] h (fun rv h' => rv = some (.int (m_waitsFor_l45 w v1 v2 f v4 v3)) ∧ h' = h) := by
  intro f
  induction f with
  | zero =>
    intro v4 v3 lv e L K
    refine j_V.ldL mc7_M mc7_45 rfl (i := 4) (kd := 0) (v := .int v4) (pcJ := 47) rfl L rfl rfl rfl ?_
    refine j_V.ldL mc7_M mc7_47 rfl (i := 0) (kd := 2) (v := .ref 359) (pcJ := 48) rfl L rfl rfl rfl ?_
    refine j_V.getK mc7_M mc7_48 (ci := 10) (j := 1) rfl K rfl rfl ?_
    refine j_V.one mc7_M mc7_51 (by decide) (pcJ := 54) (stJ := [.int 203, .ref 360, .int v4]) rfl ?_
    refine j_V.iaA mc7_M mc7_54 K rfl ?_
    refine j_V.icmp mc7_M mc7_55 (t := 117) rfl (fun c55_0 => ?_) (fun c55_0 => ?_)
    · replace c55_0 : ¬ (v4 < (gA w 203)) := jd_ge c55_0
      refine j_V.ldL mc7_M mc7_117 rfl (i := 3) (kd := 0) (v := .int v3) (pcJ := 118) rfl L rfl rfl rfl ?_
      exact j_V.ri mc7_M mc7_118 ⟨congrArg (fun z => some (Value.int z)) (Eq.symm (show (m_waitsFor_l45 w v1 v2 0 v4 v3) = v3 from rfl)), rfl⟩
    · replace c55_0 : v4 < (gA w 203) := jd_gen c55_0
      exact absurd c55_0 (lpN_z e)
  | succ f ih =>
    intro v4 v3 lv e L K
    refine j_V.ldL mc7_M mc7_45 rfl (i := 4) (kd := 0) (v := .int v4) (pcJ := 47) rfl L rfl rfl rfl ?_
    refine j_V.ldL mc7_M mc7_47 rfl (i := 0) (kd := 2) (v := .ref 359) (pcJ := 48) rfl L rfl rfl rfl ?_
    refine j_V.getK mc7_M mc7_48 (ci := 10) (j := 1) rfl K rfl rfl ?_
    refine j_V.one mc7_M mc7_51 (by decide) (pcJ := 54) (stJ := [.int 203, .ref 360, .int v4]) rfl ?_
    refine j_V.iaA mc7_M mc7_54 K rfl ?_
    refine j_V.icmp mc7_M mc7_55 (t := 117) rfl (fun c55_0 => ?_) (fun c55_0 => ?_)
    · replace c55_0 : ¬ (v4 < (gA w 203)) := jd_ge c55_0
      exact absurd (lpN_s e) c55_0
    · replace c55_0 : v4 < (gA w 203) := jd_gen c55_0
      refine j_V.ldL mc7_M mc7_58 rfl (i := 3) (kd := 0) (v := .int v3) (pcJ := 59) rfl L rfl rfl rfl ?_
      refine j_V.ldL mc7_M mc7_59 rfl (i := 0) (kd := 2) (v := .ref 359) (pcJ := 60) rfl L rfl rfl rfl ?_
      refine j_V.ldL mc7_M mc7_60 rfl (i := 4) (kd := 0) (v := .int v4) (pcJ := 62) rfl L rfl rfl rfl ?_
      refine j_V.cl mc7_M mc7_62 rfl (md := 3) (mj := 205) rfl (by decide) ma6_M (As := [.ref 359, .int v4]) (rest := [.int v3]) (jk_spl3 (K.at rfl) rfl rfl rfl (Nat.le_of_ble_eq_true rfl) (Nat.le_of_ble_eq_true rfl)) (fun d => ma6_ok (K.fi [359, 360] rfl rfl)) ?_
      rintro r hz ⟨rfl, ez⟩
      rw [ez]
      clear ez
      show j_V jP _ 244 65 lv [.int (m_placeOf w v4), .int v3] h _
      refine j_V.ldL mc7_M mc7_65 rfl (i := 0) (kd := 2) (v := .ref 359) (pcJ := 66) rfl L rfl rfl rfl ?_
      refine j_V.ldL mc7_M mc7_66 rfl (i := 1) (kd := 0) (v := .int v1) (pcJ := 67) rfl L rfl rfl rfl ?_
      refine j_V.cl mc7_M mc7_67 rfl (md := 3) (mj := 204) rfl (by decide) ma5_M (As := [.ref 359, .int v1]) (rest := [.int (m_placeOf w v4), .int v3]) (jk_spl3 (K.at rfl) rfl rfl rfl (Nat.le_of_ble_eq_true rfl) (Nat.le_of_ble_eq_true rfl)) (fun d => ma5_ok (K.fi [359, 360] rfl rfl)) ?_
      rintro r hz ⟨rfl, ez⟩
      rw [ez]
      clear ez
      show j_V jP _ 244 70 lv [.int (m_next w v1), .int (m_placeOf w v4), .int v3] h _
      refine j_V.cut (b := 109) (stJ := [.int ((if (m_placeOf w v4) = (m_next w v1) then (if (m_st w (m_next w v1) (2 + (m_of w v4 8))) < (m_of w v1 0) then 0 else (1 <<< (v4 &&& 31))) else 0) : Int32), .int v3]) (fun v => [(0, .ref 359), (1, .int v1), (2, .int v2), (3, .int v3), (4, .int v4)]) ((if (m_placeOf w v4) = (m_next w v1) then (if (m_st w (m_next w v1) (2 + (m_of w v4 8))) < (m_of w v1 0) then 0 else (1 <<< (v4 &&& 31))) else 0) : Int32) (fun Q kk => ?_) (fun lv L => ?_)
      · refine j_V.icmp mc7_M mc7_70 (t := 108) rfl (fun c70_0 => ?_) (fun c70_0 => ?_)
        · replace c70_0 : ¬ ((m_placeOf w v4) = (m_next w v1)) := jd_ne c70_0
          refine j_V.one mc7_M mc7_108 (by decide) (pcJ := 109) (stJ := [.int 0, .int v3]) rfl ?_
          exact Eq.subst (motive := fun z => j_V jP _ 244 109 _ (.int z :: [.int v3]) h Q) (show ((if (m_placeOf w v4) = (m_next w v1) then (if (m_st w (m_next w v1) (2 + (m_of w v4 8))) < (m_of w v1 0) then 0 else (1 <<< (v4 &&& 31))) else 0) : Int32) = 0 from (if_neg c70_0).trans (rfl)) (kk _ L)
        · replace c70_0 : (m_placeOf w v4) = (m_next w v1) := jd_nen c70_0
          refine j_V.ldL mc7_M mc7_73 rfl (i := 0) (kd := 2) (v := .ref 359) (pcJ := 74) rfl L rfl rfl rfl ?_
          refine j_V.ldL mc7_M mc7_74 rfl (i := 0) (kd := 2) (v := .ref 359) (pcJ := 75) rfl L rfl rfl rfl ?_
          refine j_V.ldL mc7_M mc7_75 rfl (i := 1) (kd := 0) (v := .int v1) (pcJ := 76) rfl L rfl rfl rfl ?_
          refine j_V.cl mc7_M mc7_76 rfl (md := 3) (mj := 204) rfl (by decide) ma5_M (As := [.ref 359, .int v1]) (rest := [.ref 359, .int v3]) (jk_spl3 (K.at rfl) rfl rfl rfl (Nat.le_of_ble_eq_true rfl) (Nat.le_of_ble_eq_true rfl)) (fun d => ma5_ok (K.fi [359, 360] rfl rfl)) ?_
          rintro r hz ⟨rfl, ez⟩
          rw [ez]
          clear ez
          show j_V jP _ 244 79 lv [.int (m_next w v1), .ref 359, .int v3] h _
          refine j_V.one mc7_M mc7_79 (by decide) (pcJ := 80) (stJ := [.int 2, .int (m_next w v1), .ref 359, .int v3]) rfl ?_
          refine j_V.ldL mc7_M mc7_80 rfl (i := 0) (kd := 2) (v := .ref 359) (pcJ := 81) rfl L rfl rfl rfl ?_
          refine j_V.ldL mc7_M mc7_81 rfl (i := 4) (kd := 0) (v := .int v4) (pcJ := 83) rfl L rfl rfl rfl ?_
          refine j_V.one mc7_M mc7_83 (by decide) (pcJ := 85) (stJ := [.int 8, .int v4, .ref 359, .int 2, .int (m_next w v1), .ref 359, .int v3]) rfl ?_
          refine j_V.cl mc7_M mc7_85 rfl (md := 3) (mj := 178) rfl (by decide) ma3_M (As := [.ref 359, .int v4, .int 8]) (rest := [.int 2, .int (m_next w v1), .ref 359, .int v3]) (jk_spl3 (K.at rfl) rfl rfl rfl (Nat.le_of_ble_eq_true rfl) (Nat.le_of_ble_eq_true rfl)) (fun d => ma3_ok (K.fi [359, 360] rfl rfl)) ?_
          rintro r hz ⟨rfl, ez⟩
          rw [ez]
          clear ez
          show j_V jP _ 244 88 lv [.int (m_of w v4 8), .int 2, .int (m_next w v1), .ref 359, .int v3] h _
          refine j_V.one mc7_M mc7_88 (by decide) (pcJ := 89) (stJ := [.int (2 + (m_of w v4 8)), .int (m_next w v1), .ref 359, .int v3]) rfl ?_
          refine j_V.cl mc7_M mc7_89 rfl (md := 3) (mj := 176) rfl (by decide) ma1_M (As := [.ref 359, .int (m_next w v1), .int (2 + (m_of w v4 8))]) (rest := [.int v3]) (jk_spl3 (K.at rfl) rfl rfl rfl (Nat.le_of_ble_eq_true rfl) (Nat.le_of_ble_eq_true rfl)) (fun d => ma1_ok (K.fi [359, 360] rfl rfl)) ?_
          rintro r hz ⟨rfl, ez⟩
          rw [ez]
          clear ez
          show j_V jP _ 244 92 lv [.int (m_st w (m_next w v1) (2 + (m_of w v4 8))), .int v3] h _
          refine j_V.ldL mc7_M mc7_92 rfl (i := 0) (kd := 2) (v := .ref 359) (pcJ := 93) rfl L rfl rfl rfl ?_
          refine j_V.ldL mc7_M mc7_93 rfl (i := 1) (kd := 0) (v := .int v1) (pcJ := 94) rfl L rfl rfl rfl ?_
          refine j_V.one mc7_M mc7_94 (by decide) (pcJ := 95) (stJ := [.int 0, .int v1, .ref 359, .int (m_st w (m_next w v1) (2 + (m_of w v4 8))), .int v3]) rfl ?_
          refine j_V.cl mc7_M mc7_95 rfl (md := 3) (mj := 178) rfl (by decide) ma3_M (As := [.ref 359, .int v1, .int 0]) (rest := [.int (m_st w (m_next w v1) (2 + (m_of w v4 8))), .int v3]) (jk_spl3 (K.at rfl) rfl rfl rfl (Nat.le_of_ble_eq_true rfl) (Nat.le_of_ble_eq_true rfl)) (fun d => ma3_ok (K.fi [359, 360] rfl rfl)) ?_
          rintro r hz ⟨rfl, ez⟩
          rw [ez]
          clear ez
          show j_V jP _ 244 98 lv [.int (m_of w v1 0), .int (m_st w (m_next w v1) (2 + (m_of w v4 8))), .int v3] h _
          refine j_V.icmp mc7_M mc7_98 (t := 108) rfl (fun c98_1 => ?_) (fun c98_1 => ?_)
          · replace c98_1 : (m_st w (m_next w v1) (2 + (m_of w v4 8))) < (m_of w v1 0) := jd_lt c98_1
            refine j_V.one mc7_M mc7_108 (by decide) (pcJ := 109) (stJ := [.int 0, .int v3]) rfl ?_
            exact Eq.subst (motive := fun z => j_V jP _ 244 109 _ (.int z :: [.int v3]) h Q) (show ((if (m_placeOf w v4) = (m_next w v1) then (if (m_st w (m_next w v1) (2 + (m_of w v4 8))) < (m_of w v1 0) then 0 else (1 <<< (v4 &&& 31))) else 0) : Int32) = 0 from (if_pos c70_0).trans ((if_pos c98_1).trans (rfl))) (kk _ L)
          · replace c98_1 : ¬ ((m_st w (m_next w v1) (2 + (m_of w v4 8))) < (m_of w v1 0)) := jd_ltn c98_1
            refine j_V.one mc7_M mc7_101 (by decide) (pcJ := 102) (stJ := [.int 1, .int v3]) rfl ?_
            refine j_V.ldL mc7_M mc7_102 rfl (i := 4) (kd := 0) (v := .int v4) (pcJ := 104) rfl L rfl rfl rfl ?_
            refine j_V.one mc7_M mc7_104 (by decide) (pcJ := 105) (stJ := [.int (1 <<< (v4 &&& 31)), .int v3]) rfl ?_
            refine j_V.gto mc7_M mc7_105 (t := 109) rfl ?_
            exact Eq.subst (motive := fun z => j_V jP _ 244 109 _ (.int z :: [.int v3]) h Q) (show ((if (m_placeOf w v4) = (m_next w v1) then (if (m_st w (m_next w v1) (2 + (m_of w v4 8))) < (m_of w v1 0) then 0 else (1 <<< (v4 &&& 31))) else 0) : Int32) = (1 <<< (v4 &&& 31)) from (if_pos c70_0).trans ((if_neg c98_1).trans (rfl))) (kk _ L)
      refine j_V.one mc7_M mc7_109 (by decide) (pcJ := 110) (stJ := [.int (v3 ||| ((if (m_placeOf w v4) = (m_next w v1) then (if (m_st w (m_next w v1) (2 + (m_of w v4 8))) < (m_of w v1 0) then 0 else (1 <<< (v4 &&& 31))) else 0) : Int32))]) rfl ?_
      refine j_V.stL mc7_M mc7_110 rfl (i := 3) (kd := 0) (kl' := [(0, .ref 359), (1, .int v1), (2, .int v2), (3, .int (v3 ||| ((if (m_placeOf w v4) = (m_next w v1) then (if (m_st w (m_next w v1) (2 + (m_of w v4 8))) < (m_of w v1 0) then 0 else (1 <<< (v4 &&& 31))) else 0) : Int32))), (4, .int v4)]) (pcJ := 111) rfl L rfl (by decide) rfl rfl rfl (fun lv L => ?_)
      refine j_V.inL mc7_M mc7_111 (i := 4) (kl' := [(0, .ref 359), (1, .int v1), (2, .int v2), (3, .int (v3 ||| ((if (m_placeOf w v4) = (m_next w v1) then (if (m_st w (m_next w v1) (2 + (m_of w v4 8))) < (m_of w v1 0) then 0 else (1 <<< (v4 &&& 31))) else 0) : Int32))), (4, .int (v4 + 1))]) (pcJ := 114) L rfl rfl rfl rfl (fun lv L => ?_)
      refine j_V.gto mc7_M mc7_114 (t := 45) rfl ?_
      refine j_V.mono (ih ((v4 + 1)) ((v3 ||| ((if (m_placeOf w v4) = (m_next w v1) then (if (m_st w (m_next w v1) (2 + (m_of w v4 8))) < (m_of w v1 0) then 0 else (1 <<< (v4 &&& 31))) else 0) : Int32))) (lpN_n e) L K) ?_
      rintro r hz ⟨rfl, rfl⟩
      exact ⟨congrArg (fun z => some (Value.int z)) (Eq.symm (show (m_waitsFor_l45 w v1 v2 (f + 1) v4 v3) = (m_waitsFor_l45 w v1 v2 f ((v4 + 1)) ((v3 ||| ((if (m_placeOf w v4) = (m_next w v1) then (if (m_st w (m_next w v1) (2 + (m_of w v4 8))) < (m_of w v1 0) then 0 else (1 <<< (v4 &&& 31))) else 0) : Int32)))) from rfl)), rfl⟩
def m_waitsFor (w : List Int32) (x1 : Int32) : Int32 := (if (m_of w x1 6) = 1 then (if (m_whyNot w x1) = 0 then 0 else (if (m_whoOn w (m_sectionOf w x1)) = (-1) then (m_waitsFor_l45 w x1 ((m_whoOn w (m_sectionOf w x1))) (lpN (gA w 203) 0) 0 0) else (1 <<< ((m_whoOn w (m_sectionOf w x1)) &&& 31)))) else 0)
set_option maxRecDepth 1000000 in
theorem mc7_ok {u : Nat → Value} {w : List Int32} {x1 : Int32} {d : Nat} {h h0 : J_H} (K : KN h [(359, .inl (10, [(u 0), .ref 360, .ref 361, .ref 362, .ref 363, .ref 364, .ref 365, .ref 366, .ref 367, (u 9), (u 10), (u 11), (u 12), (u 13), (u 14), (u 15), (u 16), (u 17), (u 18), (u 19), (u 20), (u 21), .ref 368, (u 23), .ref 369, .ref 370, .ref 371, (u 27)])), (360, .inr (.inl (0, w)))] h0) : j_V jP d 244 0 (lv_args 0 [.ref 359, .int x1]) [] h (fun rv h' => rv = some (.int (m_waitsFor w x1)) ∧ h' = h) := by
  show j_V jP d 244 0 [(0, .ref 359), (1, .int x1)] [] h _
  obtain ⟨lv, elv, L⟩ : ∃ lv, lv = [(0, .ref 359), (1, .int x1)] ∧ LK lv [(0, .ref 359), (1, .int x1)] := ⟨_, rfl, LK.rf⟩
  rw [← elv]
  clear elv
  refine j_V.ldL mc7_M mc7_0 rfl (i := 0) (kd := 2) (v := .ref 359) (pcJ := 1) rfl L rfl rfl rfl ?_
  refine j_V.ldL mc7_M mc7_1 rfl (i := 1) (kd := 0) (v := .int x1) (pcJ := 2) rfl L rfl rfl rfl ?_
  refine j_V.one mc7_M mc7_2 (by decide) (pcJ := 4) (stJ := [.int 6, .int x1, .ref 359]) rfl ?_
  refine j_V.cl mc7_M mc7_4 rfl (md := 3) (mj := 178) rfl (by decide) ma3_M (As := [.ref 359, .int x1, .int 6]) (rest := []) (jk_spl3 (K.at rfl) rfl rfl rfl (Nat.le_of_ble_eq_true rfl) (Nat.le_of_ble_eq_true rfl)) (fun d => ma3_ok (K.fi [359, 360] rfl rfl)) ?_
  rintro r hz ⟨rfl, ez⟩
  rw [ez]
  clear ez
  show j_V jP _ 244 7 lv [.int (m_of w x1 6)] h _
  refine j_V.one mc7_M mc7_7 (by decide) (pcJ := 8) (stJ := [.int 1, .int (m_of w x1 6)]) rfl ?_
  refine j_V.icmp mc7_M mc7_8 (t := 19) rfl (fun c8_0 => ?_) (fun c8_0 => ?_)
  · replace c8_0 : ¬ ((m_of w x1 6) = 1) := jd_ne c8_0
    refine j_V.one mc7_M mc7_19 (by decide) (pcJ := 20) (stJ := [.int 0]) rfl ?_
    exact j_V.ri mc7_M mc7_20 ⟨congrArg (fun z => some (Value.int z)) (Eq.symm (show (m_waitsFor w x1) = 0 from (if_neg c8_0).trans (rfl))), rfl⟩
  · replace c8_0 : (m_of w x1 6) = 1 := jd_nen c8_0
    refine j_V.ldL mc7_M mc7_11 rfl (i := 0) (kd := 2) (v := .ref 359) (pcJ := 12) rfl L rfl rfl rfl ?_
    refine j_V.ldL mc7_M mc7_12 rfl (i := 1) (kd := 0) (v := .int x1) (pcJ := 13) rfl L rfl rfl rfl ?_
    refine j_V.cl mc7_M mc7_13 rfl (md := 3) (mj := 214) rfl (by decide) mb5_M (As := [.ref 359, .int x1]) (rest := []) (jk_spl3 (K.at rfl) rfl rfl rfl (Nat.le_of_ble_eq_true rfl) (Nat.le_of_ble_eq_true rfl)) (fun d => mb5_ok (K.fi [359, 360] rfl rfl)) ?_
    rintro r hz ⟨rfl, ez⟩
    rw [ez]
    clear ez
    show j_V jP _ 244 16 lv [.int (m_whyNot w x1)] h _
    refine j_V.ifc mc7_M mc7_16 (t := 21) rfl (fun c16_1 => ?_) (fun c16_1 => ?_)
    · replace c16_1 : ¬ ((m_whyNot w x1) = 0) := jd_ne c16_1
      refine j_V.ldL mc7_M mc7_21 rfl (i := 0) (kd := 2) (v := .ref 359) (pcJ := 22) rfl L rfl rfl rfl ?_
      refine j_V.ldL mc7_M mc7_22 rfl (i := 0) (kd := 2) (v := .ref 359) (pcJ := 23) rfl L rfl rfl rfl ?_
      refine j_V.ldL mc7_M mc7_23 rfl (i := 1) (kd := 0) (v := .int x1) (pcJ := 24) rfl L rfl rfl rfl ?_
      refine j_V.cl mc7_M mc7_24 rfl (md := 3) (mj := 209) rfl (by decide) mb0_M (As := [.ref 359, .int x1]) (rest := [.ref 359]) (jk_spl3 (K.at rfl) rfl rfl rfl (Nat.le_of_ble_eq_true rfl) (Nat.le_of_ble_eq_true rfl)) (fun d => mb0_ok (K.fi [359, 360] rfl rfl)) ?_
      rintro r hz ⟨rfl, ez⟩
      rw [ez]
      clear ez
      show j_V jP _ 244 27 lv [.int (m_sectionOf w x1), .ref 359] h _
      refine j_V.cl mc7_M mc7_27 rfl (md := 3) (mj := 210) rfl (by decide) mb1_M (As := [.ref 359, .int (m_sectionOf w x1)]) (rest := []) (jk_spl3 (K.at rfl) rfl rfl rfl (Nat.le_of_ble_eq_true rfl) (Nat.le_of_ble_eq_true rfl)) (fun d => mb1_ok (K.fi [359, 360] rfl rfl)) ?_
      rintro r hz ⟨rfl, ez⟩
      rw [ez]
      clear ez
      show j_V jP _ 244 30 lv [.int (m_whoOn w (m_sectionOf w x1))] h _
      refine j_V.stL mc7_M mc7_30 rfl (i := 2) (kd := 0) (kl' := [(0, .ref 359), (1, .int x1), (2, .int (m_whoOn w (m_sectionOf w x1)))]) (pcJ := 31) rfl L rfl (by decide) rfl rfl rfl (fun lv L => ?_)
      refine j_V.ldL mc7_M mc7_31 rfl (i := 2) (kd := 0) (v := .int (m_whoOn w (m_sectionOf w x1))) (pcJ := 32) rfl L rfl rfl rfl ?_
      refine j_V.one mc7_M mc7_32 (by decide) (pcJ := 33) (stJ := [.int (-1), .int (m_whoOn w (m_sectionOf w x1))]) rfl ?_
      refine j_V.icmp mc7_M mc7_33 (t := 40) rfl (fun c33_2 => ?_) (fun c33_2 => ?_)
      · replace c33_2 : (m_whoOn w (m_sectionOf w x1)) = (-1) := jd_eq c33_2
        refine j_V.one mc7_M mc7_40 (by decide) (pcJ := 41) (stJ := [.int 0]) rfl ?_
        refine j_V.stL mc7_M mc7_41 rfl (i := 3) (kd := 0) (kl' := [(0, .ref 359), (1, .int x1), (2, .int (m_whoOn w (m_sectionOf w x1))), (3, .int 0)]) (pcJ := 42) rfl L rfl (by decide) rfl rfl rfl (fun lv L => ?_)
        refine j_V.one mc7_M mc7_42 (by decide) (pcJ := 43) (stJ := [.int 0]) rfl ?_
        refine j_V.stL mc7_M mc7_43 rfl (i := 4) (kd := 0) (kl' := [(0, .ref 359), (1, .int x1), (2, .int (m_whoOn w (m_sectionOf w x1))), (3, .int 0), (4, .int 0)]) (pcJ := 45) rfl L rfl (by decide) rfl rfl rfl (fun lv L => ?_)
        refine j_V.mono (mc7_ok_l45 _ (0) (0) rfl L K) ?_
        rintro r hz ⟨rfl, rfl⟩
        exact ⟨congrArg (fun z => some (Value.int z)) (Eq.symm (show (m_waitsFor w x1) = (m_waitsFor_l45 w x1 ((m_whoOn w (m_sectionOf w x1))) (lpN (gA w 203) 0) 0 0) from (if_pos c8_0).trans ((if_neg c16_1).trans ((if_pos c33_2).trans (rfl))))), rfl⟩
      · replace c33_2 : ¬ ((m_whoOn w (m_sectionOf w x1)) = (-1)) := jd_eqn c33_2
        refine j_V.one mc7_M mc7_36 (by decide) (pcJ := 37) (stJ := [.int 1]) rfl ?_
        refine j_V.ldL mc7_M mc7_37 rfl (i := 2) (kd := 0) (v := .int (m_whoOn w (m_sectionOf w x1))) (pcJ := 38) rfl L rfl rfl rfl ?_
        refine j_V.one mc7_M mc7_38 (by decide) (pcJ := 39) (stJ := [.int (1 <<< ((m_whoOn w (m_sectionOf w x1)) &&& 31))]) rfl ?_
        exact j_V.ri mc7_M mc7_39 ⟨congrArg (fun z => some (Value.int z)) (Eq.symm (show (m_waitsFor w x1) = (1 <<< ((m_whoOn w (m_sectionOf w x1)) &&& 31)) from (if_pos c8_0).trans ((if_neg c16_1).trans ((if_neg c33_2).trans (rfl))))), rfl⟩
    · replace c16_1 : (m_whyNot w x1) = 0 := jd_nen c16_1
      refine j_V.one mc7_M mc7_19 (by decide) (pcJ := 20) (stJ := [.int 0]) rfl ?_
      exact j_V.ri mc7_M mc7_20 ⟨congrArg (fun z => some (Value.int z)) (Eq.symm (show (m_waitsFor w x1) = 0 from (if_pos c8_0).trans ((if_pos c16_1).trans (rfl)))), rfl⟩
set_option maxRecDepth 100000 in
theorem mc8_M : j_meth jP 263 = some (yX10_allUse, cX10_allUse, 3, (some .int), 0, false, 10) := rfl
set_option maxRecDepth 100000 in
theorem mc8_0 : j_code jP 263 0 = some (.iconst 0) := rfl
set_option maxRecDepth 100000 in
theorem mc8_1 : j_code jP 263 1 = some (.istore_n 1) := rfl
set_option maxRecDepth 100000 in
theorem mc8_2 : j_code jP 263 2 = some (.iconst 0) := rfl
set_option maxRecDepth 100000 in
theorem mc8_3 : j_code jP 263 3 = some (.istore_n 2) := rfl
set_option maxRecDepth 100000 in
theorem mc8_4 : j_code jP 263 4 = some (.iload_n 2) := rfl
set_option maxRecDepth 100000 in
theorem mc8_5 : j_code jP 263 5 = some (.bipush 6) := rfl
set_option maxRecDepth 100000 in
theorem mc8_7 : j_code jP 263 7 = some (.if_icmp .ge 22) := rfl
set_option maxRecDepth 100000 in
theorem mc8_10 : j_code jP 263 10 = some (.iload_n 1) := rfl
set_option maxRecDepth 100000 in
theorem mc8_11 : j_code jP 263 11 = some (.aload_n 0) := rfl
set_option maxRecDepth 100000 in
theorem mc8_12 : j_code jP 263 12 = some (.getfield 7) := rfl
set_option maxRecDepth 100000 in
theorem mc8_15 : j_code jP 263 15 = some (.sipush 204) := rfl
set_option maxRecDepth 100000 in
theorem mc8_18 : j_code jP 263 18 = some (.iload_n 2) := rfl
set_option maxRecDepth 100000 in
theorem mc8_19 : j_code jP 263 19 = some (.iadd) := rfl
set_option maxRecDepth 100000 in
theorem mc8_20 : j_code jP 263 20 = some (.iaload) := rfl
set_option maxRecDepth 100000 in
theorem mc8_21 : j_code jP 263 21 = some (.iadd) := rfl
set_option maxRecDepth 100000 in
theorem mc8_22 : j_code jP 263 22 = some (.istore_n 1) := rfl
set_option maxRecDepth 100000 in
theorem mc8_23 : j_code jP 263 23 = some (.iinc 2 1) := rfl
set_option maxRecDepth 100000 in
theorem mc8_26 : j_code jP 263 26 = some (.goto (-22)) := rfl
set_option maxRecDepth 100000 in
theorem mc8_29 : j_code jP 263 29 = some (.iload_n 1) := rfl
set_option maxRecDepth 100000 in
theorem mc8_30 : j_code jP 263 30 = some (.ireturn) := rfl
def m_allUse_l4 (w : List Int32) : Nat → Int32 → Int32 → Int32
  | 0, v2, v1 => v1
  | f + 1, v2, v1 => (m_allUse_l4 w f ((v2 + 1)) ((v1 + (gA w (204 + v2)))))
set_option maxRecDepth 1000000 in
theorem mc8_ok_l4 {u : Nat → Value} {w : List Int32} {d : Nat} {h h0 : J_H} : ∀ (f : Nat) (v2 v1 : Int32) {lv : J_L}, lpN 6 v2 = f → LK lv [(0, .ref 359), (1, .int v1), (2, .int v2)] → KN h [(359, .inl (10, [(u 0), .ref 360, .ref 361, .ref 362, .ref 363, .ref 364, .ref 365, .ref 366, .ref 367, (u 9), (u 10), (u 11), (u 12), (u 13), (u 14), (u 15), (u 16), (u 17), (u 18), (u 19), (u 20), (u 21), .ref 368, (u 23), .ref 369, .ref 370, .ref 371, (u 27)])), (360, .inr (.inl (0, w)))] h0 → j_V jP d 263 4 lv [] h (fun rv h' => rv = some (.int (m_allUse_l4 w f v2 v1)) ∧ h' = h) := by
  intro f
  induction f with
  | zero =>
    intro v2 v1 lv e L K
    refine j_V.ldL mc8_M mc8_4 rfl (i := 2) (kd := 0) (v := .int v2) (pcJ := 5) rfl L rfl rfl rfl ?_
    refine j_V.one mc8_M mc8_5 (by decide) (pcJ := 7) (stJ := [.int 6, .int v2]) rfl ?_
    refine j_V.icmp mc8_M mc8_7 (t := 29) rfl (fun c7_0 => ?_) (fun c7_0 => ?_)
    · replace c7_0 : ¬ (v2 < 6) := jd_ge c7_0
      refine j_V.ldL mc8_M mc8_29 rfl (i := 1) (kd := 0) (v := .int v1) (pcJ := 30) rfl L rfl rfl rfl ?_
      exact j_V.ri mc8_M mc8_30 ⟨congrArg (fun z => some (Value.int z)) (Eq.symm (show (m_allUse_l4 w 0 v2 v1) = v1 from rfl)), rfl⟩
    · replace c7_0 : v2 < 6 := jd_gen c7_0
      exact absurd c7_0 (lpN_z e)
  | succ f ih =>
    intro v2 v1 lv e L K
    refine j_V.ldL mc8_M mc8_4 rfl (i := 2) (kd := 0) (v := .int v2) (pcJ := 5) rfl L rfl rfl rfl ?_
    refine j_V.one mc8_M mc8_5 (by decide) (pcJ := 7) (stJ := [.int 6, .int v2]) rfl ?_
    refine j_V.icmp mc8_M mc8_7 (t := 29) rfl (fun c7_0 => ?_) (fun c7_0 => ?_)
    · replace c7_0 : ¬ (v2 < 6) := jd_ge c7_0
      exact absurd (lpN_s e) c7_0
    · replace c7_0 : v2 < 6 := jd_gen c7_0
      refine j_V.ldL mc8_M mc8_10 rfl (i := 1) (kd := 0) (v := .int v1) (pcJ := 11) rfl L rfl rfl rfl ?_
      refine j_V.ldL mc8_M mc8_11 rfl (i := 0) (kd := 2) (v := .ref 359) (pcJ := 12) rfl L rfl rfl rfl ?_
      refine j_V.getK mc8_M mc8_12 (ci := 10) (j := 1) rfl K rfl rfl ?_
      refine j_V.one mc8_M mc8_15 (by decide) (pcJ := 18) (stJ := [.int 204, .ref 360, .int v1]) rfl ?_
      refine j_V.ldL mc8_M mc8_18 rfl (i := 2) (kd := 0) (v := .int v2) (pcJ := 19) rfl L rfl rfl rfl ?_
      refine j_V.one mc8_M mc8_19 (by decide) (pcJ := 20) (stJ := [.int (204 + v2), .ref 360, .int v1]) rfl ?_
      refine j_V.iaA mc8_M mc8_20 K rfl ?_
      refine j_V.one mc8_M mc8_21 (by decide) (pcJ := 22) (stJ := [.int (v1 + (gA w (204 + v2)))]) rfl ?_
      refine j_V.stL mc8_M mc8_22 rfl (i := 1) (kd := 0) (kl' := [(0, .ref 359), (1, .int (v1 + (gA w (204 + v2)))), (2, .int v2)]) (pcJ := 23) rfl L rfl (by decide) rfl rfl rfl (fun lv L => ?_)
      refine j_V.inL mc8_M mc8_23 (i := 2) (kl' := [(0, .ref 359), (1, .int (v1 + (gA w (204 + v2)))), (2, .int (v2 + 1))]) (pcJ := 26) L rfl rfl rfl rfl (fun lv L => ?_)
      refine j_V.gto mc8_M mc8_26 (t := 4) rfl ?_
      refine j_V.mono (ih ((v2 + 1)) ((v1 + (gA w (204 + v2)))) (lpN_n e) L K) ?_
      rintro r hz ⟨rfl, rfl⟩
      exact ⟨congrArg (fun z => some (Value.int z)) (Eq.symm (show (m_allUse_l4 w (f + 1) v2 v1) = (m_allUse_l4 w f ((v2 + 1)) ((v1 + (gA w (204 + v2))))) from rfl)), rfl⟩
def m_allUse (w : List Int32) : Int32 := (m_allUse_l4 w (lpN 6 0) 0 0)
set_option maxRecDepth 1000000 in
theorem mc8_ok {u : Nat → Value} {w : List Int32} {d : Nat} {h h0 : J_H} (K : KN h [(359, .inl (10, [(u 0), .ref 360, .ref 361, .ref 362, .ref 363, .ref 364, .ref 365, .ref 366, .ref 367, (u 9), (u 10), (u 11), (u 12), (u 13), (u 14), (u 15), (u 16), (u 17), (u 18), (u 19), (u 20), (u 21), .ref 368, (u 23), .ref 369, .ref 370, .ref 371, (u 27)])), (360, .inr (.inl (0, w)))] h0) : j_V jP d 263 0 (lv_args 0 [.ref 359]) [] h (fun rv h' => rv = some (.int (m_allUse w)) ∧ h' = h) := by
  show j_V jP d 263 0 [(0, .ref 359)] [] h _
  obtain ⟨lv, elv, L⟩ : ∃ lv, lv = [(0, .ref 359)] ∧ LK lv [(0, .ref 359)] := ⟨_, rfl, LK.rf⟩
  rw [← elv]
  clear elv
  refine j_V.one mc8_M mc8_0 (by decide) (pcJ := 1) (stJ := [.int 0]) rfl ?_
  refine j_V.stL mc8_M mc8_1 rfl (i := 1) (kd := 0) (kl' := [(0, .ref 359), (1, .int 0)]) (pcJ := 2) rfl L rfl (by decide) rfl rfl rfl (fun lv L => ?_)
  refine j_V.one mc8_M mc8_2 (by decide) (pcJ := 3) (stJ := [.int 0]) rfl ?_
  refine j_V.stL mc8_M mc8_3 rfl (i := 2) (kd := 0) (kl' := [(0, .ref 359), (1, .int 0), (2, .int 0)]) (pcJ := 4) rfl L rfl (by decide) rfl rfl rfl (fun lv L => ?_)
  refine j_V.mono (mc8_ok_l4 _ (0) (0) rfl L K) ?_
  rintro r hz ⟨rfl, rfl⟩
  exact ⟨congrArg (fun z => some (Value.int z)) (Eq.symm (show (m_allUse w) = (m_allUse_l4 w (lpN 6 0) 0 0) from rfl)), rfl⟩
set_option maxRecDepth 100000 in
theorem mc9_M : j_meth jP 172 = some (yX10_isStation, cX10_isStation, 2, (some .boolean), 1, false, 10) := rfl
set_option maxRecDepth 100000 in
theorem mc9_0 : j_code jP 172 0 = some (.iload_n 1) := rfl
set_option maxRecDepth 100000 in
theorem mc9_1 : j_code jP 172 1 = some (.iconst 0) := rfl
set_option maxRecDepth 100000 in
theorem mc9_2 : j_code jP 172 2 = some (.aload_n 0) := rfl
set_option maxRecDepth 100000 in
theorem mc9_3 : j_code jP 172 3 = some (.getfield 7) := rfl
set_option maxRecDepth 100000 in
theorem mc9_6 : j_code jP 172 6 = some (.sipush 202) := rfl
set_option maxRecDepth 100000 in
theorem mc9_9 : j_code jP 172 9 = some (.iaload) := rfl
set_option maxRecDepth 100000 in
theorem mc9_10 : j_code jP 172 10 = some (.iconst 1) := rfl
set_option maxRecDepth 100000 in
theorem mc9_11 : j_code jP 172 11 = some (.isub) := rfl
set_option maxRecDepth 100000 in
theorem mc9_12 : j_code jP 172 12 = some (.invokestatic 61) := rfl
set_option maxRecDepth 100000 in
theorem mc9_15 : j_code jP 172 15 = some (.ireturn) := rfl
def m_isStation (w : List Int32) (x1 : Int32) : Int32 := (m_isFrom x1 0 ((gA w 202) - 1))
set_option maxRecDepth 1000000 in
theorem mc9_ok {u : Nat → Value} {w : List Int32} {x1 : Int32} {d : Nat} {h h0 : J_H} (K : KN h [(359, .inl (10, [(u 0), .ref 360, .ref 361, .ref 362, .ref 363, .ref 364, .ref 365, .ref 366, .ref 367, (u 9), (u 10), (u 11), (u 12), (u 13), (u 14), (u 15), (u 16), (u 17), (u 18), (u 19), (u 20), (u 21), .ref 368, (u 23), .ref 369, .ref 370, .ref 371, (u 27)])), (360, .inr (.inl (0, w)))] h0) : j_V jP d 172 0 (lv_args 0 [.ref 359, .int x1]) [] h (fun rv h' => rv = some (.int (m_isStation w x1)) ∧ h' = h) := by
  show j_V jP d 172 0 [(0, .ref 359), (1, .int x1)] [] h _
  obtain ⟨lv, elv, L⟩ : ∃ lv, lv = [(0, .ref 359), (1, .int x1)] ∧ LK lv [(0, .ref 359), (1, .int x1)] := ⟨_, rfl, LK.rf⟩
  rw [← elv]
  clear elv
  refine j_V.ldL mc9_M mc9_0 rfl (i := 1) (kd := 0) (v := .int x1) (pcJ := 1) rfl L rfl rfl rfl ?_
  refine j_V.one mc9_M mc9_1 (by decide) (pcJ := 2) (stJ := [.int 0, .int x1]) rfl ?_
  refine j_V.ldL mc9_M mc9_2 rfl (i := 0) (kd := 2) (v := .ref 359) (pcJ := 3) rfl L rfl rfl rfl ?_
  refine j_V.getK mc9_M mc9_3 (ci := 10) (j := 1) rfl K rfl rfl ?_
  refine j_V.one mc9_M mc9_6 (by decide) (pcJ := 9) (stJ := [.int 202, .ref 360, .int 0, .int x1]) rfl ?_
  refine j_V.iaA mc9_M mc9_9 K rfl ?_
  refine j_V.one mc9_M mc9_10 (by decide) (pcJ := 11) (stJ := [.int 1, .int (gA w 202), .int 0, .int x1]) rfl ?_
  refine j_V.one mc9_M mc9_11 (by decide) (pcJ := 12) (stJ := [.int ((gA w 202) - 1), .int 0, .int x1]) rfl ?_
  refine j_V.cl mc9_M mc9_12 rfl (md := 2) (mj := 171) rfl (by decide) ma0_M (As := [.int x1, .int 0, .int ((gA w 202) - 1)]) (rest := []) (jk_spl2 rfl rfl (Nat.le_of_ble_eq_true rfl) (Nat.le_of_ble_eq_true rfl)) (fun d => ma0_ok (K.fi [] rfl rfl)) ?_
  rintro r hz ⟨rfl, ez⟩
  rw [ez]
  clear ez
  show j_V jP _ 172 15 lv [.int (m_isFrom x1 0 ((gA w 202) - 1))] h _
  exact j_V.ri mc9_M mc9_15 ⟨congrArg (fun z => some (Value.int z)) (Eq.symm (show (m_isStation w x1) = (m_isFrom x1 0 ((gA w 202) - 1)) from rfl)), rfl⟩
set_option maxRecDepth 100000 in
theorem md0_M : j_meth jP 173 = some (yX10_isTrain, cX10_isTrain, 2, (some .boolean), 1, false, 10) := rfl
set_option maxRecDepth 100000 in
theorem md0_0 : j_code jP 173 0 = some (.iload_n 1) := rfl
set_option maxRecDepth 100000 in
theorem md0_1 : j_code jP 173 1 = some (.iconst 0) := rfl
set_option maxRecDepth 100000 in
theorem md0_2 : j_code jP 173 2 = some (.aload_n 0) := rfl
set_option maxRecDepth 100000 in
theorem md0_3 : j_code jP 173 3 = some (.getfield 7) := rfl
set_option maxRecDepth 100000 in
theorem md0_6 : j_code jP 173 6 = some (.sipush 203) := rfl
set_option maxRecDepth 100000 in
theorem md0_9 : j_code jP 173 9 = some (.iaload) := rfl
set_option maxRecDepth 100000 in
theorem md0_10 : j_code jP 173 10 = some (.iconst 1) := rfl
set_option maxRecDepth 100000 in
theorem md0_11 : j_code jP 173 11 = some (.isub) := rfl
set_option maxRecDepth 100000 in
theorem md0_12 : j_code jP 173 12 = some (.invokestatic 61) := rfl
set_option maxRecDepth 100000 in
theorem md0_15 : j_code jP 173 15 = some (.ireturn) := rfl
def m_isTrain (w : List Int32) (x1 : Int32) : Int32 := (m_isFrom x1 0 ((gA w 203) - 1))
set_option maxRecDepth 1000000 in
theorem md0_ok {u : Nat → Value} {w : List Int32} {x1 : Int32} {d : Nat} {h h0 : J_H} (K : KN h [(359, .inl (10, [(u 0), .ref 360, .ref 361, .ref 362, .ref 363, .ref 364, .ref 365, .ref 366, .ref 367, (u 9), (u 10), (u 11), (u 12), (u 13), (u 14), (u 15), (u 16), (u 17), (u 18), (u 19), (u 20), (u 21), .ref 368, (u 23), .ref 369, .ref 370, .ref 371, (u 27)])), (360, .inr (.inl (0, w)))] h0) : j_V jP d 173 0 (lv_args 0 [.ref 359, .int x1]) [] h (fun rv h' => rv = some (.int (m_isTrain w x1)) ∧ h' = h) := by
  show j_V jP d 173 0 [(0, .ref 359), (1, .int x1)] [] h _
  obtain ⟨lv, elv, L⟩ : ∃ lv, lv = [(0, .ref 359), (1, .int x1)] ∧ LK lv [(0, .ref 359), (1, .int x1)] := ⟨_, rfl, LK.rf⟩
  rw [← elv]
  clear elv
  refine j_V.ldL md0_M md0_0 rfl (i := 1) (kd := 0) (v := .int x1) (pcJ := 1) rfl L rfl rfl rfl ?_
  refine j_V.one md0_M md0_1 (by decide) (pcJ := 2) (stJ := [.int 0, .int x1]) rfl ?_
  refine j_V.ldL md0_M md0_2 rfl (i := 0) (kd := 2) (v := .ref 359) (pcJ := 3) rfl L rfl rfl rfl ?_
  refine j_V.getK md0_M md0_3 (ci := 10) (j := 1) rfl K rfl rfl ?_
  refine j_V.one md0_M md0_6 (by decide) (pcJ := 9) (stJ := [.int 203, .ref 360, .int 0, .int x1]) rfl ?_
  refine j_V.iaA md0_M md0_9 K rfl ?_
  refine j_V.one md0_M md0_10 (by decide) (pcJ := 11) (stJ := [.int 1, .int (gA w 203), .int 0, .int x1]) rfl ?_
  refine j_V.one md0_M md0_11 (by decide) (pcJ := 12) (stJ := [.int ((gA w 203) - 1), .int 0, .int x1]) rfl ?_
  refine j_V.cl md0_M md0_12 rfl (md := 2) (mj := 171) rfl (by decide) ma0_M (As := [.int x1, .int 0, .int ((gA w 203) - 1)]) (rest := []) (jk_spl2 rfl rfl (Nat.le_of_ble_eq_true rfl) (Nat.le_of_ble_eq_true rfl)) (fun d => ma0_ok (K.fi [] rfl rfl)) ?_
  rintro r hz ⟨rfl, ez⟩
  rw [ez]
  clear ez
  show j_V jP _ 173 15 lv [.int (m_isFrom x1 0 ((gA w 203) - 1))] h _
  exact j_V.ri md0_M md0_15 ⟨congrArg (fun z => some (Value.int z)) (Eq.symm (show (m_isTrain w x1) = (m_isFrom x1 0 ((gA w 203) - 1)) from rfl)), rfl⟩
set_option maxRecDepth 100000 in
theorem md1_M : j_meth jP 174 = some (yX10_isSection, cX10_isSection, 2, (some .boolean), 1, false, 10) := rfl
set_option maxRecDepth 100000 in
theorem md1_0 : j_code jP 174 0 = some (.iload_n 1) := rfl
set_option maxRecDepth 100000 in
theorem md1_1 : j_code jP 174 1 = some (.iconst 0) := rfl
set_option maxRecDepth 100000 in
theorem md1_2 : j_code jP 174 2 = some (.aload_n 0) := rfl
set_option maxRecDepth 100000 in
theorem md1_3 : j_code jP 174 3 = some (.getfield 7) := rfl
set_option maxRecDepth 100000 in
theorem md1_6 : j_code jP 174 6 = some (.sipush 202) := rfl
set_option maxRecDepth 100000 in
theorem md1_9 : j_code jP 174 9 = some (.iaload) := rfl
set_option maxRecDepth 100000 in
theorem md1_10 : j_code jP 174 10 = some (.iconst 2) := rfl
set_option maxRecDepth 100000 in
theorem md1_11 : j_code jP 174 11 = some (.isub) := rfl
set_option maxRecDepth 100000 in
theorem md1_12 : j_code jP 174 12 = some (.invokestatic 61) := rfl
set_option maxRecDepth 100000 in
theorem md1_15 : j_code jP 174 15 = some (.ireturn) := rfl
def m_isSection (w : List Int32) (x1 : Int32) : Int32 := (m_isFrom x1 0 ((gA w 202) - 2))
set_option maxRecDepth 1000000 in
theorem md1_ok {u : Nat → Value} {w : List Int32} {x1 : Int32} {d : Nat} {h h0 : J_H} (K : KN h [(359, .inl (10, [(u 0), .ref 360, .ref 361, .ref 362, .ref 363, .ref 364, .ref 365, .ref 366, .ref 367, (u 9), (u 10), (u 11), (u 12), (u 13), (u 14), (u 15), (u 16), (u 17), (u 18), (u 19), (u 20), (u 21), .ref 368, (u 23), .ref 369, .ref 370, .ref 371, (u 27)])), (360, .inr (.inl (0, w)))] h0) : j_V jP d 174 0 (lv_args 0 [.ref 359, .int x1]) [] h (fun rv h' => rv = some (.int (m_isSection w x1)) ∧ h' = h) := by
  show j_V jP d 174 0 [(0, .ref 359), (1, .int x1)] [] h _
  obtain ⟨lv, elv, L⟩ : ∃ lv, lv = [(0, .ref 359), (1, .int x1)] ∧ LK lv [(0, .ref 359), (1, .int x1)] := ⟨_, rfl, LK.rf⟩
  rw [← elv]
  clear elv
  refine j_V.ldL md1_M md1_0 rfl (i := 1) (kd := 0) (v := .int x1) (pcJ := 1) rfl L rfl rfl rfl ?_
  refine j_V.one md1_M md1_1 (by decide) (pcJ := 2) (stJ := [.int 0, .int x1]) rfl ?_
  refine j_V.ldL md1_M md1_2 rfl (i := 0) (kd := 2) (v := .ref 359) (pcJ := 3) rfl L rfl rfl rfl ?_
  refine j_V.getK md1_M md1_3 (ci := 10) (j := 1) rfl K rfl rfl ?_
  refine j_V.one md1_M md1_6 (by decide) (pcJ := 9) (stJ := [.int 202, .ref 360, .int 0, .int x1]) rfl ?_
  refine j_V.iaA md1_M md1_9 K rfl ?_
  refine j_V.one md1_M md1_10 (by decide) (pcJ := 11) (stJ := [.int 2, .int (gA w 202), .int 0, .int x1]) rfl ?_
  refine j_V.one md1_M md1_11 (by decide) (pcJ := 12) (stJ := [.int ((gA w 202) - 2), .int 0, .int x1]) rfl ?_
  refine j_V.cl md1_M md1_12 rfl (md := 2) (mj := 171) rfl (by decide) ma0_M (As := [.int x1, .int 0, .int ((gA w 202) - 2)]) (rest := []) (jk_spl2 rfl rfl (Nat.le_of_ble_eq_true rfl) (Nat.le_of_ble_eq_true rfl)) (fun d => ma0_ok (K.fi [] rfl rfl)) ?_
  rintro r hz ⟨rfl, ez⟩
  rw [ez]
  clear ez
  show j_V jP _ 174 15 lv [.int (m_isFrom x1 0 ((gA w 202) - 2))] h _
  exact j_V.ri md1_M md1_15 ⟨congrArg (fun z => some (Value.int z)) (Eq.symm (show (m_isSection w x1) = (m_isFrom x1 0 ((gA w 202) - 2)) from rfl)), rfl⟩
set_option maxRecDepth 100000 in
theorem md2_M : j_meth jP 175 = some (yX10_isTrack, cX10_isTrack, 3, (some .boolean), 2, false, 10) := rfl
set_option maxRecDepth 100000 in
theorem md2_0 : j_code jP 175 0 = some (.aload_n 0) := rfl
set_option maxRecDepth 100000 in
theorem md2_1 : j_code jP 175 1 = some (.iload_n 1) := rfl
set_option maxRecDepth 100000 in
theorem md2_2 : j_code jP 175 2 = some (.invokevirtual 65) := rfl
set_option maxRecDepth 100000 in
theorem md2_5 : j_code jP 175 5 = some (.ifCond .eq 23) := rfl
set_option maxRecDepth 100000 in
theorem md2_8 : j_code jP 175 8 = some (.iload_n 2) := rfl
set_option maxRecDepth 100000 in
theorem md2_9 : j_code jP 175 9 = some (.iconst 0) := rfl
set_option maxRecDepth 100000 in
theorem md2_10 : j_code jP 175 10 = some (.aload_n 0) := rfl
set_option maxRecDepth 100000 in
theorem md2_11 : j_code jP 175 11 = some (.iload_n 1) := rfl
set_option maxRecDepth 100000 in
theorem md2_12 : j_code jP 175 12 = some (.iconst 1) := rfl
set_option maxRecDepth 100000 in
theorem md2_13 : j_code jP 175 13 = some (.invokevirtual 69) := rfl
set_option maxRecDepth 100000 in
theorem md2_16 : j_code jP 175 16 = some (.iconst 1) := rfl
set_option maxRecDepth 100000 in
theorem md2_17 : j_code jP 175 17 = some (.isub) := rfl
set_option maxRecDepth 100000 in
theorem md2_18 : j_code jP 175 18 = some (.invokestatic 61) := rfl
set_option maxRecDepth 100000 in
theorem md2_21 : j_code jP 175 21 = some (.ifCond .eq 7) := rfl
set_option maxRecDepth 100000 in
theorem md2_24 : j_code jP 175 24 = some (.iconst 1) := rfl
set_option maxRecDepth 100000 in
theorem md2_25 : j_code jP 175 25 = some (.goto 4) := rfl
set_option maxRecDepth 100000 in
theorem md2_28 : j_code jP 175 28 = some (.iconst 0) := rfl
set_option maxRecDepth 100000 in
theorem md2_29 : j_code jP 175 29 = some (.ireturn) := rfl
def m_isTrack (w : List Int32) (x1 : Int32) (x2 : Int32) : Int32 := ((if (m_isStation w x1) = 0 then 0 else (if (m_isFrom x2 0 ((m_st w x1 1) - 1)) = 0 then 0 else 1)) : Int32)
set_option maxRecDepth 1000000 in
theorem md2_ok {u : Nat → Value} {w : List Int32} {x1 x2 : Int32} {d : Nat} {h h0 : J_H} (K : KN h [(359, .inl (10, [(u 0), .ref 360, .ref 361, .ref 362, .ref 363, .ref 364, .ref 365, .ref 366, .ref 367, (u 9), (u 10), (u 11), (u 12), (u 13), (u 14), (u 15), (u 16), (u 17), (u 18), (u 19), (u 20), (u 21), .ref 368, (u 23), .ref 369, .ref 370, .ref 371, (u 27)])), (360, .inr (.inl (0, w)))] h0) : j_V jP d 175 0 (lv_args 0 [.ref 359, .int x1, .int x2]) [] h (fun rv h' => rv = some (.int (m_isTrack w x1 x2)) ∧ h' = h) := by
  show j_V jP d 175 0 [(0, .ref 359), (1, .int x1), (2, .int x2)] [] h _
  obtain ⟨lv, elv, L⟩ : ∃ lv, lv = [(0, .ref 359), (1, .int x1), (2, .int x2)] ∧ LK lv [(0, .ref 359), (1, .int x1), (2, .int x2)] := ⟨_, rfl, LK.rf⟩
  rw [← elv]
  clear elv
  refine j_V.ldL md2_M md2_0 rfl (i := 0) (kd := 2) (v := .ref 359) (pcJ := 1) rfl L rfl rfl rfl ?_
  refine j_V.ldL md2_M md2_1 rfl (i := 1) (kd := 0) (v := .int x1) (pcJ := 2) rfl L rfl rfl rfl ?_
  refine j_V.cl md2_M md2_2 rfl (md := 3) (mj := 172) rfl (by decide) mc9_M (As := [.ref 359, .int x1]) (rest := []) (jk_spl3 (K.at rfl) rfl rfl rfl (Nat.le_of_ble_eq_true rfl) (Nat.le_of_ble_eq_true rfl)) (fun d => mc9_ok (K.fi [359, 360] rfl rfl)) ?_
  rintro r hz ⟨rfl, ez⟩
  rw [ez]
  clear ez
  show j_V jP _ 175 5 lv [.int (m_isStation w x1)] h _
  refine j_V.cut (b := 29) (stJ := [.int ((if (m_isStation w x1) = 0 then 0 else (if (m_isFrom x2 0 ((m_st w x1 1) - 1)) = 0 then 0 else 1)) : Int32)]) (fun v => [(0, .ref 359), (1, .int x1), (2, .int x2)]) ((if (m_isStation w x1) = 0 then 0 else (if (m_isFrom x2 0 ((m_st w x1 1) - 1)) = 0 then 0 else 1)) : Int32) (fun Q kk => ?_) (fun lv L => ?_)
  · refine j_V.ifc md2_M md2_5 (t := 28) rfl (fun c5_0 => ?_) (fun c5_0 => ?_)
    · replace c5_0 : (m_isStation w x1) = 0 := jd_eq c5_0
      refine j_V.one md2_M md2_28 (by decide) (pcJ := 29) (stJ := [.int 0]) rfl ?_
      exact Eq.subst (motive := fun z => j_V jP _ 175 29 _ (.int z :: []) h Q) (show ((if (m_isStation w x1) = 0 then 0 else (if (m_isFrom x2 0 ((m_st w x1 1) - 1)) = 0 then 0 else 1)) : Int32) = 0 from (if_pos c5_0).trans (rfl)) (kk _ L)
    · replace c5_0 : ¬ ((m_isStation w x1) = 0) := jd_eqn c5_0
      refine j_V.ldL md2_M md2_8 rfl (i := 2) (kd := 0) (v := .int x2) (pcJ := 9) rfl L rfl rfl rfl ?_
      refine j_V.one md2_M md2_9 (by decide) (pcJ := 10) (stJ := [.int 0, .int x2]) rfl ?_
      refine j_V.ldL md2_M md2_10 rfl (i := 0) (kd := 2) (v := .ref 359) (pcJ := 11) rfl L rfl rfl rfl ?_
      refine j_V.ldL md2_M md2_11 rfl (i := 1) (kd := 0) (v := .int x1) (pcJ := 12) rfl L rfl rfl rfl ?_
      refine j_V.one md2_M md2_12 (by decide) (pcJ := 13) (stJ := [.int 1, .int x1, .ref 359, .int 0, .int x2]) rfl ?_
      refine j_V.cl md2_M md2_13 rfl (md := 3) (mj := 176) rfl (by decide) ma1_M (As := [.ref 359, .int x1, .int 1]) (rest := [.int 0, .int x2]) (jk_spl3 (K.at rfl) rfl rfl rfl (Nat.le_of_ble_eq_true rfl) (Nat.le_of_ble_eq_true rfl)) (fun d => ma1_ok (K.fi [359, 360] rfl rfl)) ?_
      rintro r hz ⟨rfl, ez⟩
      rw [ez]
      clear ez
      show j_V jP _ 175 16 lv [.int (m_st w x1 1), .int 0, .int x2] h _
      refine j_V.one md2_M md2_16 (by decide) (pcJ := 17) (stJ := [.int 1, .int (m_st w x1 1), .int 0, .int x2]) rfl ?_
      refine j_V.one md2_M md2_17 (by decide) (pcJ := 18) (stJ := [.int ((m_st w x1 1) - 1), .int 0, .int x2]) rfl ?_
      refine j_V.cl md2_M md2_18 rfl (md := 2) (mj := 171) rfl (by decide) ma0_M (As := [.int x2, .int 0, .int ((m_st w x1 1) - 1)]) (rest := []) (jk_spl2 rfl rfl (Nat.le_of_ble_eq_true rfl) (Nat.le_of_ble_eq_true rfl)) (fun d => ma0_ok (K.fi [] rfl rfl)) ?_
      rintro r hz ⟨rfl, ez⟩
      rw [ez]
      clear ez
      show j_V jP _ 175 21 lv [.int (m_isFrom x2 0 ((m_st w x1 1) - 1))] h _
      refine j_V.ifc md2_M md2_21 (t := 28) rfl (fun c21_1 => ?_) (fun c21_1 => ?_)
      · replace c21_1 : (m_isFrom x2 0 ((m_st w x1 1) - 1)) = 0 := jd_eq c21_1
        refine j_V.one md2_M md2_28 (by decide) (pcJ := 29) (stJ := [.int 0]) rfl ?_
        exact Eq.subst (motive := fun z => j_V jP _ 175 29 _ (.int z :: []) h Q) (show ((if (m_isStation w x1) = 0 then 0 else (if (m_isFrom x2 0 ((m_st w x1 1) - 1)) = 0 then 0 else 1)) : Int32) = 0 from (if_neg c5_0).trans ((if_pos c21_1).trans (rfl))) (kk _ L)
      · replace c21_1 : ¬ ((m_isFrom x2 0 ((m_st w x1 1) - 1)) = 0) := jd_eqn c21_1
        refine j_V.one md2_M md2_24 (by decide) (pcJ := 25) (stJ := [.int 1]) rfl ?_
        refine j_V.gto md2_M md2_25 (t := 29) rfl ?_
        exact Eq.subst (motive := fun z => j_V jP _ 175 29 _ (.int z :: []) h Q) (show ((if (m_isStation w x1) = 0 then 0 else (if (m_isFrom x2 0 ((m_st w x1 1) - 1)) = 0 then 0 else 1)) : Int32) = 1 from (if_neg c5_0).trans ((if_neg c21_1).trans (rfl))) (kk _ L)
  exact j_V.ri md2_M md2_29 ⟨congrArg (fun z => some (Value.int z)) (Eq.symm (show (m_isTrack w x1 x2) = ((if (m_isStation w x1) = 0 then 0 else (if (m_isFrom x2 0 ((m_st w x1 1) - 1)) = 0 then 0 else 1)) : Int32) from rfl)), rfl⟩

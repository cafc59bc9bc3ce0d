/-! the reference's methods that write nothing, by wip/px/gen_m1.py -/
set_option maxRecDepth 100000 in
theorem ma0_M : j_meth jP 171 = some (yX10_isFrom, cX10_isFrom, 3, (some .boolean), 3, false, 10) := rfl
set_option maxRecDepth 100000 in
theorem ma0_0 : j_code jP 171 0 = some (.iload_n 0) := rfl
set_option maxRecDepth 100000 in
theorem ma0_1 : j_code jP 171 1 = some (.iload_n 1) := rfl
set_option maxRecDepth 100000 in
theorem ma0_2 : j_code jP 171 2 = some (.if_icmp .lt 12) := rfl
set_option maxRecDepth 100000 in
theorem ma0_5 : j_code jP 171 5 = some (.iload_n 0) := rfl
set_option maxRecDepth 100000 in
theorem ma0_6 : j_code jP 171 6 = some (.iload_n 2) := rfl
set_option maxRecDepth 100000 in
theorem ma0_7 : j_code jP 171 7 = some (.if_icmp .gt 7) := rfl
set_option maxRecDepth 100000 in
theorem ma0_10 : j_code jP 171 10 = some (.iconst 1) := rfl
set_option maxRecDepth 100000 in
theorem ma0_11 : j_code jP 171 11 = some (.goto 4) := rfl
set_option maxRecDepth 100000 in
theorem ma0_14 : j_code jP 171 14 = some (.iconst 0) := rfl
set_option maxRecDepth 100000 in
theorem ma0_15 : j_code jP 171 15 = some (.ireturn) := rfl
def m_isFrom  (x1 : Int32) (x2 : Int32) (x3 : Int32) : Int32 := (if x1 < x2 then 0 else (if x3 < x1 then 0 else 1))
theorem ma0_ok  {x1 x2 x3 : Int32} {d : Nat} {h h0 : J_H} (K : KN h [] h0) : j_V jP d 171 0 (lv_args 0 [.int x1, .int x2, .int x3]) [] h (fun rv h' => rv = some (.int (m_isFrom x1 x2 x3)) ∧ h' = h) := by
  show j_V jP d 171 0 [(0, .int x1), (1, .int x2), (2, .int x3)] [] h _
  refine j_V.one ma0_M ma0_0 (by decide) (pc' := 1) (st' := [.int x1]) rfl ?_
  refine j_V.one ma0_M ma0_1 (by decide) (pc' := 2) (st' := [.int x2, .int x1]) rfl ?_
  refine j_V.icmp ma0_M ma0_2 (t := 14) rfl (fun c2_0 => ?_) (fun c2_0 => ?_)
  · replace c2_0 : x1 < x2 := jd_lt c2_0
    refine j_V.one ma0_M ma0_14 (by decide) (pc' := 15) (st' := [.int 0]) rfl ?_
    exact j_V.ret ma0_M ma0_15 rfl rfl ⟨congrArg (fun z => some (Value.int z)) (Eq.symm (show (m_isFrom x1 x2 x3) = 0 from (if_pos c2_0).trans (rfl))), rfl⟩
  · replace c2_0 : ¬ (x1 < x2) := jd_ltn c2_0
    refine j_V.one ma0_M ma0_5 (by decide) (pc' := 6) (st' := [.int x1]) rfl ?_
    refine j_V.one ma0_M ma0_6 (by decide) (pc' := 7) (st' := [.int x3, .int x1]) rfl ?_
    refine j_V.icmp ma0_M ma0_7 (t := 14) rfl (fun c7_1 => ?_) (fun c7_1 => ?_)
    · replace c7_1 : x3 < x1 := jd_gt c7_1
      refine j_V.one ma0_M ma0_14 (by decide) (pc' := 15) (st' := [.int 0]) rfl ?_
      exact j_V.ret ma0_M ma0_15 rfl rfl ⟨congrArg (fun z => some (Value.int z)) (Eq.symm (show (m_isFrom x1 x2 x3) = 0 from (if_neg c2_0).trans ((if_pos c7_1).trans (rfl)))), rfl⟩
    · replace c7_1 : ¬ (x3 < x1) := jd_gtn c7_1
      refine j_V.one ma0_M ma0_10 (by decide) (pc' := 11) (st' := [.int 1]) rfl ?_
      refine j_V.gto ma0_M ma0_11 (t := 15) rfl ?_
      exact j_V.ret ma0_M ma0_15 rfl rfl ⟨congrArg (fun z => some (Value.int z)) (Eq.symm (show (m_isFrom x1 x2 x3) = 1 from (if_neg c2_0).trans ((if_neg c7_1).trans (rfl)))), rfl⟩
set_option maxRecDepth 100000 in
theorem ma1_M : j_meth jP 176 = some (yX10_st, cX10_st, 3, (some .int), 2, false, 10) := rfl
set_option maxRecDepth 100000 in
theorem ma1_0 : j_code jP 176 0 = some (.aload_n 0) := rfl
set_option maxRecDepth 100000 in
theorem ma1_1 : j_code jP 176 1 = some (.getfield 7) := rfl
set_option maxRecDepth 100000 in
theorem ma1_4 : j_code jP 176 4 = some (.bipush 8) := rfl
set_option maxRecDepth 100000 in
theorem ma1_6 : j_code jP 176 6 = some (.iload_n 1) := rfl
set_option maxRecDepth 100000 in
theorem ma1_7 : j_code jP 176 7 = some (.imul) := rfl
set_option maxRecDepth 100000 in
theorem ma1_8 : j_code jP 176 8 = some (.iload_n 2) := rfl
set_option maxRecDepth 100000 in
theorem ma1_9 : j_code jP 176 9 = some (.iadd) := rfl
set_option maxRecDepth 100000 in
theorem ma1_10 : j_code jP 176 10 = some (.iaload) := rfl
set_option maxRecDepth 100000 in
theorem ma1_11 : j_code jP 176 11 = some (.ireturn) := rfl
def m_st (w : List Int32) (x1 : Int32) (x2 : Int32) : Int32 := (gA w ((8 * x1) + x2))
theorem ma1_ok {u : Nat → Value} {w : List Int32} {x1 x2 : Int32} {d : Nat} {h h0 : J_H} (K : KN h [(359, .inl (10, [(u 0), .ref 360, .ref 361, .ref 362, .ref 363, .ref 364, .ref 365, .ref 366, .ref 367, (u 9), (u 10), (u 11), (u 12), (u 13), (u 14), (u 15), (u 16), (u 17), (u 18), (u 19), (u 20), (u 21), .ref 368, (u 23), .ref 369, .ref 370, .ref 371, (u 27)])), (360, .inr (.inl (0, w)))] h0) : j_V jP d 176 0 (lv_args 0 [.ref 359, .int x1, .int x2]) [] h (fun rv h' => rv = some (.int (m_st w x1 x2)) ∧ h' = h) := by
  show j_V jP d 176 0 [(0, .ref 359), (1, .int x1), (2, .int x2)] [] h _
  refine j_V.one ma1_M ma1_0 (by decide) (pc' := 1) (st' := [.ref 359]) rfl ?_
  refine j_V.getK ma1_M ma1_1 (ci := 10) (j := 1) rfl K rfl rfl ?_
  refine j_V.one ma1_M ma1_4 (by decide) (pc' := 6) (st' := [.int 8, .ref 360]) rfl ?_
  refine j_V.one ma1_M ma1_6 (by decide) (pc' := 7) (st' := [.int x1, .int 8, .ref 360]) rfl ?_
  refine j_V.one ma1_M ma1_7 (by decide) (pc' := 8) (st' := [.int (8 * x1), .ref 360]) rfl ?_
  refine j_V.one ma1_M ma1_8 (by decide) (pc' := 9) (st' := [.int x2, .int (8 * x1), .ref 360]) rfl ?_
  refine j_V.one ma1_M ma1_9 (by decide) (pc' := 10) (st' := [.int ((8 * x1) + x2), .ref 360]) rfl ?_
  refine j_V.iaA ma1_M ma1_10 K rfl ?_
  exact j_V.ret ma1_M ma1_11 rfl rfl ⟨congrArg (fun z => some (Value.int z)) (Eq.symm (show (m_st w x1 x2) = (gA w ((8 * x1) + x2)) from rfl)), rfl⟩
set_option maxRecDepth 100000 in
theorem ma2_M : j_meth jP 177 = some (yX10_at, cX10_at, 2, (some .int), 2, false, 10) := rfl
set_option maxRecDepth 100000 in
theorem ma2_0 : j_code jP 177 0 = some (.bipush 56) := rfl
set_option maxRecDepth 100000 in
theorem ma2_2 : j_code jP 177 2 = some (.bipush 28) := rfl
set_option maxRecDepth 100000 in
theorem ma2_4 : j_code jP 177 4 = some (.iload_n 0) := rfl
set_option maxRecDepth 100000 in
theorem ma2_5 : j_code jP 177 5 = some (.imul) := rfl
set_option maxRecDepth 100000 in
theorem ma2_6 : j_code jP 177 6 = some (.iadd) := rfl
set_option maxRecDepth 100000 in
theorem ma2_7 : j_code jP 177 7 = some (.iload_n 1) := rfl
set_option maxRecDepth 100000 in
theorem ma2_8 : j_code jP 177 8 = some (.iadd) := rfl
set_option maxRecDepth 100000 in
theorem ma2_9 : j_code jP 177 9 = some (.ireturn) := rfl
def m_at  (x1 : Int32) (x2 : Int32) : Int32 := ((56 + (28 * x1)) + x2)
theorem ma2_ok  {x1 x2 : Int32} {d : Nat} {h h0 : J_H} (K : KN h [] h0) : j_V jP d 177 0 (lv_args 0 [.int x1, .int x2]) [] h (fun rv h' => rv = some (.int (m_at x1 x2)) ∧ h' = h) := by
  show j_V jP d 177 0 [(0, .int x1), (1, .int x2)] [] h _
  refine j_V.one ma2_M ma2_0 (by decide) (pc' := 2) (st' := [.int 56]) rfl ?_
  refine j_V.one ma2_M ma2_2 (by decide) (pc' := 4) (st' := [.int 28, .int 56]) rfl ?_
  refine j_V.one ma2_M ma2_4 (by decide) (pc' := 5) (st' := [.int x1, .int 28, .int 56]) rfl ?_
  refine j_V.one ma2_M ma2_5 (by decide) (pc' := 6) (st' := [.int (28 * x1), .int 56]) rfl ?_
  refine j_V.one ma2_M ma2_6 (by decide) (pc' := 7) (st' := [.int (56 + (28 * x1))]) rfl ?_
  refine j_V.one ma2_M ma2_7 (by decide) (pc' := 8) (st' := [.int x2, .int (56 + (28 * x1))]) rfl ?_
  refine j_V.one ma2_M ma2_8 (by decide) (pc' := 9) (st' := [.int ((56 + (28 * x1)) + x2)]) rfl ?_
  exact j_V.ret ma2_M ma2_9 rfl rfl ⟨congrArg (fun z => some (Value.int z)) (Eq.symm (show (m_at x1 x2) = ((56 + (28 * x1)) + x2) from rfl)), rfl⟩
set_option maxRecDepth 100000 in
theorem ma3_M : j_meth jP 178 = some (yX10_of, cX10_of, 3, (some .int), 2, false, 10) := rfl
set_option maxRecDepth 100000 in
theorem ma3_0 : j_code jP 178 0 = some (.aload_n 0) := rfl
set_option maxRecDepth 100000 in
theorem ma3_1 : j_code jP 178 1 = some (.getfield 7) := rfl
set_option maxRecDepth 100000 in
theorem ma3_4 : j_code jP 178 4 = some (.iload_n 1) := rfl
set_option maxRecDepth 100000 in
theorem ma3_5 : j_code jP 178 5 = some (.iload_n 2) := rfl
set_option maxRecDepth 100000 in
theorem ma3_6 : j_code jP 178 6 = some (.invokestatic 73) := rfl
set_option maxRecDepth 100000 in
theorem ma3_9 : j_code jP 178 9 = some (.iaload) := rfl
set_option maxRecDepth 100000 in
theorem ma3_10 : j_code jP 178 10 = some (.ireturn) := rfl
def m_of (w : List Int32) (x1 : Int32) (x2 : Int32) : Int32 := (gA w (m_at x1 x2))
theorem ma3_ok {u : Nat → Value} {w : List Int32} {x1 x2 : Int32} {d : Nat} {h h0 : J_H} (K : KN h [(359, .inl (10, [(u 0), .ref 360, .ref 361, .ref 362, .ref 363, .ref 364, .ref 365, .ref 366, .ref 367, (u 9), (u 10), (u 11), (u 12), (u 13), (u 14), (u 15), (u 16), (u 17), (u 18), (u 19), (u 20), (u 21), .ref 368, (u 23), .ref 369, .ref 370, .ref 371, (u 27)])), (360, .inr (.inl (0, w)))] h0) : j_V jP d 178 0 (lv_args 0 [.ref 359, .int x1, .int x2]) [] h (fun rv h' => rv = some (.int (m_of w x1 x2)) ∧ h' = h) := by
  show j_V jP d 178 0 [(0, .ref 359), (1, .int x1), (2, .int x2)] [] h _
  refine j_V.one ma3_M ma3_0 (by decide) (pc' := 1) (st' := [.ref 359]) rfl ?_
  refine j_V.getK ma3_M ma3_1 (ci := 10) (j := 1) rfl K rfl rfl ?_
  refine j_V.one ma3_M ma3_4 (by decide) (pc' := 5) (st' := [.int x1, .ref 360]) rfl ?_
  refine j_V.one ma3_M ma3_5 (by decide) (pc' := 6) (st' := [.int x2, .int x1, .ref 360]) rfl ?_
  refine j_V.cl ma3_M ma3_6 rfl (md := 2) (mj := 177) rfl (by decide) ma2_M (As := [.int x1, .int x2]) (rest := [.ref 360]) (jk_spl2 rfl rfl (Nat.le_of_ble_eq_true rfl) (Nat.le_of_ble_eq_true rfl)) (fun d => ma2_ok (K.sub trivial)) ?_
  rintro r hz ⟨rfl, ez⟩
  rw [ez]
  clear ez
  show j_V jP _ 178 9 [(0, .ref 359), (1, .int x1), (2, .int x2)] [.int (m_at x1 x2), .ref 360] h _
  refine j_V.iaA ma3_M ma3_9 K rfl ?_
  exact j_V.ret ma3_M ma3_10 rfl rfl ⟨congrArg (fun z => some (Value.int z)) (Eq.symm (show (m_of w x1 x2) = (gA w (m_at x1 x2)) from rfl)), rfl⟩
set_option maxRecDepth 100000 in
theorem ma4_M : j_meth jP 203 = some (yX10_step, cX10_step, 2, (some .int), 1, false, 10) := rfl
set_option maxRecDepth 100000 in
theorem ma4_0 : j_code jP 203 0 = some (.aload_n 0) := rfl
set_option maxRecDepth 100000 in
theorem ma4_1 : j_code jP 203 1 = some (.iload_n 1) := rfl
set_option maxRecDepth 100000 in
theorem ma4_2 : j_code jP 203 2 = some (.iconst 2) := rfl
set_option maxRecDepth 100000 in
theorem ma4_3 : j_code jP 203 3 = some (.invokevirtual 198) := rfl
set_option maxRecDepth 100000 in
theorem ma4_6 : j_code jP 203 6 = some (.aload_n 0) := rfl
set_option maxRecDepth 100000 in
theorem ma4_7 : j_code jP 203 7 = some (.iload_n 1) := rfl
set_option maxRecDepth 100000 in
theorem ma4_8 : j_code jP 203 8 = some (.iconst 1) := rfl
set_option maxRecDepth 100000 in
theorem ma4_9 : j_code jP 203 9 = some (.invokevirtual 198) := rfl
set_option maxRecDepth 100000 in
theorem ma4_12 : j_code jP 203 12 = some (.if_icmp .le 7) := rfl
set_option maxRecDepth 100000 in
theorem ma4_15 : j_code jP 203 15 = some (.iconst 1) := rfl
set_option maxRecDepth 100000 in
theorem ma4_16 : j_code jP 203 16 = some (.goto 4) := rfl
set_option maxRecDepth 100000 in
theorem ma4_19 : j_code jP 203 19 = some (.iconst (-1)) := rfl
set_option maxRecDepth 100000 in
theorem ma4_20 : j_code jP 203 20 = some (.ireturn) := rfl
def m_step (w : List Int32) (x1 : Int32) : Int32 := (if (m_of w x1 1) < (m_of w x1 2) then 1 else (-1))
theorem ma4_ok {u : Nat → Value} {w : List Int32} {x1 : Int32} {d : Nat} {h h0 : J_H} (K : KN h [(359, .inl (10, [(u 0), .ref 360, .ref 361, .ref 362, .ref 363, .ref 364, .ref 365, .ref 366, .ref 367, (u 9), (u 10), (u 11), (u 12), (u 13), (u 14), (u 15), (u 16), (u 17), (u 18), (u 19), (u 20), (u 21), .ref 368, (u 23), .ref 369, .ref 370, .ref 371, (u 27)])), (360, .inr (.inl (0, w)))] h0) : j_V jP d 203 0 (lv_args 0 [.ref 359, .int x1]) [] h (fun rv h' => rv = some (.int (m_step w x1)) ∧ h' = h) := by
  show j_V jP d 203 0 [(0, .ref 359), (1, .int x1)] [] h _
  refine j_V.one ma4_M ma4_0 (by decide) (pc' := 1) (st' := [.ref 359]) rfl ?_
  refine j_V.one ma4_M ma4_1 (by decide) (pc' := 2) (st' := [.int x1, .ref 359]) rfl ?_
  refine j_V.one ma4_M ma4_2 (by decide) (pc' := 3) (st' := [.int 2, .int x1, .ref 359]) rfl ?_
  refine j_V.cl ma4_M ma4_3 rfl (md := 3) (mj := 178) rfl (by decide) ma3_M (As := [.ref 359, .int x1, .int 2]) (rest := []) (jk_spl3 (K.at rfl) rfl rfl rfl (Nat.le_of_ble_eq_true rfl) (Nat.le_of_ble_eq_true rfl)) (fun d => ma3_ok (K.sub ⟨rfl, rfl, trivial⟩)) ?_
  rintro r hz ⟨rfl, ez⟩
  rw [ez]
  clear ez
  show j_V jP _ 203 6 [(0, .ref 359), (1, .int x1)] [.int (m_of w x1 2)] h _
  refine j_V.one ma4_M ma4_6 (by decide) (pc' := 7) (st' := [.ref 359, .int (m_of w x1 2)]) rfl ?_
  refine j_V.one ma4_M ma4_7 (by decide) (pc' := 8) (st' := [.int x1, .ref 359, .int (m_of w x1 2)]) rfl ?_
  refine j_V.one ma4_M ma4_8 (by decide) (pc' := 9) (st' := [.int 1, .int x1, .ref 359, .int (m_of w x1 2)]) rfl ?_
  refine j_V.cl ma4_M ma4_9 rfl (md := 3) (mj := 178) rfl (by decide) ma3_M (As := [.ref 359, .int x1, .int 1]) (rest := [.int (m_of w x1 2)]) (jk_spl3 (K.at rfl) rfl rfl rfl (Nat.le_of_ble_eq_true rfl) (Nat.le_of_ble_eq_true rfl)) (fun d => ma3_ok (K.sub ⟨rfl, rfl, trivial⟩)) ?_
  rintro r hz ⟨rfl, ez⟩
  rw [ez]
  clear ez
  show j_V jP _ 203 12 [(0, .ref 359), (1, .int x1)] [.int (m_of w x1 1), .int (m_of w x1 2)] h _
  refine j_V.icmp ma4_M ma4_12 (t := 19) rfl (fun c12_0 => ?_) (fun c12_0 => ?_)
  · replace c12_0 : ¬ ((m_of w x1 1) < (m_of w x1 2)) := jd_le c12_0
    refine j_V.one ma4_M ma4_19 (by decide) (pc' := 20) (st' := [.int (-1)]) rfl ?_
    exact j_V.ret ma4_M ma4_20 rfl rfl ⟨congrArg (fun z => some (Value.int z)) (Eq.symm (show (m_step w x1) = (-1) from (if_neg c12_0).trans (rfl))), rfl⟩
  · replace c12_0 : (m_of w x1 1) < (m_of w x1 2) := jd_len c12_0
    refine j_V.one ma4_M ma4_15 (by decide) (pc' := 16) (st' := [.int 1]) rfl ?_
    refine j_V.gto ma4_M ma4_16 (t := 20) rfl ?_
    exact j_V.ret ma4_M ma4_20 rfl rfl ⟨congrArg (fun z => some (Value.int z)) (Eq.symm (show (m_step w x1) = 1 from (if_pos c12_0).trans (rfl))), rfl⟩
set_option maxRecDepth 100000 in
theorem ma5_M : j_meth jP 204 = some (yX10_next, cX10_next, 2, (some .int), 1, false, 10) := rfl
set_option maxRecDepth 100000 in
theorem ma5_0 : j_code jP 204 0 = some (.aload_n 0) := rfl
set_option maxRecDepth 100000 in
theorem ma5_1 : j_code jP 204 1 = some (.iload_n 1) := rfl
set_option maxRecDepth 100000 in
theorem ma5_2 : j_code jP 204 2 = some (.bipush 7) := rfl
set_option maxRecDepth 100000 in
theorem ma5_4 : j_code jP 204 4 = some (.invokevirtual 198) := rfl
set_option maxRecDepth 100000 in
theorem ma5_7 : j_code jP 204 7 = some (.aload_n 0) := rfl
set_option maxRecDepth 100000 in
theorem ma5_8 : j_code jP 204 8 = some (.iload_n 1) := rfl
set_option maxRecDepth 100000 in
theorem ma5_9 : j_code jP 204 9 = some (.invokevirtual 201) := rfl
set_option maxRecDepth 100000 in
theorem ma5_12 : j_code jP 204 12 = some (.iadd) := rfl
set_option maxRecDepth 100000 in
theorem ma5_13 : j_code jP 204 13 = some (.ireturn) := rfl
def m_next (w : List Int32) (x1 : Int32) : Int32 := ((m_of w x1 7) + (m_step w x1))
theorem ma5_ok {u : Nat → Value} {w : List Int32} {x1 : Int32} {d : Nat} {h h0 : J_H} (K : KN h [(359, .inl (10, [(u 0), .ref 360, .ref 361, .ref 362, .ref 363, .ref 364, .ref 365, .ref 366, .ref 367, (u 9), (u 10), (u 11), (u 12), (u 13), (u 14), (u 15), (u 16), (u 17), (u 18), (u 19), (u 20), (u 21), .ref 368, (u 23), .ref 369, .ref 370, .ref 371, (u 27)])), (360, .inr (.inl (0, w)))] h0) : j_V jP d 204 0 (lv_args 0 [.ref 359, .int x1]) [] h (fun rv h' => rv = some (.int (m_next w x1)) ∧ h' = h) := by
  show j_V jP d 204 0 [(0, .ref 359), (1, .int x1)] [] h _
  refine j_V.one ma5_M ma5_0 (by decide) (pc' := 1) (st' := [.ref 359]) rfl ?_
  refine j_V.one ma5_M ma5_1 (by decide) (pc' := 2) (st' := [.int x1, .ref 359]) rfl ?_
  refine j_V.one ma5_M ma5_2 (by decide) (pc' := 4) (st' := [.int 7, .int x1, .ref 359]) rfl ?_
  refine j_V.cl ma5_M ma5_4 rfl (md := 3) (mj := 178) rfl (by decide) ma3_M (As := [.ref 359, .int x1, .int 7]) (rest := []) (jk_spl3 (K.at rfl) rfl rfl rfl (Nat.le_of_ble_eq_true rfl) (Nat.le_of_ble_eq_true rfl)) (fun d => ma3_ok (K.sub ⟨rfl, rfl, trivial⟩)) ?_
  rintro r hz ⟨rfl, ez⟩
  rw [ez]
  clear ez
  show j_V jP _ 204 7 [(0, .ref 359), (1, .int x1)] [.int (m_of w x1 7)] h _
  refine j_V.one ma5_M ma5_7 (by decide) (pc' := 8) (st' := [.ref 359, .int (m_of w x1 7)]) rfl ?_
  refine j_V.one ma5_M ma5_8 (by decide) (pc' := 9) (st' := [.int x1, .ref 359, .int (m_of w x1 7)]) rfl ?_
  refine j_V.cl ma5_M ma5_9 rfl (md := 3) (mj := 203) rfl (by decide) ma4_M (As := [.ref 359, .int x1]) (rest := [.int (m_of w x1 7)]) (jk_spl3 (K.at rfl) rfl rfl rfl (Nat.le_of_ble_eq_true rfl) (Nat.le_of_ble_eq_true rfl)) (fun d => ma4_ok (K.sub ⟨rfl, rfl, trivial⟩)) ?_
  rintro r hz ⟨rfl, ez⟩
  rw [ez]
  clear ez
  show j_V jP _ 204 12 [(0, .ref 359), (1, .int x1)] [.int (m_step w x1), .int (m_of w x1 7)] h _
  refine j_V.one ma5_M ma5_12 (by decide) (pc' := 13) (st' := [.int ((m_of w x1 7) + (m_step w x1))]) rfl ?_
  exact j_V.ret ma5_M ma5_13 rfl rfl ⟨congrArg (fun z => some (Value.int z)) (Eq.symm (show (m_next w x1) = ((m_of w x1 7) + (m_step w x1)) from rfl)), rfl⟩
set_option maxRecDepth 100000 in
theorem ma6_M : j_meth jP 205 = some (yX10_placeOf, cX10_placeOf, 2, (some .int), 1, false, 10) := rfl
set_option maxRecDepth 100000 in
theorem ma6_0 : j_code jP 205 0 = some (.aload_n 0) := rfl
set_option maxRecDepth 100000 in
theorem ma6_1 : j_code jP 205 1 = some (.iload_n 1) := rfl
set_option maxRecDepth 100000 in
theorem ma6_2 : j_code jP 205 2 = some (.bipush 6) := rfl
set_option maxRecDepth 100000 in
theorem ma6_4 : j_code jP 205 4 = some (.invokevirtual 198) := rfl
set_option maxRecDepth 100000 in
theorem ma6_7 : j_code jP 205 7 = some (.iconst 1) := rfl
set_option maxRecDepth 100000 in
theorem ma6_8 : j_code jP 205 8 = some (.if_icmp .ne 13) := rfl
set_option maxRecDepth 100000 in
theorem ma6_11 : j_code jP 205 11 = some (.aload_n 0) := rfl
set_option maxRecDepth 100000 in
theorem ma6_12 : j_code jP 205 12 = some (.iload_n 1) := rfl
set_option maxRecDepth 100000 in
theorem ma6_13 : j_code jP 205 13 = some (.bipush 7) := rfl
set_option maxRecDepth 100000 in
theorem ma6_15 : j_code jP 205 15 = some (.invokevirtual 198) := rfl
set_option maxRecDepth 100000 in
theorem ma6_18 : j_code jP 205 18 = some (.goto 34) := rfl
set_option maxRecDepth 100000 in
theorem ma6_21 : j_code jP 205 21 = some (.aload_n 0) := rfl
set_option maxRecDepth 100000 in
theorem ma6_22 : j_code jP 205 22 = some (.iload_n 1) := rfl
set_option maxRecDepth 100000 in
theorem ma6_23 : j_code jP 205 23 = some (.bipush 6) := rfl
set_option maxRecDepth 100000 in
theorem ma6_25 : j_code jP 205 25 = some (.invokevirtual 198) := rfl
set_option maxRecDepth 100000 in
theorem ma6_28 : j_code jP 205 28 = some (.iconst 2) := rfl
set_option maxRecDepth 100000 in
theorem ma6_29 : j_code jP 205 29 = some (.if_icmp .ne 22) := rfl
set_option maxRecDepth 100000 in
theorem ma6_32 : j_code jP 205 32 = some (.aload_n 0) := rfl
set_option maxRecDepth 100000 in
theorem ma6_33 : j_code jP 205 33 = some (.iload_n 1) := rfl
set_option maxRecDepth 100000 in
theorem ma6_34 : j_code jP 205 34 = some (.bipush 8) := rfl
set_option maxRecDepth 100000 in
theorem ma6_36 : j_code jP 205 36 = some (.invokevirtual 198) := rfl
set_option maxRecDepth 100000 in
theorem ma6_39 : j_code jP 205 39 = some (.iconst (-1)) := rfl
set_option maxRecDepth 100000 in
theorem ma6_40 : j_code jP 205 40 = some (.if_icmp .eq 11) := rfl
set_option maxRecDepth 100000 in
theorem ma6_43 : j_code jP 205 43 = some (.aload_n 0) := rfl
set_option maxRecDepth 100000 in
theorem ma6_44 : j_code jP 205 44 = some (.iload_n 1) := rfl
set_option maxRecDepth 100000 in
theorem ma6_45 : j_code jP 205 45 = some (.invokevirtual 204) := rfl
set_option maxRecDepth 100000 in
theorem ma6_48 : j_code jP 205 48 = some (.goto 4) := rfl
set_option maxRecDepth 100000 in
theorem ma6_51 : j_code jP 205 51 = some (.iconst (-1)) := rfl
set_option maxRecDepth 100000 in
theorem ma6_52 : j_code jP 205 52 = some (.ireturn) := rfl
def m_placeOf (w : List Int32) (x1 : Int32) : Int32 := (if (m_of w x1 6) = 1 then (m_of w x1 7) else (if (m_of w x1 6) = 2 then (if (m_of w x1 8) = (-1) then (-1) else (m_next w x1)) else (-1)))
theorem ma6_ok {u : Nat → Value} {w : List Int32} {x1 : Int32} {d : Nat} {h h0 : J_H} (K : KN h [(359, .inl (10, [(u 0), .ref 360, .ref 361, .ref 362, .ref 363, .ref 364, .ref 365, .ref 366, .ref 367, (u 9), (u 10), (u 11), (u 12), (u 13), (u 14), (u 15), (u 16), (u 17), (u 18), (u 19), (u 20), (u 21), .ref 368, (u 23), .ref 369, .ref 370, .ref 371, (u 27)])), (360, .inr (.inl (0, w)))] h0) : j_V jP d 205 0 (lv_args 0 [.ref 359, .int x1]) [] h (fun rv h' => rv = some (.int (m_placeOf w x1)) ∧ h' = h) := by
  show j_V jP d 205 0 [(0, .ref 359), (1, .int x1)] [] h _
  refine j_V.one ma6_M ma6_0 (by decide) (pc' := 1) (st' := [.ref 359]) rfl ?_
  refine j_V.one ma6_M ma6_1 (by decide) (pc' := 2) (st' := [.int x1, .ref 359]) rfl ?_
  refine j_V.one ma6_M ma6_2 (by decide) (pc' := 4) (st' := [.int 6, .int x1, .ref 359]) rfl ?_
  refine j_V.cl ma6_M ma6_4 rfl (md := 3) (mj := 178) rfl (by decide) ma3_M (As := [.ref 359, .int x1, .int 6]) (rest := []) (jk_spl3 (K.at rfl) rfl rfl rfl (Nat.le_of_ble_eq_true rfl) (Nat.le_of_ble_eq_true rfl)) (fun d => ma3_ok (K.sub ⟨rfl, rfl, trivial⟩)) ?_
  rintro r hz ⟨rfl, ez⟩
  rw [ez]
  clear ez
  show j_V jP _ 205 7 [(0, .ref 359), (1, .int x1)] [.int (m_of w x1 6)] h _
  refine j_V.one ma6_M ma6_7 (by decide) (pc' := 8) (st' := [.int 1, .int (m_of w x1 6)]) rfl ?_
  refine j_V.icmp ma6_M ma6_8 (t := 21) rfl (fun c8_0 => ?_) (fun c8_0 => ?_)
  · replace c8_0 : ¬ ((m_of w x1 6) = 1) := jd_ne c8_0
    refine j_V.one ma6_M ma6_21 (by decide) (pc' := 22) (st' := [.ref 359]) rfl ?_
    refine j_V.one ma6_M ma6_22 (by decide) (pc' := 23) (st' := [.int x1, .ref 359]) rfl ?_
    refine j_V.one ma6_M ma6_23 (by decide) (pc' := 25) (st' := [.int 6, .int x1, .ref 359]) rfl ?_
    refine j_V.cl ma6_M ma6_25 rfl (md := 3) (mj := 178) rfl (by decide) ma3_M (As := [.ref 359, .int x1, .int 6]) (rest := []) (jk_spl3 (K.at rfl) rfl rfl rfl (Nat.le_of_ble_eq_true rfl) (Nat.le_of_ble_eq_true rfl)) (fun d => ma3_ok (K.sub ⟨rfl, rfl, trivial⟩)) ?_
    rintro r hz ⟨rfl, ez⟩
    rw [ez]
    clear ez
    show j_V jP _ 205 28 [(0, .ref 359), (1, .int x1)] [.int (m_of w x1 6)] h _
    refine j_V.one ma6_M ma6_28 (by decide) (pc' := 29) (st' := [.int 2, .int (m_of w x1 6)]) rfl ?_
    refine j_V.icmp ma6_M ma6_29 (t := 51) rfl (fun c29_1 => ?_) (fun c29_1 => ?_)
    · replace c29_1 : ¬ ((m_of w x1 6) = 2) := jd_ne c29_1
      refine j_V.one ma6_M ma6_51 (by decide) (pc' := 52) (st' := [.int (-1)]) rfl ?_
      exact j_V.ret ma6_M ma6_52 rfl rfl ⟨congrArg (fun z => some (Value.int z)) (Eq.symm (show (m_placeOf w x1) = (-1) from (if_neg c8_0).trans ((if_neg c29_1).trans (rfl)))), rfl⟩
    · replace c29_1 : (m_of w x1 6) = 2 := jd_nen c29_1
      refine j_V.one ma6_M ma6_32 (by decide) (pc' := 33) (st' := [.ref 359]) rfl ?_
      refine j_V.one ma6_M ma6_33 (by decide) (pc' := 34) (st' := [.int x1, .ref 359]) rfl ?_
      refine j_V.one ma6_M ma6_34 (by decide) (pc' := 36) (st' := [.int 8, .int x1, .ref 359]) rfl ?_
      refine j_V.cl ma6_M ma6_36 rfl (md := 3) (mj := 178) rfl (by decide) ma3_M (As := [.ref 359, .int x1, .int 8]) (rest := []) (jk_spl3 (K.at rfl) rfl rfl rfl (Nat.le_of_ble_eq_true rfl) (Nat.le_of_ble_eq_true rfl)) (fun d => ma3_ok (K.sub ⟨rfl, rfl, trivial⟩)) ?_
      rintro r hz ⟨rfl, ez⟩
      rw [ez]
      clear ez
      show j_V jP _ 205 39 [(0, .ref 359), (1, .int x1)] [.int (m_of w x1 8)] h _
      refine j_V.one ma6_M ma6_39 (by decide) (pc' := 40) (st' := [.int (-1), .int (m_of w x1 8)]) rfl ?_
      refine j_V.icmp ma6_M ma6_40 (t := 51) rfl (fun c40_2 => ?_) (fun c40_2 => ?_)
      · replace c40_2 : (m_of w x1 8) = (-1) := jd_eq c40_2
        refine j_V.one ma6_M ma6_51 (by decide) (pc' := 52) (st' := [.int (-1)]) rfl ?_
        exact j_V.ret ma6_M ma6_52 rfl rfl ⟨congrArg (fun z => some (Value.int z)) (Eq.symm (show (m_placeOf w x1) = (-1) from (if_neg c8_0).trans ((if_pos c29_1).trans ((if_pos c40_2).trans (rfl))))), rfl⟩
      · replace c40_2 : ¬ ((m_of w x1 8) = (-1)) := jd_eqn c40_2
        refine j_V.one ma6_M ma6_43 (by decide) (pc' := 44) (st' := [.ref 359]) rfl ?_
        refine j_V.one ma6_M ma6_44 (by decide) (pc' := 45) (st' := [.int x1, .ref 359]) rfl ?_
        refine j_V.cl ma6_M ma6_45 rfl (md := 3) (mj := 204) rfl (by decide) ma5_M (As := [.ref 359, .int x1]) (rest := []) (jk_spl3 (K.at rfl) rfl rfl rfl (Nat.le_of_ble_eq_true rfl) (Nat.le_of_ble_eq_true rfl)) (fun d => ma5_ok (K.sub ⟨rfl, rfl, trivial⟩)) ?_
        rintro r hz ⟨rfl, ez⟩
        rw [ez]
        clear ez
        show j_V jP _ 205 48 [(0, .ref 359), (1, .int x1)] [.int (m_next w x1)] h _
        refine j_V.gto ma6_M ma6_48 (t := 52) rfl ?_
        exact j_V.ret ma6_M ma6_52 rfl rfl ⟨congrArg (fun z => some (Value.int z)) (Eq.symm (show (m_placeOf w x1) = (m_next w x1) from (if_neg c8_0).trans ((if_pos c29_1).trans ((if_neg c40_2).trans (rfl))))), rfl⟩
  · replace c8_0 : (m_of w x1 6) = 1 := jd_nen c8_0
    refine j_V.one ma6_M ma6_11 (by decide) (pc' := 12) (st' := [.ref 359]) rfl ?_
    refine j_V.one ma6_M ma6_12 (by decide) (pc' := 13) (st' := [.int x1, .ref 359]) rfl ?_
    refine j_V.one ma6_M ma6_13 (by decide) (pc' := 15) (st' := [.int 7, .int x1, .ref 359]) rfl ?_
    refine j_V.cl ma6_M ma6_15 rfl (md := 3) (mj := 178) rfl (by decide) ma3_M (As := [.ref 359, .int x1, .int 7]) (rest := []) (jk_spl3 (K.at rfl) rfl rfl rfl (Nat.le_of_ble_eq_true rfl) (Nat.le_of_ble_eq_true rfl)) (fun d => ma3_ok (K.sub ⟨rfl, rfl, trivial⟩)) ?_
    rintro r hz ⟨rfl, ez⟩
    rw [ez]
    clear ez
    show j_V jP _ 205 18 [(0, .ref 359), (1, .int x1)] [.int (m_of w x1 7)] h _
    refine j_V.gto ma6_M ma6_18 (t := 52) rfl ?_
    exact j_V.ret ma6_M ma6_52 rfl rfl ⟨congrArg (fun z => some (Value.int z)) (Eq.symm (show (m_placeOf w x1) = (m_of w x1 7) from (if_pos c8_0).trans (rfl))), rfl⟩
set_option maxRecDepth 100000 in
theorem ma7_M : j_meth jP 206 = some (yX10_whoAt, cX10_whoAt, 4, (some .int), 2, false, 10) := rfl
set_option maxRecDepth 100000 in
theorem ma7_0 : j_code jP 206 0 = some (.iconst 0) := rfl
set_option maxRecDepth 100000 in
theorem ma7_1 : j_code jP 206 1 = some (.istore_n 3) := rfl
set_option maxRecDepth 100000 in
theorem ma7_2 : j_code jP 206 2 = some (.iload_n 3) := rfl
set_option maxRecDepth 100000 in
theorem ma7_3 : j_code jP 206 3 = some (.aload_n 0) := rfl
set_option maxRecDepth 100000 in
theorem ma7_4 : j_code jP 206 4 = some (.getfield 7) := rfl
set_option maxRecDepth 100000 in
theorem ma7_7 : j_code jP 206 7 = some (.sipush 203) := rfl
set_option maxRecDepth 100000 in
theorem ma7_10 : j_code jP 206 10 = some (.iaload) := rfl
set_option maxRecDepth 100000 in
theorem ma7_11 : j_code jP 206 11 = some (.if_icmp .ge 31) := rfl
set_option maxRecDepth 100000 in
theorem ma7_14 : j_code jP 206 14 = some (.aload_n 0) := rfl
set_option maxRecDepth 100000 in
theorem ma7_15 : j_code jP 206 15 = some (.iload_n 3) := rfl
set_option maxRecDepth 100000 in
theorem ma7_16 : j_code jP 206 16 = some (.invokevirtual 207) := rfl
set_option maxRecDepth 100000 in
theorem ma7_19 : j_code jP 206 19 = some (.iload_n 1) := rfl
set_option maxRecDepth 100000 in
theorem ma7_20 : j_code jP 206 20 = some (.if_icmp .ne 16) := rfl
set_option maxRecDepth 100000 in
theorem ma7_23 : j_code jP 206 23 = some (.aload_n 0) := rfl
set_option maxRecDepth 100000 in
theorem ma7_24 : j_code jP 206 24 = some (.iload_n 3) := rfl
set_option maxRecDepth 100000 in
theorem ma7_25 : j_code jP 206 25 = some (.bipush 8) := rfl
set_option maxRecDepth 100000 in
theorem ma7_27 : j_code jP 206 27 = some (.invokevirtual 198) := rfl
set_option maxRecDepth 100000 in
theorem ma7_30 : j_code jP 206 30 = some (.iload_n 2) := rfl
set_option maxRecDepth 100000 in
theorem ma7_31 : j_code jP 206 31 = some (.if_icmp .ne 5) := rfl
set_option maxRecDepth 100000 in
theorem ma7_34 : j_code jP 206 34 = some (.iload_n 3) := rfl
set_option maxRecDepth 100000 in
theorem ma7_35 : j_code jP 206 35 = some (.ireturn) := rfl
set_option maxRecDepth 100000 in
theorem ma7_36 : j_code jP 206 36 = some (.iinc 3 1) := rfl
set_option maxRecDepth 100000 in
theorem ma7_39 : j_code jP 206 39 = some (.goto (-37)) := rfl
set_option maxRecDepth 100000 in
theorem ma7_42 : j_code jP 206 42 = some (.iconst (-1)) := rfl
set_option maxRecDepth 100000 in
theorem ma7_43 : j_code jP 206 43 = some (.ireturn) := rfl
def m_whoAt_l2 (w : List Int32) (v1 : Int32) (v2 : Int32) : Nat → Int32 → Int32
  | 0, v3 => (-1)
  | f + 1, v3 => (if (m_placeOf w v3) = v1 then (if (m_of w v3 8) = v2 then v3 else (m_whoAt_l2 w v1 v2 f ((v3 + 1)))) else (m_whoAt_l2 w v1 v2 f ((v3 + 1))))
theorem ma7_ok_l2 {u : Nat → Value} {w : List Int32} {v1 v2 : Int32} {d : Nat} {h h0 : J_H} : ∀ (f : Nat) (v3 : Int32), lpN (gA w 203) v3 = f → KN h [(359, .inl (10, [(u 0), .ref 360, .ref 361, .ref 362, .ref 363, .ref 364, .ref 365, .ref 366, .ref 367, (u 9), (u 10), (u 11), (u 12), (u 13), (u 14), (u 15), (u 16), (u 17), (u 18), (u 19), (u 20), (u 21), .ref 368, (u 23), .ref 369, .ref 370, .ref 371, (u 27)])), (360, .inr (.inl (0, w)))] h0 → j_V jP d 206 2 [(3, .int v3), (0, .ref 359), (1, .int v1), (2, .int v2)] [] h (fun rv h' => rv = some (.int (m_whoAt_l2 w v1 v2 f v3)) ∧ h' = h) := by
  intro f
  induction f with
  | zero =>
    intro v3 e K
    refine j_V.one ma7_M ma7_2 (by decide) (pc' := 3) (st' := [.int v3]) rfl ?_
    refine j_V.one ma7_M ma7_3 (by decide) (pc' := 4) (st' := [.ref 359, .int v3]) rfl ?_
    refine j_V.getK ma7_M ma7_4 (ci := 10) (j := 1) rfl K rfl rfl ?_
    refine j_V.one ma7_M ma7_7 (by decide) (pc' := 10) (st' := [.int 203, .ref 360, .int v3]) rfl ?_
    refine j_V.iaA ma7_M ma7_10 K rfl ?_
    refine j_V.icmp ma7_M ma7_11 (t := 42) rfl (fun c11_0 => ?_) (fun c11_0 => ?_)
    · replace c11_0 : ¬ (v3 < (gA w 203)) := jd_ge c11_0
      refine j_V.one ma7_M ma7_42 (by decide) (pc' := 43) (st' := [.int (-1)]) rfl ?_
      exact j_V.ret ma7_M ma7_43 rfl rfl ⟨congrArg (fun z => some (Value.int z)) (Eq.symm (show (m_whoAt_l2 w v1 v2 0 v3) = (-1) from rfl)), rfl⟩
    · replace c11_0 : v3 < (gA w 203) := jd_gen c11_0
      exact absurd c11_0 (lpN_z e)
  | succ f ih =>
    intro v3 e K
    refine j_V.one ma7_M ma7_2 (by decide) (pc' := 3) (st' := [.int v3]) rfl ?_
    refine j_V.one ma7_M ma7_3 (by decide) (pc' := 4) (st' := [.ref 359, .int v3]) rfl ?_
    refine j_V.getK ma7_M ma7_4 (ci := 10) (j := 1) rfl K rfl rfl ?_
    refine j_V.one ma7_M ma7_7 (by decide) (pc' := 10) (st' := [.int 203, .ref 360, .int v3]) rfl ?_
    refine j_V.iaA ma7_M ma7_10 K rfl ?_
    refine j_V.icmp ma7_M ma7_11 (t := 42) rfl (fun c11_0 => ?_) (fun c11_0 => ?_)
    · replace c11_0 : ¬ (v3 < (gA w 203)) := jd_ge c11_0
      exact absurd (lpN_s e) c11_0
    · replace c11_0 : v3 < (gA w 203) := jd_gen c11_0
      refine j_V.one ma7_M ma7_14 (by decide) (pc' := 15) (st' := [.ref 359]) rfl ?_
      refine j_V.one ma7_M ma7_15 (by decide) (pc' := 16) (st' := [.int v3, .ref 359]) rfl ?_
      refine j_V.cl ma7_M ma7_16 rfl (md := 3) (mj := 205) rfl (by decide) ma6_M (As := [.ref 359, .int v3]) (rest := []) (jk_spl3 (K.at rfl) rfl rfl rfl (Nat.le_of_ble_eq_true rfl) (Nat.le_of_ble_eq_true rfl)) (fun d => ma6_ok (K.sub ⟨rfl, rfl, trivial⟩)) ?_
      rintro r hz ⟨rfl, ez⟩
      rw [ez]
      clear ez
      show j_V jP _ 206 19 [(3, .int v3), (0, .ref 359), (1, .int v1), (2, .int v2)] [.int (m_placeOf w v3)] h _
      refine j_V.one ma7_M ma7_19 (by decide) (pc' := 20) (st' := [.int v1, .int (m_placeOf w v3)]) rfl ?_
      refine j_V.icmp ma7_M ma7_20 (t := 36) rfl (fun c20_0 => ?_) (fun c20_0 => ?_)
      · replace c20_0 : ¬ ((m_placeOf w v3) = v1) := jd_ne c20_0
        refine j_V.one ma7_M ma7_36 (by decide) (pc' := 39) (lv' := [(3, .int (v3 + 1)), (0, .ref 359), (1, .int v1), (2, .int v2)]) (st' := []) rfl ?_
        refine j_V.gto ma7_M ma7_39 (t := 2) rfl ?_
        refine j_V.mono (ih ((v3 + 1)) (lpN_n e) K) ?_
        rintro r hz ⟨rfl, rfl⟩
        exact ⟨congrArg (fun z => some (Value.int z)) (Eq.symm (show (m_whoAt_l2 w v1 v2 (f + 1) v3) = (m_whoAt_l2 w v1 v2 f ((v3 + 1))) from (if_neg c20_0).trans (rfl))), rfl⟩
      · replace c20_0 : (m_placeOf w v3) = v1 := jd_nen c20_0
        refine j_V.one ma7_M ma7_23 (by decide) (pc' := 24) (st' := [.ref 359]) rfl ?_
        refine j_V.one ma7_M ma7_24 (by decide) (pc' := 25) (st' := [.int v3, .ref 359]) rfl ?_
        refine j_V.one ma7_M ma7_25 (by decide) (pc' := 27) (st' := [.int 8, .int v3, .ref 359]) rfl ?_
        refine j_V.cl ma7_M ma7_27 rfl (md := 3) (mj := 178) rfl (by decide) ma3_M (As := [.ref 359, .int v3, .int 8]) (rest := []) (jk_spl3 (K.at rfl) rfl rfl rfl (Nat.le_of_ble_eq_true rfl) (Nat.le_of_ble_eq_true rfl)) (fun d => ma3_ok (K.sub ⟨rfl, rfl, trivial⟩)) ?_
        rintro r hz ⟨rfl, ez⟩
        rw [ez]
        clear ez
        show j_V jP _ 206 30 [(3, .int v3), (0, .ref 359), (1, .int v1), (2, .int v2)] [.int (m_of w v3 8)] h _
        refine j_V.one ma7_M ma7_30 (by decide) (pc' := 31) (st' := [.int v2, .int (m_of w v3 8)]) rfl ?_
        refine j_V.icmp ma7_M ma7_31 (t := 36) rfl (fun c31_1 => ?_) (fun c31_1 => ?_)
        · replace c31_1 : ¬ ((m_of w v3 8) = v2) := jd_ne c31_1
          refine j_V.one ma7_M ma7_36 (by decide) (pc' := 39) (lv' := [(3, .int (v3 + 1)), (0, .ref 359), (1, .int v1), (2, .int v2)]) (st' := []) rfl ?_
          refine j_V.gto ma7_M ma7_39 (t := 2) rfl ?_
          refine j_V.mono (ih ((v3 + 1)) (lpN_n e) K) ?_
          rintro r hz ⟨rfl, rfl⟩
          exact ⟨congrArg (fun z => some (Value.int z)) (Eq.symm (show (m_whoAt_l2 w v1 v2 (f + 1) v3) = (m_whoAt_l2 w v1 v2 f ((v3 + 1))) from (if_pos c20_0).trans ((if_neg c31_1).trans (rfl)))), rfl⟩
        · replace c31_1 : (m_of w v3 8) = v2 := jd_nen c31_1
          refine j_V.one ma7_M ma7_34 (by decide) (pc' := 35) (st' := [.int v3]) rfl ?_
          exact j_V.ret ma7_M ma7_35 rfl rfl ⟨congrArg (fun z => some (Value.int z)) (Eq.symm (show (m_whoAt_l2 w v1 v2 (f + 1) v3) = v3 from (if_pos c20_0).trans ((if_pos c31_1).trans (rfl)))), rfl⟩
def m_whoAt (w : List Int32) (x1 : Int32) (x2 : Int32) : Int32 := (m_whoAt_l2 w x1 x2 (lpN (gA w 203) 0) 0)
theorem ma7_ok {u : Nat → Value} {w : List Int32} {x1 x2 : Int32} {d : Nat} {h h0 : J_H} (K : KN h [(359, .inl (10, [(u 0), .ref 360, .ref 361, .ref 362, .ref 363, .ref 364, .ref 365, .ref 366, .ref 367, (u 9), (u 10), (u 11), (u 12), (u 13), (u 14), (u 15), (u 16), (u 17), (u 18), (u 19), (u 20), (u 21), .ref 368, (u 23), .ref 369, .ref 370, .ref 371, (u 27)])), (360, .inr (.inl (0, w)))] h0) : j_V jP d 206 0 (lv_args 0 [.ref 359, .int x1, .int x2]) [] h (fun rv h' => rv = some (.int (m_whoAt w x1 x2)) ∧ h' = h) := by
  show j_V jP d 206 0 [(0, .ref 359), (1, .int x1), (2, .int x2)] [] h _
  refine j_V.one ma7_M ma7_0 (by decide) (pc' := 1) (st' := [.int 0]) rfl ?_
  refine j_V.one ma7_M ma7_1 (by decide) (pc' := 2) (lv' := [(3, .int 0), (0, .ref 359), (1, .int x1), (2, .int x2)]) (st' := []) rfl ?_
  refine j_V.mono (ma7_ok_l2 _ (0) rfl K) ?_
  rintro r hz ⟨rfl, rfl⟩
  exact ⟨congrArg (fun z => some (Value.int z)) (Eq.symm (show (m_whoAt w x1 x2) = (m_whoAt_l2 w x1 x2 (lpN (gA w 203) 0) 0) from rfl)), rfl⟩
set_option maxRecDepth 100000 in
theorem ma8_M : j_meth jP 207 = some (yX10_isFree, cX10_isFree, 3, (some .boolean), 2, false, 10) := rfl
set_option maxRecDepth 100000 in
theorem ma8_0 : j_code jP 207 0 = some (.aload_n 0) := rfl
set_option maxRecDepth 100000 in
theorem ma8_1 : j_code jP 207 1 = some (.iload_n 1) := rfl
set_option maxRecDepth 100000 in
theorem ma8_2 : j_code jP 207 2 = some (.iconst 5) := rfl
set_option maxRecDepth 100000 in
theorem ma8_3 : j_code jP 207 3 = some (.iload_n 2) := rfl
set_option maxRecDepth 100000 in
theorem ma8_4 : j_code jP 207 4 = some (.iadd) := rfl
set_option maxRecDepth 100000 in
theorem ma8_5 : j_code jP 207 5 = some (.invokevirtual 69) := rfl
set_option maxRecDepth 100000 in
theorem ma8_8 : j_code jP 207 8 = some (.ifCond .ne 17) := rfl
set_option maxRecDepth 100000 in
theorem ma8_11 : j_code jP 207 11 = some (.aload_n 0) := rfl
set_option maxRecDepth 100000 in
theorem ma8_12 : j_code jP 207 12 = some (.iload_n 1) := rfl
set_option maxRecDepth 100000 in
theorem ma8_13 : j_code jP 207 13 = some (.iload_n 2) := rfl
set_option maxRecDepth 100000 in
theorem ma8_14 : j_code jP 207 14 = some (.invokevirtual 210) := rfl
set_option maxRecDepth 100000 in
theorem ma8_17 : j_code jP 207 17 = some (.iconst (-1)) := rfl
set_option maxRecDepth 100000 in
theorem ma8_18 : j_code jP 207 18 = some (.if_icmp .ne 7) := rfl
set_option maxRecDepth 100000 in
theorem ma8_21 : j_code jP 207 21 = some (.iconst 1) := rfl
set_option maxRecDepth 100000 in
theorem ma8_22 : j_code jP 207 22 = some (.goto 4) := rfl
set_option maxRecDepth 100000 in
theorem ma8_25 : j_code jP 207 25 = some (.iconst 0) := rfl
set_option maxRecDepth 100000 in
theorem ma8_26 : j_code jP 207 26 = some (.ireturn) := rfl
def m_isFree (w : List Int32) (x1 : Int32) (x2 : Int32) : Int32 := (if (m_st w x1 (5 + x2)) = 0 then (if (m_whoAt w x1 x2) = (-1) then 1 else 0) else 0)
theorem ma8_ok {u : Nat → Value} {w : List Int32} {x1 x2 : Int32} {d : Nat} {h h0 : J_H} (K : KN h [(359, .inl (10, [(u 0), .ref 360, .ref 361, .ref 362, .ref 363, .ref 364, .ref 365, .ref 366, .ref 367, (u 9), (u 10), (u 11), (u 12), (u 13), (u 14), (u 15), (u 16), (u 17), (u 18), (u 19), (u 20), (u 21), .ref 368, (u 23), .ref 369, .ref 370, .ref 371, (u 27)])), (360, .inr (.inl (0, w)))] h0) : j_V jP d 207 0 (lv_args 0 [.ref 359, .int x1, .int x2]) [] h (fun rv h' => rv = some (.int (m_isFree w x1 x2)) ∧ h' = h) := by
  show j_V jP d 207 0 [(0, .ref 359), (1, .int x1), (2, .int x2)] [] h _
  refine j_V.one ma8_M ma8_0 (by decide) (pc' := 1) (st' := [.ref 359]) rfl ?_
  refine j_V.one ma8_M ma8_1 (by decide) (pc' := 2) (st' := [.int x1, .ref 359]) rfl ?_
  refine j_V.one ma8_M ma8_2 (by decide) (pc' := 3) (st' := [.int 5, .int x1, .ref 359]) rfl ?_
  refine j_V.one ma8_M ma8_3 (by decide) (pc' := 4) (st' := [.int x2, .int 5, .int x1, .ref 359]) rfl ?_
  refine j_V.one ma8_M ma8_4 (by decide) (pc' := 5) (st' := [.int (5 + x2), .int x1, .ref 359]) rfl ?_
  refine j_V.cl ma8_M ma8_5 rfl (md := 3) (mj := 176) rfl (by decide) ma1_M (As := [.ref 359, .int x1, .int (5 + x2)]) (rest := []) (jk_spl3 (K.at rfl) rfl rfl rfl (Nat.le_of_ble_eq_true rfl) (Nat.le_of_ble_eq_true rfl)) (fun d => ma1_ok (K.sub ⟨rfl, rfl, trivial⟩)) ?_
  rintro r hz ⟨rfl, ez⟩
  rw [ez]
  clear ez
  show j_V jP _ 207 8 [(0, .ref 359), (1, .int x1), (2, .int x2)] [.int (m_st w x1 (5 + x2))] h _
  refine j_V.ifc ma8_M ma8_8 (t := 25) rfl (fun c8_0 => ?_) (fun c8_0 => ?_)
  · replace c8_0 : ¬ ((m_st w x1 (5 + x2)) = 0) := jd_ne c8_0
    refine j_V.one ma8_M ma8_25 (by decide) (pc' := 26) (st' := [.int 0]) rfl ?_
    exact j_V.ret ma8_M ma8_26 rfl rfl ⟨congrArg (fun z => some (Value.int z)) (Eq.symm (show (m_isFree w x1 x2) = 0 from (if_neg c8_0).trans (rfl))), rfl⟩
  · replace c8_0 : (m_st w x1 (5 + x2)) = 0 := jd_nen c8_0
    refine j_V.one ma8_M ma8_11 (by decide) (pc' := 12) (st' := [.ref 359]) rfl ?_
    refine j_V.one ma8_M ma8_12 (by decide) (pc' := 13) (st' := [.int x1, .ref 359]) rfl ?_
    refine j_V.one ma8_M ma8_13 (by decide) (pc' := 14) (st' := [.int x2, .int x1, .ref 359]) rfl ?_
    refine j_V.cl ma8_M ma8_14 rfl (md := 3) (mj := 206) rfl (by decide) ma7_M (As := [.ref 359, .int x1, .int x2]) (rest := []) (jk_spl3 (K.at rfl) rfl rfl rfl (Nat.le_of_ble_eq_true rfl) (Nat.le_of_ble_eq_true rfl)) (fun d => ma7_ok (K.sub ⟨rfl, rfl, trivial⟩)) ?_
    rintro r hz ⟨rfl, ez⟩
    rw [ez]
    clear ez
    show j_V jP _ 207 17 [(0, .ref 359), (1, .int x1), (2, .int x2)] [.int (m_whoAt w x1 x2)] h _
    refine j_V.one ma8_M ma8_17 (by decide) (pc' := 18) (st' := [.int (-1), .int (m_whoAt w x1 x2)]) rfl ?_
    refine j_V.icmp ma8_M ma8_18 (t := 25) rfl (fun c18_1 => ?_) (fun c18_1 => ?_)
    · replace c18_1 : ¬ ((m_whoAt w x1 x2) = (-1)) := jd_ne c18_1
      refine j_V.one ma8_M ma8_25 (by decide) (pc' := 26) (st' := [.int 0]) rfl ?_
      exact j_V.ret ma8_M ma8_26 rfl rfl ⟨congrArg (fun z => some (Value.int z)) (Eq.symm (show (m_isFree w x1 x2) = 0 from (if_pos c8_0).trans ((if_neg c18_1).trans (rfl)))), rfl⟩
    · replace c18_1 : (m_whoAt w x1 x2) = (-1) := jd_nen c18_1
      refine j_V.one ma8_M ma8_21 (by decide) (pc' := 22) (st' := [.int 1]) rfl ?_
      refine j_V.gto ma8_M ma8_22 (t := 26) rfl ?_
      exact j_V.ret ma8_M ma8_26 rfl rfl ⟨congrArg (fun z => some (Value.int z)) (Eq.symm (show (m_isFree w x1 x2) = 1 from (if_pos c8_0).trans ((if_pos c18_1).trans (rfl)))), rfl⟩
set_option maxRecDepth 100000 in
theorem ma9_M : j_meth jP 208 = some (yX10_trackFor, cX10_trackFor, 5, (some .int), 2, false, 10) := rfl
set_option maxRecDepth 100000 in
theorem ma9_0 : j_code jP 208 0 = some (.iconst (-1)) := rfl
set_option maxRecDepth 100000 in
theorem ma9_1 : j_code jP 208 1 = some (.istore_n 3) := rfl
set_option maxRecDepth 100000 in
theorem ma9_2 : j_code jP 208 2 = some (.iconst 0) := rfl
set_option maxRecDepth 100000 in
theorem ma9_3 : j_code jP 208 3 = some (.istore 4) := rfl
set_option maxRecDepth 100000 in
theorem ma9_5 : j_code jP 208 5 = some (.iload 4) := rfl
set_option maxRecDepth 100000 in
theorem ma9_7 : j_code jP 208 7 = some (.aload_n 0) := rfl
set_option maxRecDepth 100000 in
theorem ma9_8 : j_code jP 208 8 = some (.iload_n 2) := rfl
set_option maxRecDepth 100000 in
theorem ma9_9 : j_code jP 208 9 = some (.iconst 1) := rfl
set_option maxRecDepth 100000 in
theorem ma9_10 : j_code jP 208 10 = some (.invokevirtual 69) := rfl
set_option maxRecDepth 100000 in
theorem ma9_13 : j_code jP 208 13 = some (.if_icmp .ge 65) := rfl
set_option maxRecDepth 100000 in
theorem ma9_16 : j_code jP 208 16 = some (.aload_n 0) := rfl
set_option maxRecDepth 100000 in
theorem ma9_17 : j_code jP 208 17 = some (.iload_n 2) := rfl
set_option maxRecDepth 100000 in
theorem ma9_18 : j_code jP 208 18 = some (.iload 4) := rfl
set_option maxRecDepth 100000 in
theorem ma9_20 : j_code jP 208 20 = some (.invokevirtual 213) := rfl
set_option maxRecDepth 100000 in
theorem ma9_23 : j_code jP 208 23 = some (.ifCond .eq 49) := rfl
set_option maxRecDepth 100000 in
theorem ma9_26 : j_code jP 208 26 = some (.aload_n 0) := rfl
set_option maxRecDepth 100000 in
theorem ma9_27 : j_code jP 208 27 = some (.iload_n 2) := rfl
set_option maxRecDepth 100000 in
theorem ma9_28 : j_code jP 208 28 = some (.iconst 2) := rfl
set_option maxRecDepth 100000 in
theorem ma9_29 : j_code jP 208 29 = some (.iload 4) := rfl
set_option maxRecDepth 100000 in
theorem ma9_31 : j_code jP 208 31 = some (.iadd) := rfl
set_option maxRecDepth 100000 in
theorem ma9_32 : j_code jP 208 32 = some (.invokevirtual 69) := rfl
set_option maxRecDepth 100000 in
theorem ma9_35 : j_code jP 208 35 = some (.aload_n 0) := rfl
set_option maxRecDepth 100000 in
theorem ma9_36 : j_code jP 208 36 = some (.iload_n 1) := rfl
set_option maxRecDepth 100000 in
theorem ma9_37 : j_code jP 208 37 = some (.iconst 0) := rfl
set_option maxRecDepth 100000 in
theorem ma9_38 : j_code jP 208 38 = some (.invokevirtual 198) := rfl
set_option maxRecDepth 100000 in
theorem ma9_41 : j_code jP 208 41 = some (.if_icmp .lt 31) := rfl
set_option maxRecDepth 100000 in
theorem ma9_44 : j_code jP 208 44 = some (.iload_n 3) := rfl
set_option maxRecDepth 100000 in
theorem ma9_45 : j_code jP 208 45 = some (.iconst (-1)) := rfl
set_option maxRecDepth 100000 in
theorem ma9_46 : j_code jP 208 46 = some (.if_icmp .eq 23) := rfl
set_option maxRecDepth 100000 in
theorem ma9_49 : j_code jP 208 49 = some (.aload_n 0) := rfl
set_option maxRecDepth 100000 in
theorem ma9_50 : j_code jP 208 50 = some (.iload_n 2) := rfl
set_option maxRecDepth 100000 in
theorem ma9_51 : j_code jP 208 51 = some (.iconst 2) := rfl
set_option maxRecDepth 100000 in
theorem ma9_52 : j_code jP 208 52 = some (.iload 4) := rfl
set_option maxRecDepth 100000 in
theorem ma9_54 : j_code jP 208 54 = some (.iadd) := rfl
set_option maxRecDepth 100000 in
theorem ma9_55 : j_code jP 208 55 = some (.invokevirtual 69) := rfl
set_option maxRecDepth 100000 in
theorem ma9_58 : j_code jP 208 58 = some (.aload_n 0) := rfl
set_option maxRecDepth 100000 in
theorem ma9_59 : j_code jP 208 59 = some (.iload_n 2) := rfl
set_option maxRecDepth 100000 in
theorem ma9_60 : j_code jP 208 60 = some (.iconst 2) := rfl
set_option maxRecDepth 100000 in
theorem ma9_61 : j_code jP 208 61 = some (.iload_n 3) := rfl
set_option maxRecDepth 100000 in
theorem ma9_62 : j_code jP 208 62 = some (.iadd) := rfl
set_option maxRecDepth 100000 in
theorem ma9_63 : j_code jP 208 63 = some (.invokevirtual 69) := rfl
set_option maxRecDepth 100000 in
theorem ma9_66 : j_code jP 208 66 = some (.if_icmp .ge 6) := rfl
set_option maxRecDepth 100000 in
theorem ma9_69 : j_code jP 208 69 = some (.iload 4) := rfl
set_option maxRecDepth 100000 in
theorem ma9_71 : j_code jP 208 71 = some (.istore_n 3) := rfl
set_option maxRecDepth 100000 in
theorem ma9_72 : j_code jP 208 72 = some (.iinc 4 1) := rfl
set_option maxRecDepth 100000 in
theorem ma9_75 : j_code jP 208 75 = some (.goto (-70)) := rfl
set_option maxRecDepth 100000 in
theorem ma9_78 : j_code jP 208 78 = some (.iload_n 3) := rfl
set_option maxRecDepth 100000 in
theorem ma9_79 : j_code jP 208 79 = some (.ireturn) := rfl
def m_trackFor_l5 (w : List Int32) (v1 : Int32) (v2 : Int32) : Nat → Int32 → Int32 → Int32
  | 0, v4, v3 => v3
  | f + 1, v4, v3 => (if (m_isFree w v2 v4) = 0 then (m_trackFor_l5 w v1 v2 f ((v4 + 1)) v3) else (if (m_st w v2 (2 + v4)) < (m_of w v1 0) then (m_trackFor_l5 w v1 v2 f ((v4 + 1)) v3) else (if v3 = (-1) then (m_trackFor_l5 w v1 v2 f ((v4 + 1)) v4) else (if (m_st w v2 (2 + v4)) < (m_st w v2 (2 + v3)) then (m_trackFor_l5 w v1 v2 f ((v4 + 1)) v4) else (m_trackFor_l5 w v1 v2 f ((v4 + 1)) v3)))))
theorem ma9_ok_l5 {u : Nat → Value} {w : List Int32} {v1 v2 : Int32} {d : Nat} {h h0 : J_H} : ∀ (f : Nat) (v4 v3 : Int32), lpN (m_st w v2 1) v4 = f → KN h [(359, .inl (10, [(u 0), .ref 360, .ref 361, .ref 362, .ref 363, .ref 364, .ref 365, .ref 366, .ref 367, (u 9), (u 10), (u 11), (u 12), (u 13), (u 14), (u 15), (u 16), (u 17), (u 18), (u 19), (u 20), (u 21), .ref 368, (u 23), .ref 369, .ref 370, .ref 371, (u 27)])), (360, .inr (.inl (0, w)))] h0 → j_V jP d 208 5 [(4, .int v4), (3, .int v3), (0, .ref 359), (1, .int v1), (2, .int v2)] [] h (fun rv h' => rv = some (.int (m_trackFor_l5 w v1 v2 f v4 v3)) ∧ h' = h) := by
  intro f
  induction f with
  | zero =>
    intro v4 v3 e K
    refine j_V.one ma9_M ma9_5 (by decide) (pc' := 7) (st' := [.int v4]) rfl ?_
    refine j_V.one ma9_M ma9_7 (by decide) (pc' := 8) (st' := [.ref 359, .int v4]) rfl ?_
    refine j_V.one ma9_M ma9_8 (by decide) (pc' := 9) (st' := [.int v2, .ref 359, .int v4]) rfl ?_
    refine j_V.one ma9_M ma9_9 (by decide) (pc' := 10) (st' := [.int 1, .int v2, .ref 359, .int v4]) rfl ?_
    refine j_V.cl ma9_M ma9_10 rfl (md := 3) (mj := 176) rfl (by decide) ma1_M (As := [.ref 359, .int v2, .int 1]) (rest := [.int v4]) (jk_spl3 (K.at rfl) rfl rfl rfl (Nat.le_of_ble_eq_true rfl) (Nat.le_of_ble_eq_true rfl)) (fun d => ma1_ok (K.sub ⟨rfl, rfl, trivial⟩)) ?_
    rintro r hz ⟨rfl, ez⟩
    rw [ez]
    clear ez
    show j_V jP _ 208 13 [(4, .int v4), (3, .int v3), (0, .ref 359), (1, .int v1), (2, .int v2)] [.int (m_st w v2 1), .int v4] h _
    refine j_V.icmp ma9_M ma9_13 (t := 78) rfl (fun c13_0 => ?_) (fun c13_0 => ?_)
    · replace c13_0 : ¬ (v4 < (m_st w v2 1)) := jd_ge c13_0
      refine j_V.one ma9_M ma9_78 (by decide) (pc' := 79) (st' := [.int v3]) rfl ?_
      exact j_V.ret ma9_M ma9_79 rfl rfl ⟨congrArg (fun z => some (Value.int z)) (Eq.symm (show (m_trackFor_l5 w v1 v2 0 v4 v3) = v3 from rfl)), rfl⟩
    · replace c13_0 : v4 < (m_st w v2 1) := jd_gen c13_0
      exact absurd c13_0 (lpN_z e)
  | succ f ih =>
    intro v4 v3 e K
    refine j_V.one ma9_M ma9_5 (by decide) (pc' := 7) (st' := [.int v4]) rfl ?_
    refine j_V.one ma9_M ma9_7 (by decide) (pc' := 8) (st' := [.ref 359, .int v4]) rfl ?_
    refine j_V.one ma9_M ma9_8 (by decide) (pc' := 9) (st' := [.int v2, .ref 359, .int v4]) rfl ?_
    refine j_V.one ma9_M ma9_9 (by decide) (pc' := 10) (st' := [.int 1, .int v2, .ref 359, .int v4]) rfl ?_
    refine j_V.cl ma9_M ma9_10 rfl (md := 3) (mj := 176) rfl (by decide) ma1_M (As := [.ref 359, .int v2, .int 1]) (rest := [.int v4]) (jk_spl3 (K.at rfl) rfl rfl rfl (Nat.le_of_ble_eq_true rfl) (Nat.le_of_ble_eq_true rfl)) (fun d => ma1_ok (K.sub ⟨rfl, rfl, trivial⟩)) ?_
    rintro r hz ⟨rfl, ez⟩
    rw [ez]
    clear ez
    show j_V jP _ 208 13 [(4, .int v4), (3, .int v3), (0, .ref 359), (1, .int v1), (2, .int v2)] [.int (m_st w v2 1), .int v4] h _
    refine j_V.icmp ma9_M ma9_13 (t := 78) rfl (fun c13_0 => ?_) (fun c13_0 => ?_)
    · replace c13_0 : ¬ (v4 < (m_st w v2 1)) := jd_ge c13_0
      exact absurd (lpN_s e) c13_0
    · replace c13_0 : v4 < (m_st w v2 1) := jd_gen c13_0
      refine j_V.one ma9_M ma9_16 (by decide) (pc' := 17) (st' := [.ref 359]) rfl ?_
      refine j_V.one ma9_M ma9_17 (by decide) (pc' := 18) (st' := [.int v2, .ref 359]) rfl ?_
      refine j_V.one ma9_M ma9_18 (by decide) (pc' := 20) (st' := [.int v4, .int v2, .ref 359]) rfl ?_
      refine j_V.cl ma9_M ma9_20 rfl (md := 3) (mj := 207) rfl (by decide) ma8_M (As := [.ref 359, .int v2, .int v4]) (rest := []) (jk_spl3 (K.at rfl) rfl rfl rfl (Nat.le_of_ble_eq_true rfl) (Nat.le_of_ble_eq_true rfl)) (fun d => ma8_ok (K.sub ⟨rfl, rfl, trivial⟩)) ?_
      rintro r hz ⟨rfl, ez⟩
      rw [ez]
      clear ez
      show j_V jP _ 208 23 [(4, .int v4), (3, .int v3), (0, .ref 359), (1, .int v1), (2, .int v2)] [.int (m_isFree w v2 v4)] h _
      refine j_V.ifc ma9_M ma9_23 (t := 72) rfl (fun c23_0 => ?_) (fun c23_0 => ?_)
      · replace c23_0 : (m_isFree w v2 v4) = 0 := jd_eq c23_0
        refine j_V.one ma9_M ma9_72 (by decide) (pc' := 75) (lv' := [(4, .int (v4 + 1)), (3, .int v3), (0, .ref 359), (1, .int v1), (2, .int v2)]) (st' := []) rfl ?_
        refine j_V.gto ma9_M ma9_75 (t := 5) rfl ?_
        refine j_V.mono (ih ((v4 + 1)) (v3) (lpN_n e) K) ?_
        rintro r hz ⟨rfl, rfl⟩
        exact ⟨congrArg (fun z => some (Value.int z)) (Eq.symm (show (m_trackFor_l5 w v1 v2 (f + 1) v4 v3) = (m_trackFor_l5 w v1 v2 f ((v4 + 1)) v3) from (if_pos c23_0).trans (rfl))), rfl⟩
      · replace c23_0 : ¬ ((m_isFree w v2 v4) = 0) := jd_eqn c23_0
        refine j_V.one ma9_M ma9_26 (by decide) (pc' := 27) (st' := [.ref 359]) rfl ?_
        refine j_V.one ma9_M ma9_27 (by decide) (pc' := 28) (st' := [.int v2, .ref 359]) rfl ?_
        refine j_V.one ma9_M ma9_28 (by decide) (pc' := 29) (st' := [.int 2, .int v2, .ref 359]) rfl ?_
        refine j_V.one ma9_M ma9_29 (by decide) (pc' := 31) (st' := [.int v4, .int 2, .int v2, .ref 359]) rfl ?_
        refine j_V.one ma9_M ma9_31 (by decide) (pc' := 32) (st' := [.int (2 + v4), .int v2, .ref 359]) rfl ?_
        refine j_V.cl ma9_M ma9_32 rfl (md := 3) (mj := 176) rfl (by decide) ma1_M (As := [.ref 359, .int v2, .int (2 + v4)]) (rest := []) (jk_spl3 (K.at rfl) rfl rfl rfl (Nat.le_of_ble_eq_true rfl) (Nat.le_of_ble_eq_true rfl)) (fun d => ma1_ok (K.sub ⟨rfl, rfl, trivial⟩)) ?_
        rintro r hz ⟨rfl, ez⟩
        rw [ez]
        clear ez
        show j_V jP _ 208 35 [(4, .int v4), (3, .int v3), (0, .ref 359), (1, .int v1), (2, .int v2)] [.int (m_st w v2 (2 + v4))] h _
        refine j_V.one ma9_M ma9_35 (by decide) (pc' := 36) (st' := [.ref 359, .int (m_st w v2 (2 + v4))]) rfl ?_
        refine j_V.one ma9_M ma9_36 (by decide) (pc' := 37) (st' := [.int v1, .ref 359, .int (m_st w v2 (2 + v4))]) rfl ?_
        refine j_V.one ma9_M ma9_37 (by decide) (pc' := 38) (st' := [.int 0, .int v1, .ref 359, .int (m_st w v2 (2 + v4))]) rfl ?_
        refine j_V.cl ma9_M ma9_38 rfl (md := 3) (mj := 178) rfl (by decide) ma3_M (As := [.ref 359, .int v1, .int 0]) (rest := [.int (m_st w v2 (2 + v4))]) (jk_spl3 (K.at rfl) rfl rfl rfl (Nat.le_of_ble_eq_true rfl) (Nat.le_of_ble_eq_true rfl)) (fun d => ma3_ok (K.sub ⟨rfl, rfl, trivial⟩)) ?_
        rintro r hz ⟨rfl, ez⟩
        rw [ez]
        clear ez
        show j_V jP _ 208 41 [(4, .int v4), (3, .int v3), (0, .ref 359), (1, .int v1), (2, .int v2)] [.int (m_of w v1 0), .int (m_st w v2 (2 + v4))] h _
        refine j_V.icmp ma9_M ma9_41 (t := 72) rfl (fun c41_1 => ?_) (fun c41_1 => ?_)
        · replace c41_1 : (m_st w v2 (2 + v4)) < (m_of w v1 0) := jd_lt c41_1
          refine j_V.one ma9_M ma9_72 (by decide) (pc' := 75) (lv' := [(4, .int (v4 + 1)), (3, .int v3), (0, .ref 359), (1, .int v1), (2, .int v2)]) (st' := []) rfl ?_
          refine j_V.gto ma9_M ma9_75 (t := 5) rfl ?_
          refine j_V.mono (ih ((v4 + 1)) (v3) (lpN_n e) K) ?_
          rintro r hz ⟨rfl, rfl⟩
          exact ⟨congrArg (fun z => some (Value.int z)) (Eq.symm (show (m_trackFor_l5 w v1 v2 (f + 1) v4 v3) = (m_trackFor_l5 w v1 v2 f ((v4 + 1)) v3) from (if_neg c23_0).trans ((if_pos c41_1).trans (rfl)))), rfl⟩
        · replace c41_1 : ¬ ((m_st w v2 (2 + v4)) < (m_of w v1 0)) := jd_ltn c41_1
          refine j_V.one ma9_M ma9_44 (by decide) (pc' := 45) (st' := [.int v3]) rfl ?_
          refine j_V.one ma9_M ma9_45 (by decide) (pc' := 46) (st' := [.int (-1), .int v3]) rfl ?_
          refine j_V.icmp ma9_M ma9_46 (t := 69) rfl (fun c46_2 => ?_) (fun c46_2 => ?_)
          · replace c46_2 : v3 = (-1) := jd_eq c46_2
            refine j_V.one ma9_M ma9_69 (by decide) (pc' := 71) (st' := [.int v4]) rfl ?_
            refine j_V.one ma9_M ma9_71 (by decide) (pc' := 72) (lv' := [(3, .int v4), (4, .int v4), (0, .ref 359), (1, .int v1), (2, .int v2)]) (st' := []) rfl ?_
            refine j_V.one ma9_M ma9_72 (by decide) (pc' := 75) (lv' := [(4, .int (v4 + 1)), (3, .int v4), (0, .ref 359), (1, .int v1), (2, .int v2)]) (st' := []) rfl ?_
            refine j_V.gto ma9_M ma9_75 (t := 5) rfl ?_
            refine j_V.mono (ih ((v4 + 1)) (v4) (lpN_n e) K) ?_
            rintro r hz ⟨rfl, rfl⟩
            exact ⟨congrArg (fun z => some (Value.int z)) (Eq.symm (show (m_trackFor_l5 w v1 v2 (f + 1) v4 v3) = (m_trackFor_l5 w v1 v2 f ((v4 + 1)) v4) from (if_neg c23_0).trans ((if_neg c41_1).trans ((if_pos c46_2).trans (rfl))))), rfl⟩
          · replace c46_2 : ¬ (v3 = (-1)) := jd_eqn c46_2
            refine j_V.one ma9_M ma9_49 (by decide) (pc' := 50) (st' := [.ref 359]) rfl ?_
            refine j_V.one ma9_M ma9_50 (by decide) (pc' := 51) (st' := [.int v2, .ref 359]) rfl ?_
            refine j_V.one ma9_M ma9_51 (by decide) (pc' := 52) (st' := [.int 2, .int v2, .ref 359]) rfl ?_
            refine j_V.one ma9_M ma9_52 (by decide) (pc' := 54) (st' := [.int v4, .int 2, .int v2, .ref 359]) rfl ?_
            refine j_V.one ma9_M ma9_54 (by decide) (pc' := 55) (st' := [.int (2 + v4), .int v2, .ref 359]) rfl ?_
            refine j_V.cl ma9_M ma9_55 rfl (md := 3) (mj := 176) rfl (by decide) ma1_M (As := [.ref 359, .int v2, .int (2 + v4)]) (rest := []) (jk_spl3 (K.at rfl) rfl rfl rfl (Nat.le_of_ble_eq_true rfl) (Nat.le_of_ble_eq_true rfl)) (fun d => ma1_ok (K.sub ⟨rfl, rfl, trivial⟩)) ?_
            rintro r hz ⟨rfl, ez⟩
            rw [ez]
            clear ez
            show j_V jP _ 208 58 [(4, .int v4), (3, .int v3), (0, .ref 359), (1, .int v1), (2, .int v2)] [.int (m_st w v2 (2 + v4))] h _
            refine j_V.one ma9_M ma9_58 (by decide) (pc' := 59) (st' := [.ref 359, .int (m_st w v2 (2 + v4))]) rfl ?_
            refine j_V.one ma9_M ma9_59 (by decide) (pc' := 60) (st' := [.int v2, .ref 359, .int (m_st w v2 (2 + v4))]) rfl ?_
            refine j_V.one ma9_M ma9_60 (by decide) (pc' := 61) (st' := [.int 2, .int v2, .ref 359, .int (m_st w v2 (2 + v4))]) rfl ?_
            refine j_V.one ma9_M ma9_61 (by decide) (pc' := 62) (st' := [.int v3, .int 2, .int v2, .ref 359, .int (m_st w v2 (2 + v4))]) rfl ?_
            refine j_V.one ma9_M ma9_62 (by decide) (pc' := 63) (st' := [.int (2 + v3), .int v2, .ref 359, .int (m_st w v2 (2 + v4))]) rfl ?_
            refine j_V.cl ma9_M ma9_63 rfl (md := 3) (mj := 176) rfl (by decide) ma1_M (As := [.ref 359, .int v2, .int (2 + v3)]) (rest := [.int (m_st w v2 (2 + v4))]) (jk_spl3 (K.at rfl) rfl rfl rfl (Nat.le_of_ble_eq_true rfl) (Nat.le_of_ble_eq_true rfl)) (fun d => ma1_ok (K.sub ⟨rfl, rfl, trivial⟩)) ?_
            rintro r hz ⟨rfl, ez⟩
            rw [ez]
            clear ez
            show j_V jP _ 208 66 [(4, .int v4), (3, .int v3), (0, .ref 359), (1, .int v1), (2, .int v2)] [.int (m_st w v2 (2 + v3)), .int (m_st w v2 (2 + v4))] h _
            refine j_V.icmp ma9_M ma9_66 (t := 72) rfl (fun c66_3 => ?_) (fun c66_3 => ?_)
            · replace c66_3 : ¬ ((m_st w v2 (2 + v4)) < (m_st w v2 (2 + v3))) := jd_ge c66_3
              refine j_V.one ma9_M ma9_72 (by decide) (pc' := 75) (lv' := [(4, .int (v4 + 1)), (3, .int v3), (0, .ref 359), (1, .int v1), (2, .int v2)]) (st' := []) rfl ?_
              refine j_V.gto ma9_M ma9_75 (t := 5) rfl ?_
              refine j_V.mono (ih ((v4 + 1)) (v3) (lpN_n e) K) ?_
              rintro r hz ⟨rfl, rfl⟩
              exact ⟨congrArg (fun z => some (Value.int z)) (Eq.symm (show (m_trackFor_l5 w v1 v2 (f + 1) v4 v3) = (m_trackFor_l5 w v1 v2 f ((v4 + 1)) v3) from (if_neg c23_0).trans ((if_neg c41_1).trans ((if_neg c46_2).trans ((if_neg c66_3).trans (rfl)))))), rfl⟩
            · replace c66_3 : (m_st w v2 (2 + v4)) < (m_st w v2 (2 + v3)) := jd_gen c66_3
              refine j_V.one ma9_M ma9_69 (by decide) (pc' := 71) (st' := [.int v4]) rfl ?_
              refine j_V.one ma9_M ma9_71 (by decide) (pc' := 72) (lv' := [(3, .int v4), (4, .int v4), (0, .ref 359), (1, .int v1), (2, .int v2)]) (st' := []) rfl ?_
              refine j_V.one ma9_M ma9_72 (by decide) (pc' := 75) (lv' := [(4, .int (v4 + 1)), (3, .int v4), (0, .ref 359), (1, .int v1), (2, .int v2)]) (st' := []) rfl ?_
              refine j_V.gto ma9_M ma9_75 (t := 5) rfl ?_
              refine j_V.mono (ih ((v4 + 1)) (v4) (lpN_n e) K) ?_
              rintro r hz ⟨rfl, rfl⟩
              exact ⟨congrArg (fun z => some (Value.int z)) (Eq.symm (show (m_trackFor_l5 w v1 v2 (f + 1) v4 v3) = (m_trackFor_l5 w v1 v2 f ((v4 + 1)) v4) from (if_neg c23_0).trans ((if_neg c41_1).trans ((if_neg c46_2).trans ((if_pos c66_3).trans (rfl)))))), rfl⟩
def m_trackFor (w : List Int32) (x1 : Int32) (x2 : Int32) : Int32 := (m_trackFor_l5 w x1 x2 (lpN (m_st w x2 1) 0) 0 (-1))
theorem ma9_ok {u : Nat → Value} {w : List Int32} {x1 x2 : Int32} {d : Nat} {h h0 : J_H} (K : KN h [(359, .inl (10, [(u 0), .ref 360, .ref 361, .ref 362, .ref 363, .ref 364, .ref 365, .ref 366, .ref 367, (u 9), (u 10), (u 11), (u 12), (u 13), (u 14), (u 15), (u 16), (u 17), (u 18), (u 19), (u 20), (u 21), .ref 368, (u 23), .ref 369, .ref 370, .ref 371, (u 27)])), (360, .inr (.inl (0, w)))] h0) : j_V jP d 208 0 (lv_args 0 [.ref 359, .int x1, .int x2]) [] h (fun rv h' => rv = some (.int (m_trackFor w x1 x2)) ∧ h' = h) := by
  show j_V jP d 208 0 [(0, .ref 359), (1, .int x1), (2, .int x2)] [] h _
  refine j_V.one ma9_M ma9_0 (by decide) (pc' := 1) (st' := [.int (-1)]) rfl ?_
  refine j_V.one ma9_M ma9_1 (by decide) (pc' := 2) (lv' := [(3, .int (-1)), (0, .ref 359), (1, .int x1), (2, .int x2)]) (st' := []) rfl ?_
  refine j_V.one ma9_M ma9_2 (by decide) (pc' := 3) (st' := [.int 0]) rfl ?_
  refine j_V.one ma9_M ma9_3 (by decide) (pc' := 5) (lv' := [(4, .int 0), (3, .int (-1)), (0, .ref 359), (1, .int x1), (2, .int x2)]) (st' := []) rfl ?_
  refine j_V.mono (ma9_ok_l5 _ (0) ((-1)) rfl K) ?_
  rintro r hz ⟨rfl, rfl⟩
  exact ⟨congrArg (fun z => some (Value.int z)) (Eq.symm (show (m_trackFor w x1 x2) = (m_trackFor_l5 w x1 x2 (lpN (m_st w x2 1) 0) 0 (-1)) from rfl)), rfl⟩

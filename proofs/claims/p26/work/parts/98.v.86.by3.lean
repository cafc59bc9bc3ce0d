/-! the class's go (state 4, layout 343), by wip/px/gen_y3.py -/
set_option maxRecDepth 100000 in
theorem xbg1_M : j_meth jP 149 = some (yX9_go, cX9_go, 3, (some .int), 2, false, 9) := rfl
set_option maxRecDepth 100000 in
theorem xbg1_0 : j_code jP 149 0 = some (.iload_n 1) := rfl
set_option maxRecDepth 100000 in
theorem xbg1_1 : j_code jP 149 1 = some (.iconst 1) := rfl
set_option maxRecDepth 100000 in
theorem xbg1_2 : j_code jP 149 2 = some (.bipush 99) := rfl
set_option maxRecDepth 100000 in
theorem xbg1_4 : j_code jP 149 4 = some (.invokestatic 138) := rfl
set_option maxRecDepth 100000 in
theorem xbg1_7 : j_code jP 149 7 = some (.ifCond .ne 9) := rfl
set_option maxRecDepth 100000 in
theorem xbg1_10 : j_code jP 149 10 = some (.aload_n 0) := rfl
set_option maxRecDepth 100000 in
theorem xbg1_11 : j_code jP 149 11 = some (.iconst 1) := rfl
set_option maxRecDepth 100000 in
theorem xbg1_12 : j_code jP 149 12 = some (.invokevirtual 84) := rfl
set_option maxRecDepth 100000 in
theorem xbg1_15 : j_code jP 149 15 = some (.ireturn) := rfl
set_option maxRecDepth 100000 in
theorem xbg1_16 : j_code jP 149 16 = some (.aload_n 0) := rfl
set_option maxRecDepth 100000 in
theorem xbg1_17 : j_code jP 149 17 = some (.getfield 30) := rfl
set_option maxRecDepth 100000 in
theorem xbg1_20 : j_code jP 149 20 = some (.getfield 116) := rfl
set_option maxRecDepth 100000 in
theorem xbg1_23 : j_code jP 149 23 = some (.iload_n 1) := rfl
set_option maxRecDepth 100000 in
theorem xbg1_24 : j_code jP 149 24 = some (.iadd) := rfl
set_option maxRecDepth 100000 in
theorem xbg1_25 : j_code jP 149 25 = some (.sipush 999) := rfl
set_option maxRecDepth 100000 in
theorem xbg1_28 : j_code jP 149 28 = some (.if_icmp .le 9) := rfl
set_option maxRecDepth 100000 in
theorem xbg1_31 : j_code jP 149 31 = some (.aload_n 0) := rfl
set_option maxRecDepth 100000 in
theorem xbg1_32 : j_code jP 149 32 = some (.iconst 3) := rfl
set_option maxRecDepth 100000 in
theorem xbg1_33 : j_code jP 149 33 = some (.invokevirtual 84) := rfl
set_option maxRecDepth 100000 in
theorem xbg1_36 : j_code jP 149 36 = some (.ireturn) := rfl
set_option maxRecDepth 100000 in
theorem xbg1_37 : j_code jP 149 37 = some (.aload_n 0) := rfl
set_option maxRecDepth 100000 in
theorem xbg1_38 : j_code jP 149 38 = some (.getfield 37) := rfl
set_option maxRecDepth 100000 in
theorem xbg1_41 : j_code jP 149 41 = some (.aload_n 0) := rfl
set_option maxRecDepth 100000 in
theorem xbg1_42 : j_code jP 149 42 = some (.getfield 30) := rfl
set_option maxRecDepth 100000 in
theorem xbg1_45 : j_code jP 149 45 = some (.invokevirtual 357) := rfl
set_option maxRecDepth 100000 in
theorem xbg1_48 : j_code jP 149 48 = some (.aload_n 0) := rfl
set_option maxRecDepth 100000 in
theorem xbg1_49 : j_code jP 149 49 = some (.getfield 30) := rfl
set_option maxRecDepth 100000 in
theorem xbg1_52 : j_code jP 149 52 = some (.iload_n 1) := rfl
set_option maxRecDepth 100000 in
theorem xbg1_53 : j_code jP 149 53 = some (.iload_n 2) := rfl
set_option maxRecDepth 100000 in
theorem xbg1_54 : j_code jP 149 54 = some (.iconst 0) := rfl
set_option maxRecDepth 100000 in
theorem xbg1_55 : j_code jP 149 55 = some (.invokevirtual 361) := rfl
set_option maxRecDepth 100000 in
theorem xbg1_58 : j_code jP 149 58 = some (.pop) := rfl
set_option maxRecDepth 100000 in
theorem xbg1_59 : j_code jP 149 59 = some (.aload_n 0) := rfl
set_option maxRecDepth 100000 in
theorem xbg1_60 : j_code jP 149 60 = some (.aload_n 0) := rfl
set_option maxRecDepth 100000 in
theorem xbg1_61 : j_code jP 149 61 = some (.getfield 30) := rfl
set_option maxRecDepth 100000 in
theorem xbg1_64 : j_code jP 149 64 = some (.getfield 116) := rfl
set_option maxRecDepth 100000 in
theorem xbg1_67 : j_code jP 149 67 = some (.invokevirtual 104) := rfl
set_option maxRecDepth 100000 in
theorem xbg1_70 : j_code jP 149 70 = some (.ireturn) := rfl
set_option maxRecDepth 1000000 in
theorem xbg1_ok {sst : Int32} {x1 x2 : Int32} {d : Nat} {h h0 : J_H} (c1 : ((x_isWithin x1 1 99) = 0)) (K : KN h [(0, .inl (9, [.ref 1, .ref 3, .ref 4, .ref 29, .ref 281, .ref 325, .ref 343, .ref 327, .int sst]))] h0) : j_V jP d 149 0 (lv_args 0 [.ref 0, .int x1, .int x2]) [] h (fun rv h' => ∃ z0 : Int32 × Int32, z0 = (x_qrefuse sst 1) ∧ rv = some (.int ((x_qrefuse sst 1).1)) ∧ KN h' [(0, .inl (9, [.ref 1, .ref 3, .ref 4, .ref 29, .ref 281, .ref 325, .ref 343, .ref 327, .int (z0.2)]))] h0) := by
  show j_V jP d 149 0 [(0, .ref 0), (1, .int x1), (2, .int x2)] [] h _
  obtain ⟨lv, elv, L⟩ : ∃ lv, lv = [(0, .ref 0), (1, .int x1), (2, .int x2)] ∧ LK lv [(0, .ref 0), (1, .int x1), (2, .int x2)] := ⟨_, rfl, LK.rf⟩
  rw [← elv]
  clear elv
  refine j_V.ldL xbg1_M xbg1_0 rfl (i := 1) (kd := 0) (v := .int x1) (pcJ := 1) rfl L rfl rfl rfl ?_
  refine j_V.one xbg1_M xbg1_1 (by decide) (pcJ := 2) (stJ := [.int 1, .int x1]) rfl ?_
  refine j_V.one xbg1_M xbg1_2 (by decide) (pcJ := 4) (stJ := [.int 99, .int 1, .int x1]) rfl ?_
  refine j_V.cl xbg1_M xbg1_4 rfl (md := 2) (mj := 162) rfl (by decide) xbwisWi_M (As := [.int x1, .int 1, .int 99]) (rest := []) (jk_spl2 rfl rfl (Nat.le_of_ble_eq_true rfl) (Nat.le_of_ble_eq_true rfl)) (fun d => xbwisWi_ok (K.fi [] rfl rfl)) ?_
  rintro r hz ⟨rfl, ez⟩
  rw [ez]
  clear ez
  show j_V jP _ 149 7 lv [.int (x_isWithin x1 1 99)] h _
  refine j_V.ifc xbg1_M xbg1_7 (t := 16) rfl (fun c7_0 => ?_) (fun c7_0 => ?_)
  · replace c7_0 : ¬ ((x_isWithin x1 1 99) = 0) := jd_ne c7_0
    exact absurd c1 c7_0
  · replace c7_0 : (x_isWithin x1 1 99) = 0 := jd_nen c7_0
    refine j_V.ldL xbg1_M xbg1_10 rfl (i := 0) (kd := 2) (v := .ref 0) (pcJ := 11) rfl L rfl rfl rfl ?_
    refine j_V.one xbg1_M xbg1_11 (by decide) (pcJ := 12) (stJ := [.int 1, .ref 0]) rfl ?_
    refine j_V.cl xbg1_M xbg1_12 rfl (md := 3) (mj := 161) rfl (by decide) xb50_M (As := [.ref 0, .int 1]) (rest := []) (jk_spl3 (K.at rfl) rfl rfl rfl (Nat.le_of_ble_eq_true rfl) (Nat.le_of_ble_eq_true rfl)) (fun d => xb50_ok (K.fi [0] rfl rfl)) ?_
    rintro r h9 ⟨rfl, K9⟩
    obtain ⟨z0, ez0⟩ : ∃ z : Int32 × Int32, z = (x_qrefuse sst 1) := ⟨_, rfl⟩
    rw [← ez0] at K9
    have K : KN h9 [(0, .inl (9, [.ref 1, .ref 3, .ref 4, .ref 29, .ref 281, .ref 325, .ref 343, .ref 327, .int (z0.2)]))] h0 := K.mg K9 rfl rfl
    clear K9
    show j_V jP _ 149 15 lv [.int ((x_qrefuse sst 1).1)] h9 _
    refine j_V.ri xbg1_M xbg1_15 ?_
    exact ⟨_, ez0, rfl, K⟩
set_option maxRecDepth 100000 in
theorem xbg2_M : j_meth jP 149 = some (yX9_go, cX9_go, 3, (some .int), 2, false, 9) := rfl
set_option maxRecDepth 100000 in
theorem xbg2_0 : j_code jP 149 0 = some (.iload_n 1) := rfl
set_option maxRecDepth 100000 in
theorem xbg2_1 : j_code jP 149 1 = some (.iconst 1) := rfl
set_option maxRecDepth 100000 in
theorem xbg2_2 : j_code jP 149 2 = some (.bipush 99) := rfl
set_option maxRecDepth 100000 in
theorem xbg2_4 : j_code jP 149 4 = some (.invokestatic 138) := rfl
set_option maxRecDepth 100000 in
theorem xbg2_7 : j_code jP 149 7 = some (.ifCond .ne 9) := rfl
set_option maxRecDepth 100000 in
theorem xbg2_10 : j_code jP 149 10 = some (.aload_n 0) := rfl
set_option maxRecDepth 100000 in
theorem xbg2_11 : j_code jP 149 11 = some (.iconst 1) := rfl
set_option maxRecDepth 100000 in
theorem xbg2_12 : j_code jP 149 12 = some (.invokevirtual 84) := rfl
set_option maxRecDepth 100000 in
theorem xbg2_15 : j_code jP 149 15 = some (.ireturn) := rfl
set_option maxRecDepth 100000 in
theorem xbg2_16 : j_code jP 149 16 = some (.aload_n 0) := rfl
set_option maxRecDepth 100000 in
theorem xbg2_17 : j_code jP 149 17 = some (.getfield 30) := rfl
set_option maxRecDepth 100000 in
theorem xbg2_20 : j_code jP 149 20 = some (.getfield 116) := rfl
set_option maxRecDepth 100000 in
theorem xbg2_23 : j_code jP 149 23 = some (.iload_n 1) := rfl
set_option maxRecDepth 100000 in
theorem xbg2_24 : j_code jP 149 24 = some (.iadd) := rfl
set_option maxRecDepth 100000 in
theorem xbg2_25 : j_code jP 149 25 = some (.sipush 999) := rfl
set_option maxRecDepth 100000 in
theorem xbg2_28 : j_code jP 149 28 = some (.if_icmp .le 9) := rfl
set_option maxRecDepth 100000 in
theorem xbg2_31 : j_code jP 149 31 = some (.aload_n 0) := rfl
set_option maxRecDepth 100000 in
theorem xbg2_32 : j_code jP 149 32 = some (.iconst 3) := rfl
set_option maxRecDepth 100000 in
theorem xbg2_33 : j_code jP 149 33 = some (.invokevirtual 84) := rfl
set_option maxRecDepth 100000 in
theorem xbg2_36 : j_code jP 149 36 = some (.ireturn) := rfl
set_option maxRecDepth 100000 in
theorem xbg2_37 : j_code jP 149 37 = some (.aload_n 0) := rfl
set_option maxRecDepth 100000 in
theorem xbg2_38 : j_code jP 149 38 = some (.getfield 37) := rfl
set_option maxRecDepth 100000 in
theorem xbg2_41 : j_code jP 149 41 = some (.aload_n 0) := rfl
set_option maxRecDepth 100000 in
theorem xbg2_42 : j_code jP 149 42 = some (.getfield 30) := rfl
set_option maxRecDepth 100000 in
theorem xbg2_45 : j_code jP 149 45 = some (.invokevirtual 357) := rfl
set_option maxRecDepth 100000 in
theorem xbg2_48 : j_code jP 149 48 = some (.aload_n 0) := rfl
set_option maxRecDepth 100000 in
theorem xbg2_49 : j_code jP 149 49 = some (.getfield 30) := rfl
set_option maxRecDepth 100000 in
theorem xbg2_52 : j_code jP 149 52 = some (.iload_n 1) := rfl
set_option maxRecDepth 100000 in
theorem xbg2_53 : j_code jP 149 53 = some (.iload_n 2) := rfl
set_option maxRecDepth 100000 in
theorem xbg2_54 : j_code jP 149 54 = some (.iconst 0) := rfl
set_option maxRecDepth 100000 in
theorem xbg2_55 : j_code jP 149 55 = some (.invokevirtual 361) := rfl
set_option maxRecDepth 100000 in
theorem xbg2_58 : j_code jP 149 58 = some (.pop) := rfl
set_option maxRecDepth 100000 in
theorem xbg2_59 : j_code jP 149 59 = some (.aload_n 0) := rfl
set_option maxRecDepth 100000 in
theorem xbg2_60 : j_code jP 149 60 = some (.aload_n 0) := rfl
set_option maxRecDepth 100000 in
theorem xbg2_61 : j_code jP 149 61 = some (.getfield 30) := rfl
set_option maxRecDepth 100000 in
theorem xbg2_64 : j_code jP 149 64 = some (.getfield 116) := rfl
set_option maxRecDepth 100000 in
theorem xbg2_67 : j_code jP 149 67 = some (.invokevirtual 104) := rfl
set_option maxRecDepth 100000 in
theorem xbg2_70 : j_code jP 149 70 = some (.ireturn) := rfl
set_option maxRecDepth 1000000 in
theorem xbg2_ok {mi : Int32} {shu : Int32} {bus : Int32} {lks : Int32} {sst : Int32} {x1 x2 : Int32} {d : Nat} {h h0 : J_H} (c1 : ¬ ((x_isWithin x1 1 99) = 0)) (c2 : (999 < (mi + x1))) (K : KN h [(0, .inl (9, [.ref 1, .ref 3, .ref 4, .ref 29, .ref 281, .ref 325, .ref 343, .ref 327, .int sst])), (4, .inl (7, [.ref 343, .int mi, .int shu, .int bus, .ref 5, .ref 6, .ref 7, .ref 8, .ref 9, .ref 10, .ref 11, .ref 12, .ref 13, .ref 14, .ref 15, .int lks, .ref 16, .ref 17, .ref 20]))] h0) : j_V jP d 149 0 (lv_args 0 [.ref 0, .int x1, .int x2]) [] h (fun rv h' => ∃ z0 : Int32 × Int32, z0 = (x_qrefuse sst 3) ∧ rv = some (.int ((x_qrefuse sst 3).1)) ∧ KN h' [(0, .inl (9, [.ref 1, .ref 3, .ref 4, .ref 29, .ref 281, .ref 325, .ref 343, .ref 327, .int (z0.2)])), (4, .inl (7, [.ref 343, .int mi, .int shu, .int bus, .ref 5, .ref 6, .ref 7, .ref 8, .ref 9, .ref 10, .ref 11, .ref 12, .ref 13, .ref 14, .ref 15, .int lks, .ref 16, .ref 17, .ref 20]))] h0) := by
  show j_V jP d 149 0 [(0, .ref 0), (1, .int x1), (2, .int x2)] [] h _
  obtain ⟨lv, elv, L⟩ : ∃ lv, lv = [(0, .ref 0), (1, .int x1), (2, .int x2)] ∧ LK lv [(0, .ref 0), (1, .int x1), (2, .int x2)] := ⟨_, rfl, LK.rf⟩
  rw [← elv]
  clear elv
  refine j_V.ldL xbg2_M xbg2_0 rfl (i := 1) (kd := 0) (v := .int x1) (pcJ := 1) rfl L rfl rfl rfl ?_
  refine j_V.one xbg2_M xbg2_1 (by decide) (pcJ := 2) (stJ := [.int 1, .int x1]) rfl ?_
  refine j_V.one xbg2_M xbg2_2 (by decide) (pcJ := 4) (stJ := [.int 99, .int 1, .int x1]) rfl ?_
  refine j_V.cl xbg2_M xbg2_4 rfl (md := 2) (mj := 162) rfl (by decide) xbwisWi_M (As := [.int x1, .int 1, .int 99]) (rest := []) (jk_spl2 rfl rfl (Nat.le_of_ble_eq_true rfl) (Nat.le_of_ble_eq_true rfl)) (fun d => xbwisWi_ok (K.fi [] rfl rfl)) ?_
  rintro r hz ⟨rfl, ez⟩
  rw [ez]
  clear ez
  show j_V jP _ 149 7 lv [.int (x_isWithin x1 1 99)] h _
  refine j_V.ifc xbg2_M xbg2_7 (t := 16) rfl (fun c7_0 => ?_) (fun c7_0 => ?_)
  · replace c7_0 : ¬ ((x_isWithin x1 1 99) = 0) := jd_ne c7_0
    refine j_V.ldL xbg2_M xbg2_16 rfl (i := 0) (kd := 2) (v := .ref 0) (pcJ := 17) rfl L rfl rfl rfl ?_
    refine j_V.getK xbg2_M xbg2_17 (ci := 9) (j := 2) rfl K rfl rfl ?_
    refine j_V.getK xbg2_M xbg2_20 (ci := 7) (j := 1) rfl K rfl rfl ?_
    refine j_V.ldL xbg2_M xbg2_23 rfl (i := 1) (kd := 0) (v := .int x1) (pcJ := 24) rfl L rfl rfl rfl ?_
    refine j_V.one xbg2_M xbg2_24 (by decide) (pcJ := 25) (stJ := [.int (mi + x1)]) rfl ?_
    refine j_V.one xbg2_M xbg2_25 (by decide) (pcJ := 28) (stJ := [.int 999, .int (mi + x1)]) rfl ?_
    refine j_V.icmp xbg2_M xbg2_28 (t := 37) rfl (fun c28_0 => ?_) (fun c28_0 => ?_)
    · replace c28_0 : ¬ (999 < (mi + x1)) := jd_le c28_0
      exact absurd c2 c28_0
    · replace c28_0 : 999 < (mi + x1) := jd_len c28_0
      refine j_V.ldL xbg2_M xbg2_31 rfl (i := 0) (kd := 2) (v := .ref 0) (pcJ := 32) rfl L rfl rfl rfl ?_
      refine j_V.one xbg2_M xbg2_32 (by decide) (pcJ := 33) (stJ := [.int 3, .ref 0]) rfl ?_
      refine j_V.cl xbg2_M xbg2_33 rfl (md := 3) (mj := 161) rfl (by decide) xb50_M (As := [.ref 0, .int 3]) (rest := []) (jk_spl3 (K.at rfl) rfl rfl rfl (Nat.le_of_ble_eq_true rfl) (Nat.le_of_ble_eq_true rfl)) (fun d => xb50_ok (K.fi [0] rfl rfl)) ?_
      rintro r h9 ⟨rfl, K9⟩
      obtain ⟨z0, ez0⟩ : ∃ z : Int32 × Int32, z = (x_qrefuse sst 3) := ⟨_, rfl⟩
      rw [← ez0] at K9
      have K : KN h9 [(0, .inl (9, [.ref 1, .ref 3, .ref 4, .ref 29, .ref 281, .ref 325, .ref 343, .ref 327, .int (z0.2)])), (4, .inl (7, [.ref 343, .int mi, .int shu, .int bus, .ref 5, .ref 6, .ref 7, .ref 8, .ref 9, .ref 10, .ref 11, .ref 12, .ref 13, .ref 14, .ref 15, .int lks, .ref 16, .ref 17, .ref 20]))] h0 := K.mg K9 rfl rfl
      clear K9
      show j_V jP _ 149 36 lv [.int ((x_qrefuse sst 3).1)] h9 _
      refine j_V.ri xbg2_M xbg2_36 ?_
      exact ⟨_, ez0, rfl, K⟩
  · replace c7_0 : (x_isWithin x1 1 99) = 0 := jd_nen c7_0
    exact absurd c7_0 c1
set_option maxRecDepth 100000 in
theorem xbg3_M : j_meth jP 149 = some (yX9_go, cX9_go, 3, (some .int), 2, false, 9) := rfl
set_option maxRecDepth 100000 in
theorem xbg3_0 : j_code jP 149 0 = some (.iload_n 1) := rfl
set_option maxRecDepth 100000 in
theorem xbg3_1 : j_code jP 149 1 = some (.iconst 1) := rfl
set_option maxRecDepth 100000 in
theorem xbg3_2 : j_code jP 149 2 = some (.bipush 99) := rfl
set_option maxRecDepth 100000 in
theorem xbg3_4 : j_code jP 149 4 = some (.invokestatic 138) := rfl
set_option maxRecDepth 100000 in
theorem xbg3_7 : j_code jP 149 7 = some (.ifCond .ne 9) := rfl
set_option maxRecDepth 100000 in
theorem xbg3_10 : j_code jP 149 10 = some (.aload_n 0) := rfl
set_option maxRecDepth 100000 in
theorem xbg3_11 : j_code jP 149 11 = some (.iconst 1) := rfl
set_option maxRecDepth 100000 in
theorem xbg3_12 : j_code jP 149 12 = some (.invokevirtual 84) := rfl
set_option maxRecDepth 100000 in
theorem xbg3_15 : j_code jP 149 15 = some (.ireturn) := rfl
set_option maxRecDepth 100000 in
theorem xbg3_16 : j_code jP 149 16 = some (.aload_n 0) := rfl
set_option maxRecDepth 100000 in
theorem xbg3_17 : j_code jP 149 17 = some (.getfield 30) := rfl
set_option maxRecDepth 100000 in
theorem xbg3_20 : j_code jP 149 20 = some (.getfield 116) := rfl
set_option maxRecDepth 100000 in
theorem xbg3_23 : j_code jP 149 23 = some (.iload_n 1) := rfl
set_option maxRecDepth 100000 in
theorem xbg3_24 : j_code jP 149 24 = some (.iadd) := rfl
set_option maxRecDepth 100000 in
theorem xbg3_25 : j_code jP 149 25 = some (.sipush 999) := rfl
set_option maxRecDepth 100000 in
theorem xbg3_28 : j_code jP 149 28 = some (.if_icmp .le 9) := rfl
set_option maxRecDepth 100000 in
theorem xbg3_31 : j_code jP 149 31 = some (.aload_n 0) := rfl
set_option maxRecDepth 100000 in
theorem xbg3_32 : j_code jP 149 32 = some (.iconst 3) := rfl
set_option maxRecDepth 100000 in
theorem xbg3_33 : j_code jP 149 33 = some (.invokevirtual 84) := rfl
set_option maxRecDepth 100000 in
theorem xbg3_36 : j_code jP 149 36 = some (.ireturn) := rfl
set_option maxRecDepth 100000 in
theorem xbg3_37 : j_code jP 149 37 = some (.aload_n 0) := rfl
set_option maxRecDepth 100000 in
theorem xbg3_38 : j_code jP 149 38 = some (.getfield 37) := rfl
set_option maxRecDepth 100000 in
theorem xbg3_41 : j_code jP 149 41 = some (.aload_n 0) := rfl
set_option maxRecDepth 100000 in
theorem xbg3_42 : j_code jP 149 42 = some (.getfield 30) := rfl
set_option maxRecDepth 100000 in
theorem xbg3_45 : j_code jP 149 45 = some (.invokevirtual 357) := rfl
set_option maxRecDepth 100000 in
theorem xbg3_48 : j_code jP 149 48 = some (.aload_n 0) := rfl
set_option maxRecDepth 100000 in
theorem xbg3_49 : j_code jP 149 49 = some (.getfield 30) := rfl
set_option maxRecDepth 100000 in
theorem xbg3_52 : j_code jP 149 52 = some (.iload_n 1) := rfl
set_option maxRecDepth 100000 in
theorem xbg3_53 : j_code jP 149 53 = some (.iload_n 2) := rfl
set_option maxRecDepth 100000 in
theorem xbg3_54 : j_code jP 149 54 = some (.iconst 0) := rfl
set_option maxRecDepth 100000 in
theorem xbg3_55 : j_code jP 149 55 = some (.invokevirtual 361) := rfl
set_option maxRecDepth 100000 in
theorem xbg3_58 : j_code jP 149 58 = some (.pop) := rfl
set_option maxRecDepth 100000 in
theorem xbg3_59 : j_code jP 149 59 = some (.aload_n 0) := rfl
set_option maxRecDepth 100000 in
theorem xbg3_60 : j_code jP 149 60 = some (.aload_n 0) := rfl
set_option maxRecDepth 100000 in
theorem xbg3_61 : j_code jP 149 61 = some (.getfield 30) := rfl
set_option maxRecDepth 100000 in
theorem xbg3_64 : j_code jP 149 64 = some (.getfield 116) := rfl
set_option maxRecDepth 100000 in
theorem xbg3_67 : j_code jP 149 67 = some (.invokevirtual 104) := rfl
set_option maxRecDepth 100000 in
theorem xbg3_70 : j_code jP 149 70 = some (.ireturn) := rfl
def xbg3_C (mi : Int32) (shu : Int32) (bus : Int32) (lks : Int32) (rk : List Int32) (sta : List Int32) (ph : List Int32) (sp : List Int32) (ce : List Int32) (du : List Int32) (he : List Int32) (ri : List Int32) (us : List Int32) (cm : List Int32) (lf : List Int32) (lkd : List Int32) (rl : Int32) (row : List Int32) (sea : List Int32) (pev : Int32) (pk : Int32) (pms : List Int32) (pmm : List Int32) (pmt : List Int32) (pst : List Int32) (pwa : List Int32) (prs : List Int32) (prr : List Int32) (pfa : List Int32) (ns : Int32) (nt : Int32) (cel : Int32) (len : List Int32) (frm : List Int32) (tto : List Int32) (wei : List Int32) (fit : List Int32) (way : List Int32) (rid : List Int32) (lon : List Int32) (sst : Int32) (acne : Int32) (acco : Int32) : jk_K := [(0, .inl (9, [.ref 1, .ref 3, .ref 4, .ref 29, .ref 281, .ref 325, .ref 343, .ref 327, .int sst])), (4, .inl (7, [.ref 343, .int mi, .int shu, .int bus, .ref 5, .ref 6, .ref 7, .ref 8, .ref 9, .ref 10, .ref 11, .ref 12, .ref 13, .ref 14, .ref 15, .int lks, .ref 16, .ref 17, .ref 20])), (5, .inr (.inl (0, rk))), (6, .inr (.inl (0, sta))), (7, .inr (.inl (0, ph))), (8, .inr (.inl (0, sp))), (9, .inr (.inl (0, ce))), (10, .inr (.inl (0, du))), (11, .inr (.inl (0, he))), (12, .inr (.inl (0, ri))), (13, .inr (.inl (0, us))), (14, .inr (.inl (0, cm))), (15, .inr (.inl (0, lf))), (16, .inr (.inl (0, lkd))), (17, .inl (5, [.ref 18, .int rl, .ref 19])), (18, .inr (.inl (0, row))), (19, .inr (.inl (0, sea))), (20, .inl (3, [.ref 21, .ref 22, .ref 23, .ref 24, .ref 25, .ref 26, .ref 27, .ref 28, .int pev, .int pk])), (21, .inr (.inl (0, pms))), (22, .inr (.inl (0, pmm))), (23, .inr (.inl (0, pmt))), (24, .inr (.inl (0, pst))), (25, .inr (.inl (0, pwa))), (26, .inr (.inl (0, prs))), (27, .inr (.inl (0, prr))), (28, .inr (.inl (0, pfa))), (29, .inl (0, [.ref 30, .int acne, .int acco])), (343, .inl (2, [.int ns, .ref 344, .ref 345, .ref 346, .ref 347, .int nt, .ref 348, .ref 349, .ref 350, .ref 351, .ref 352, .ref 353, .ref 354, .int cel, .ref 355, .ref 356, .ref 357, .ref 358])), (347, .inr (.inl (0, len))), (350, .inr (.inl (0, frm))), (351, .inr (.inl (0, tto))), (354, .inr (.inl (0, wei))), (355, .inr (.inl (0, fit))), (356, .inr (.inl (0, way))), (357, .inr (.inl (0, rid))), (358, .inr (.inl (0, lon)))]
def xbg3_D (mi : Int32) (shu : Int32) (bus : Int32) (lks : Int32) (rk : List Int32) (sta : List Int32) (ph : List Int32) (sp : List Int32) (ce : List Int32) (du : List Int32) (he : List Int32) (ri : List Int32) (us : List Int32) (cm : List Int32) (lf : List Int32) (lkd : List Int32) (rl : Int32) (row : List Int32) (sea : List Int32) (pev : Int32) (pk : Int32) (pms : List Int32) (pmm : List Int32) (pmt : List Int32) (pst : List Int32) (pwa : List Int32) (prs : List Int32) (prr : List Int32) (pfa : List Int32) (ns : Int32) (nt : Int32) (cel : Int32) (len : List Int32) (frm : List Int32) (tto : List Int32) (wei : List Int32) (fit : List Int32) (way : List Int32) (rid : List Int32) (lon : List Int32) (sst : Int32) (acne : Int32) (acco : Int32) : jk_K := [(0, .inl (9, [.ref 1, .ref 3, .ref 4, .ref 29, .ref 281, .ref 325, .ref 343, .ref 327, .int sst])), (4, .inl (7, [.ref 343, .int mi, .int shu, .int bus, .ref 5, .ref 6, .ref 7, .ref 8, .ref 9, .ref 10, .ref 11, .ref 12, .ref 13, .ref 14, .ref 15, .int lks, .ref 16, .ref 17, .ref 20])), (5, .inr (.inl (0, rk))), (6, .inr (.inl (0, sta))), (7, .inr (.inl (0, ph))), (8, .inr (.inl (0, sp))), (9, .inr (.inl (0, ce))), (10, .inr (.inl (0, du))), (11, .inr (.inl (0, he))), (12, .inr (.inl (0, ri))), (13, .inr (.inl (0, us))), (14, .inr (.inl (0, cm))), (15, .inr (.inl (0, lf))), (16, .inr (.inl (0, lkd))), (17, .inl (5, [.ref 18, .int rl, .ref 19])), (18, .inr (.inl (0, row))), (19, .inr (.inl (0, sea))), (20, .inl (3, [.ref 21, .ref 22, .ref 23, .ref 24, .ref 25, .ref 26, .ref 27, .ref 28, .int pev, .int pk])), (21, .inr (.inl (0, pms))), (22, .inr (.inl (0, pmm))), (23, .inr (.inl (0, pmt))), (24, .inr (.inl (0, pst))), (25, .inr (.inl (0, pwa))), (26, .inr (.inl (0, prs))), (27, .inr (.inl (0, prr))), (28, .inr (.inl (0, pfa))), (343, .inl (2, [.int ns, .ref 344, .ref 345, .ref 346, .ref 347, .int nt, .ref 348, .ref 349, .ref 350, .ref 351, .ref 352, .ref 353, .ref 354, .int cel, .ref 355, .ref 356, .ref 357, .ref 358])), (347, .inr (.inl (0, len))), (350, .inr (.inl (0, frm))), (351, .inr (.inl (0, tto))), (354, .inr (.inl (0, wei))), (355, .inr (.inl (0, fit))), (356, .inr (.inl (0, way))), (357, .inr (.inl (0, rid))), (358, .inr (.inl (0, lon)))]
set_option maxRecDepth 1000000 in
theorem xbg3_ok {mi : Int32} {shu : Int32} {bus : Int32} {lks : Int32} {rk : List Int32} {sta : List Int32} {ph : List Int32} {sp : List Int32} {ce : List Int32} {du : List Int32} {he : List Int32} {ri : List Int32} {us : List Int32} {cm : List Int32} {lf : List Int32} {lkd : List Int32} {rl : Int32} {row : List Int32} {sea : List Int32} {pev : Int32} {pk : Int32} {pms : List Int32} {pmm : List Int32} {pmt : List Int32} {pst : List Int32} {pwa : List Int32} {prs : List Int32} {prr : List Int32} {pfa : List Int32} {ns : Int32} {nt : Int32} {cel : Int32} {len : List Int32} {frm : List Int32} {tto : List Int32} {wei : List Int32} {fit : List Int32} {way : List Int32} {rid : List Int32} {lon : List Int32} {sst : Int32} {acne : Int32} {acco : Int32} {x1 x2 : Int32} {d : Nat} {h h0 : J_H} (c1 : ¬ ((x_isWithin x1 1 99) = 0)) (c2 : ¬ (999 < (mi + x1))) {RM : J_H → J_H → Prop} (hR : ∀ d h1, KN h1 (xbg3_C mi shu bus lks rk sta ph sp ce du he ri us cm lf lkd rl row sea pev pk pms pmm pmt pst pwa prs prr pfa ns nt cel len frm tto wei fit way rid lon sst acne acco) h0 → j_V jP d 2 0 (lv_args 0 [.ref 29, .ref 4]) [] h1 (fun rv h' => rv = none ∧ RM h1 h')) (hK : ∀ h1 h2, KN h1 (xbg3_C mi shu bus lks rk sta ph sp ce du he ri us cm lf lkd rl row sea pev pk pms pmm pmt pst pwa prs prr pfa ns nt cel len frm tto wei fit way rid lon sst acne acco) h0 → RM h1 h2 → KN h2 (xbg3_D mi shu bus lks rk sta ph sp ce du he ri us cm lf lkd rl row sea pev pk pms pmm pmt pst pwa prs prr pfa ns nt cel len frm tto wei fit way rid lon sst acne acco) h2) (K : KN h [(0, .inl (9, [.ref 1, .ref 3, .ref 4, .ref 29, .ref 281, .ref 325, .ref 343, .ref 327, .int sst])), (4, .inl (7, [.ref 343, .int mi, .int shu, .int bus, .ref 5, .ref 6, .ref 7, .ref 8, .ref 9, .ref 10, .ref 11, .ref 12, .ref 13, .ref 14, .ref 15, .int lks, .ref 16, .ref 17, .ref 20])), (5, .inr (.inl (0, rk))), (6, .inr (.inl (0, sta))), (7, .inr (.inl (0, ph))), (8, .inr (.inl (0, sp))), (9, .inr (.inl (0, ce))), (10, .inr (.inl (0, du))), (11, .inr (.inl (0, he))), (12, .inr (.inl (0, ri))), (13, .inr (.inl (0, us))), (14, .inr (.inl (0, cm))), (15, .inr (.inl (0, lf))), (16, .inr (.inl (0, lkd))), (17, .inl (5, [.ref 18, .int rl, .ref 19])), (18, .inr (.inl (0, row))), (19, .inr (.inl (0, sea))), (20, .inl (3, [.ref 21, .ref 22, .ref 23, .ref 24, .ref 25, .ref 26, .ref 27, .ref 28, .int pev, .int pk])), (21, .inr (.inl (0, pms))), (22, .inr (.inl (0, pmm))), (23, .inr (.inl (0, pmt))), (24, .inr (.inl (0, pst))), (25, .inr (.inl (0, pwa))), (26, .inr (.inl (0, prs))), (27, .inr (.inl (0, prr))), (28, .inr (.inl (0, pfa))), (29, .inl (0, [.ref 30, .int acne, .int acco])), (343, .inl (2, [.int ns, .ref 344, .ref 345, .ref 346, .ref 347, .int nt, .ref 348, .ref 349, .ref 350, .ref 351, .ref 352, .ref 353, .ref 354, .int cel, .ref 355, .ref 356, .ref 357, .ref 358])), (347, .inr (.inl (0, len))), (350, .inr (.inl (0, frm))), (351, .inr (.inl (0, tto))), (354, .inr (.inl (0, wei))), (355, .inr (.inl (0, fit))), (356, .inr (.inl (0, way))), (357, .inr (.inl (0, rid))), (358, .inr (.inl (0, lon)))] h0) : j_V jP d 149 0 (lv_args 0 [.ref 0, .int x1, .int x2]) [] h (fun rv h' => ∃ z0 : Int32 × List Int32 × List Int32 × Int32 × Int32 × List Int32 × List Int32 × List Int32 × List Int32 × List Int32 × List Int32 × List Int32 × List Int32 × Int32 × List Int32 × List Int32 × Int32 × List Int32 × List Int32 × List Int32 × List Int32 × List Int32 × List Int32, z0 = (x_advance mi shu bus lks rk sta ph sp ce du he ri us cm lf lkd rl row sea pev pk pms pmm pmt pst pwa prs prr pfa nt len frm tto wei fit way rid lon x1 x2 0) ∧ ∃ z1 : Int32 × Int32, z1 = (x_qanswer sst (z0.2.2.2.2.2.2.2.2.2.2.2.2.2.2.2.2.1)) ∧ ∃ h1 h2 : J_H, KN h1 (xbg3_C mi shu bus lks rk sta ph sp ce du he ri us cm lf lkd rl row sea pev pk pms pmm pmt pst pwa prs prr pfa ns nt cel len frm tto wei fit way rid lon sst acne acco) h0 ∧ RM h1 h2 ∧ rv = some (.int ((x_qanswer sst (z0.2.2.2.2.2.2.2.2.2.2.2.2.2.2.2.2.1)).1)) ∧ KN h' [(0, .inl (9, [.ref 1, .ref 3, .ref 4, .ref 29, .ref 281, .ref 325, .ref 343, .ref 327, .int (z1.2)])), (4, .inl (7, [.ref 343, .int (z0.2.2.2.2.2.2.2.2.2.2.2.2.2.2.2.2.1), .int shu, .int (z0.2.2.2.2.1), .ref 5, .ref 6, .ref 7, .ref 8, .ref 9, .ref 10, .ref 11, .ref 12, .ref 13, .ref 14, .ref 15, .int lks, .ref 16, .ref 17, .ref 20])), (5, .inr (.inl (0, rk))), (6, .inr (.inl (0, sta))), (7, .inr (.inl (0, (z0.2.2.2.2.2.1)))), (8, .inr (.inl (0, (z0.2.2.2.2.2.2.1)))), (9, .inr (.inl (0, (z0.2.2.2.2.2.2.2.1)))), (10, .inr (.inl (0, (z0.2.2.2.2.2.2.2.2.1)))), (11, .inr (.inl (0, he))), (12, .inr (.inl (0, (z0.2.2.2.2.2.2.2.2.2.1)))), (13, .inr (.inl (0, (z0.2.2.2.2.2.2.2.2.2.2.2.2.2.2.2.2.2.1)))), (14, .inr (.inl (0, (z0.2.2.2.2.2.2.2.2.2.2.1)))), (15, .inr (.inl (0, (z0.2.2.2.2.2.2.2.2.2.2.2.1)))), (16, .inr (.inl (0, lkd))), (17, .inl (5, [.ref 18, .int (z0.2.2.2.1), .ref 19])), (18, .inr (.inl (0, (z0.2.2.1)))), (19, .inr (.inl (0, (z0.2.1)))), (20, .inl (3, [.ref 21, .ref 22, .ref 23, .ref 24, .ref 25, .ref 26, .ref 27, .ref 28, .int (z0.2.2.2.2.2.2.2.2.2.2.2.2.2.1), .int pk])), (21, .inr (.inl (0, (z0.2.2.2.2.2.2.2.2.2.2.2.2.2.2.2.2.2.2.1)))), (22, .inr (.inl (0, (z0.2.2.2.2.2.2.2.2.2.2.2.2.2.2.2.2.2.2.2.1)))), (23, .inr (.inl (0, (z0.2.2.2.2.2.2.2.2.2.2.2.2.2.2.2.2.2.2.2.2.1)))), (24, .inr (.inl (0, (z0.2.2.2.2.2.2.2.2.2.2.2.2.2.2.2.2.2.2.2.2.2.1)))), (25, .inr (.inl (0, (z0.2.2.2.2.2.2.2.2.2.2.2.2.2.2.2.2.2.2.2.2.2.2)))), (26, .inr (.inl (0, (z0.2.2.2.2.2.2.2.2.2.2.2.2.2.2.1)))), (27, .inr (.inl (0, (z0.2.2.2.2.2.2.2.2.2.2.2.2.2.2.2.1)))), (28, .inr (.inl (0, (z0.2.2.2.2.2.2.2.2.2.2.2.2.1)))), (343, .inl (2, [.int ns, .ref 344, .ref 345, .ref 346, .ref 347, .int nt, .ref 348, .ref 349, .ref 350, .ref 351, .ref 352, .ref 353, .ref 354, .int cel, .ref 355, .ref 356, .ref 357, .ref 358])), (347, .inr (.inl (0, len))), (350, .inr (.inl (0, frm))), (351, .inr (.inl (0, tto))), (354, .inr (.inl (0, wei))), (355, .inr (.inl (0, fit))), (356, .inr (.inl (0, way))), (357, .inr (.inl (0, rid))), (358, .inr (.inl (0, lon)))] h2) := by
  show j_V jP d 149 0 [(0, .ref 0), (1, .int x1), (2, .int x2)] [] h _
  obtain ⟨lv, elv, L⟩ : ∃ lv, lv = [(0, .ref 0), (1, .int x1), (2, .int x2)] ∧ LK lv [(0, .ref 0), (1, .int x1), (2, .int x2)] := ⟨_, rfl, LK.rf⟩
  rw [← elv]
  clear elv
  refine j_V.ldL xbg3_M xbg3_0 rfl (i := 1) (kd := 0) (v := .int x1) (pcJ := 1) rfl L rfl rfl rfl ?_
  refine j_V.one xbg3_M xbg3_1 (by decide) (pcJ := 2) (stJ := [.int 1, .int x1]) rfl ?_
  refine j_V.one xbg3_M xbg3_2 (by decide) (pcJ := 4) (stJ := [.int 99, .int 1, .int x1]) rfl ?_
  refine j_V.cl xbg3_M xbg3_4 rfl (md := 2) (mj := 162) rfl (by decide) xbwisWi_M (As := [.int x1, .int 1, .int 99]) (rest := []) (jk_spl2 rfl rfl (Nat.le_of_ble_eq_true rfl) (Nat.le_of_ble_eq_true rfl)) (fun d => xbwisWi_ok (K.fi [] rfl rfl)) ?_
  rintro r hz ⟨rfl, ez⟩
  rw [ez]
  clear ez
  show j_V jP _ 149 7 lv [.int (x_isWithin x1 1 99)] h _
  refine j_V.ifc xbg3_M xbg3_7 (t := 16) rfl (fun c7_0 => ?_) (fun c7_0 => ?_)
  · replace c7_0 : ¬ ((x_isWithin x1 1 99) = 0) := jd_ne c7_0
    refine j_V.ldL xbg3_M xbg3_16 rfl (i := 0) (kd := 2) (v := .ref 0) (pcJ := 17) rfl L rfl rfl rfl ?_
    refine j_V.getK xbg3_M xbg3_17 (ci := 9) (j := 2) rfl K rfl rfl ?_
    refine j_V.getK xbg3_M xbg3_20 (ci := 7) (j := 1) rfl K rfl rfl ?_
    refine j_V.ldL xbg3_M xbg3_23 rfl (i := 1) (kd := 0) (v := .int x1) (pcJ := 24) rfl L rfl rfl rfl ?_
    refine j_V.one xbg3_M xbg3_24 (by decide) (pcJ := 25) (stJ := [.int (mi + x1)]) rfl ?_
    refine j_V.one xbg3_M xbg3_25 (by decide) (pcJ := 28) (stJ := [.int 999, .int (mi + x1)]) rfl ?_
    refine j_V.icmp xbg3_M xbg3_28 (t := 37) rfl (fun c28_0 => ?_) (fun c28_0 => ?_)
    · replace c28_0 : ¬ (999 < (mi + x1)) := jd_le c28_0
      refine j_V.ldL xbg3_M xbg3_37 rfl (i := 0) (kd := 2) (v := .ref 0) (pcJ := 38) rfl L rfl rfl rfl ?_
      refine j_V.getK xbg3_M xbg3_38 (ci := 9) (j := 3) rfl K rfl rfl ?_
      refine j_V.ldL xbg3_M xbg3_41 rfl (i := 0) (kd := 2) (v := .ref 0) (pcJ := 42) rfl L rfl rfl rfl ?_
      refine j_V.getK xbg3_M xbg3_42 (ci := 9) (j := 2) rfl K rfl rfl ?_
      refine j_V.cl xbg3_M xbg3_45 rfl (md := 3) (mj := 2) rfl (by decide) yr0m_M (As := [.ref 29, .ref 4]) (rest := []) (jk_spl3 (K.at rfl) rfl rfl rfl (Nat.le_of_ble_eq_true rfl) (Nat.le_of_ble_eq_true rfl)) (fun d => hR d _ K) ?_
      rintro r h9 ⟨rfl, R9⟩
      have K1 := K
      obtain ⟨hb, ehb⟩ : ∃ z, z = h9 := ⟨_, rfl⟩
      have K : KN h9 [(0, .inl (9, [.ref 1, .ref 3, .ref 4, .ref 29, .ref 281, .ref 325, .ref 343, .ref 327, .int sst])), (4, .inl (7, [.ref 343, .int mi, .int shu, .int bus, .ref 5, .ref 6, .ref 7, .ref 8, .ref 9, .ref 10, .ref 11, .ref 12, .ref 13, .ref 14, .ref 15, .int lks, .ref 16, .ref 17, .ref 20])), (5, .inr (.inl (0, rk))), (6, .inr (.inl (0, sta))), (7, .inr (.inl (0, ph))), (8, .inr (.inl (0, sp))), (9, .inr (.inl (0, ce))), (10, .inr (.inl (0, du))), (11, .inr (.inl (0, he))), (12, .inr (.inl (0, ri))), (13, .inr (.inl (0, us))), (14, .inr (.inl (0, cm))), (15, .inr (.inl (0, lf))), (16, .inr (.inl (0, lkd))), (17, .inl (5, [.ref 18, .int rl, .ref 19])), (18, .inr (.inl (0, row))), (19, .inr (.inl (0, sea))), (20, .inl (3, [.ref 21, .ref 22, .ref 23, .ref 24, .ref 25, .ref 26, .ref 27, .ref 28, .int pev, .int pk])), (21, .inr (.inl (0, pms))), (22, .inr (.inl (0, pmm))), (23, .inr (.inl (0, pmt))), (24, .inr (.inl (0, pst))), (25, .inr (.inl (0, pwa))), (26, .inr (.inl (0, prs))), (27, .inr (.inl (0, prr))), (28, .inr (.inl (0, pfa))), (343, .inl (2, [.int ns, .ref 344, .ref 345, .ref 346, .ref 347, .int nt, .ref 348, .ref 349, .ref 350, .ref 351, .ref 352, .ref 353, .ref 354, .int cel, .ref 355, .ref 356, .ref 357, .ref 358])), (347, .inr (.inl (0, len))), (350, .inr (.inl (0, frm))), (351, .inr (.inl (0, tto))), (354, .inr (.inl (0, wei))), (355, .inr (.inl (0, fit))), (356, .inr (.inl (0, way))), (357, .inr (.inl (0, rid))), (358, .inr (.inl (0, lon)))] hb := by rw [ehb]; exact hK _ _ K1 R9
      rw [← ehb] at R9
      clear ehb
      show j_V jP _ 149 48 lv [] h9 _
      refine j_V.ldL xbg3_M xbg3_48 rfl (i := 0) (kd := 2) (v := .ref 0) (pcJ := 49) rfl L rfl rfl rfl ?_
      refine j_V.getK xbg3_M xbg3_49 (ci := 9) (j := 2) rfl K rfl rfl ?_
      refine j_V.ldL xbg3_M xbg3_52 rfl (i := 1) (kd := 0) (v := .int x1) (pcJ := 53) rfl L rfl rfl rfl ?_
      refine j_V.ldL xbg3_M xbg3_53 rfl (i := 2) (kd := 0) (v := .int x2) (pcJ := 54) rfl L rfl rfl rfl ?_
      refine j_V.one xbg3_M xbg3_54 (by decide) (pcJ := 55) (stJ := [.int 0, .int x2, .int x1, .ref 4]) rfl ?_
      refine j_V.cl xbg3_M xbg3_55 rfl (md := 3) (mj := 92) rfl (by decide) xb74_M (As := [.ref 4, .int x1, .int x2, .int 0]) (rest := []) (jk_spl3 (K.at rfl) rfl rfl rfl (Nat.le_of_ble_eq_true rfl) (Nat.le_of_ble_eq_true rfl)) (fun d => xb74_ok (K.fi [4, 5, 6, 7, 8, 9, 10, 11, 12, 13, 14, 15, 16, 17, 18, 19, 20, 21, 22, 23, 24, 25, 26, 27, 28, 343, 347, 350, 351, 354, 355, 356, 357, 358] rfl rfl)) ?_
      rintro r h9 ⟨rfl, K9⟩
      obtain ⟨z0, ez0⟩ : ∃ z : Int32 × List Int32 × List Int32 × Int32 × Int32 × List Int32 × List Int32 × List Int32 × List Int32 × List Int32 × List Int32 × List Int32 × List Int32 × Int32 × List Int32 × List Int32 × Int32 × List Int32 × List Int32 × List Int32 × List Int32 × List Int32 × List Int32, z = (x_advance mi shu bus lks rk sta ph sp ce du he ri us cm lf lkd rl row sea pev pk pms pmm pmt pst pwa prs prr pfa nt len frm tto wei fit way rid lon x1 x2 0) := ⟨_, rfl⟩
      rw [← ez0] at K9
      have K : KN h9 [(0, .inl (9, [.ref 1, .ref 3, .ref 4, .ref 29, .ref 281, .ref 325, .ref 343, .ref 327, .int sst])), (4, .inl (7, [.ref 343, .int (z0.2.2.2.2.2.2.2.2.2.2.2.2.2.2.2.2.1), .int shu, .int (z0.2.2.2.2.1), .ref 5, .ref 6, .ref 7, .ref 8, .ref 9, .ref 10, .ref 11, .ref 12, .ref 13, .ref 14, .ref 15, .int lks, .ref 16, .ref 17, .ref 20])), (5, .inr (.inl (0, rk))), (6, .inr (.inl (0, sta))), (7, .inr (.inl (0, (z0.2.2.2.2.2.1)))), (8, .inr (.inl (0, (z0.2.2.2.2.2.2.1)))), (9, .inr (.inl (0, (z0.2.2.2.2.2.2.2.1)))), (10, .inr (.inl (0, (z0.2.2.2.2.2.2.2.2.1)))), (11, .inr (.inl (0, he))), (12, .inr (.inl (0, (z0.2.2.2.2.2.2.2.2.2.1)))), (13, .inr (.inl (0, (z0.2.2.2.2.2.2.2.2.2.2.2.2.2.2.2.2.2.1)))), (14, .inr (.inl (0, (z0.2.2.2.2.2.2.2.2.2.2.1)))), (15, .inr (.inl (0, (z0.2.2.2.2.2.2.2.2.2.2.2.1)))), (16, .inr (.inl (0, lkd))), (17, .inl (5, [.ref 18, .int (z0.2.2.2.1), .ref 19])), (18, .inr (.inl (0, (z0.2.2.1)))), (19, .inr (.inl (0, (z0.2.1)))), (20, .inl (3, [.ref 21, .ref 22, .ref 23, .ref 24, .ref 25, .ref 26, .ref 27, .ref 28, .int (z0.2.2.2.2.2.2.2.2.2.2.2.2.2.1), .int pk])), (21, .inr (.inl (0, (z0.2.2.2.2.2.2.2.2.2.2.2.2.2.2.2.2.2.2.1)))), (22, .inr (.inl (0, (z0.2.2.2.2.2.2.2.2.2.2.2.2.2.2.2.2.2.2.2.1)))), (23, .inr (.inl (0, (z0.2.2.2.2.2.2.2.2.2.2.2.2.2.2.2.2.2.2.2.2.1)))), (24, .inr (.inl (0, (z0.2.2.2.2.2.2.2.2.2.2.2.2.2.2.2.2.2.2.2.2.2.1)))), (25, .inr (.inl (0, (z0.2.2.2.2.2.2.2.2.2.2.2.2.2.2.2.2.2.2.2.2.2.2)))), (26, .inr (.inl (0, (z0.2.2.2.2.2.2.2.2.2.2.2.2.2.2.1)))), (27, .inr (.inl (0, (z0.2.2.2.2.2.2.2.2.2.2.2.2.2.2.2.1)))), (28, .inr (.inl (0, (z0.2.2.2.2.2.2.2.2.2.2.2.2.1)))), (343, .inl (2, [.int ns, .ref 344, .ref 345, .ref 346, .ref 347, .int nt, .ref 348, .ref 349, .ref 350, .ref 351, .ref 352, .ref 353, .ref 354, .int cel, .ref 355, .ref 356, .ref 357, .ref 358])), (347, .inr (.inl (0, len))), (350, .inr (.inl (0, frm))), (351, .inr (.inl (0, tto))), (354, .inr (.inl (0, wei))), (355, .inr (.inl (0, fit))), (356, .inr (.inl (0, way))), (357, .inr (.inl (0, rid))), (358, .inr (.inl (0, lon)))] hb := K.mg K9 rfl rfl
      clear K9
      show j_V jP _ 149 58 lv [.int ((x_advance mi shu bus lks rk sta ph sp ce du he ri us cm lf lkd rl row sea pev pk pms pmm pmt pst pwa prs prr pfa nt len frm tto wei fit way rid lon x1 x2 0).1)] h9 _
      refine j_V.one xbg3_M xbg3_58 (by decide) (pcJ := 59) (stJ := []) rfl ?_
      refine j_V.ldL xbg3_M xbg3_59 rfl (i := 0) (kd := 2) (v := .ref 0) (pcJ := 60) rfl L rfl rfl rfl ?_
      refine j_V.ldL xbg3_M xbg3_60 rfl (i := 0) (kd := 2) (v := .ref 0) (pcJ := 61) rfl L rfl rfl rfl ?_
      refine j_V.getK xbg3_M xbg3_61 (ci := 9) (j := 2) rfl K rfl rfl ?_
      refine j_V.getK xbg3_M xbg3_64 (ci := 7) (j := 1) rfl K rfl rfl ?_
      refine j_V.cl xbg3_M xbg3_67 rfl (md := 3) (mj := 159) rfl (by decide) xb49_M (As := [.ref 0, .int (z0.2.2.2.2.2.2.2.2.2.2.2.2.2.2.2.2.1)]) (rest := []) (jk_spl3 (K.at rfl) rfl rfl rfl (Nat.le_of_ble_eq_true rfl) (Nat.le_of_ble_eq_true rfl)) (fun d => xb49_ok (K.fi [0] rfl rfl)) ?_
      rintro r h9 ⟨rfl, K9⟩
      obtain ⟨z1, ez1⟩ : ∃ z : Int32 × Int32, z = (x_qanswer sst (z0.2.2.2.2.2.2.2.2.2.2.2.2.2.2.2.2.1)) := ⟨_, rfl⟩
      rw [← ez1] at K9
      have K : KN h9 [(0, .inl (9, [.ref 1, .ref 3, .ref 4, .ref 29, .ref 281, .ref 325, .ref 343, .ref 327, .int (z1.2)])), (4, .inl (7, [.ref 343, .int (z0.2.2.2.2.2.2.2.2.2.2.2.2.2.2.2.2.1), .int shu, .int (z0.2.2.2.2.1), .ref 5, .ref 6, .ref 7, .ref 8, .ref 9, .ref 10, .ref 11, .ref 12, .ref 13, .ref 14, .ref 15, .int lks, .ref 16, .ref 17, .ref 20])), (5, .inr (.inl (0, rk))), (6, .inr (.inl (0, sta))), (7, .inr (.inl (0, (z0.2.2.2.2.2.1)))), (8, .inr (.inl (0, (z0.2.2.2.2.2.2.1)))), (9, .inr (.inl (0, (z0.2.2.2.2.2.2.2.1)))), (10, .inr (.inl (0, (z0.2.2.2.2.2.2.2.2.1)))), (11, .inr (.inl (0, he))), (12, .inr (.inl (0, (z0.2.2.2.2.2.2.2.2.2.1)))), (13, .inr (.inl (0, (z0.2.2.2.2.2.2.2.2.2.2.2.2.2.2.2.2.2.1)))), (14, .inr (.inl (0, (z0.2.2.2.2.2.2.2.2.2.2.1)))), (15, .inr (.inl (0, (z0.2.2.2.2.2.2.2.2.2.2.2.1)))), (16, .inr (.inl (0, lkd))), (17, .inl (5, [.ref 18, .int (z0.2.2.2.1), .ref 19])), (18, .inr (.inl (0, (z0.2.2.1)))), (19, .inr (.inl (0, (z0.2.1)))), (20, .inl (3, [.ref 21, .ref 22, .ref 23, .ref 24, .ref 25, .ref 26, .ref 27, .ref 28, .int (z0.2.2.2.2.2.2.2.2.2.2.2.2.2.1), .int pk])), (21, .inr (.inl (0, (z0.2.2.2.2.2.2.2.2.2.2.2.2.2.2.2.2.2.2.1)))), (22, .inr (.inl (0, (z0.2.2.2.2.2.2.2.2.2.2.2.2.2.2.2.2.2.2.2.1)))), (23, .inr (.inl (0, (z0.2.2.2.2.2.2.2.2.2.2.2.2.2.2.2.2.2.2.2.2.1)))), (24, .inr (.inl (0, (z0.2.2.2.2.2.2.2.2.2.2.2.2.2.2.2.2.2.2.2.2.2.1)))), (25, .inr (.inl (0, (z0.2.2.2.2.2.2.2.2.2.2.2.2.2.2.2.2.2.2.2.2.2.2)))), (26, .inr (.inl (0, (z0.2.2.2.2.2.2.2.2.2.2.2.2.2.2.1)))), (27, .inr (.inl (0, (z0.2.2.2.2.2.2.2.2.2.2.2.2.2.2.2.1)))), (28, .inr (.inl (0, (z0.2.2.2.2.2.2.2.2.2.2.2.2.1)))), (343, .inl (2, [.int ns, .ref 344, .ref 345, .ref 346, .ref 347, .int nt, .ref 348, .ref 349, .ref 350, .ref 351, .ref 352, .ref 353, .ref 354, .int cel, .ref 355, .ref 356, .ref 357, .ref 358])), (347, .inr (.inl (0, len))), (350, .inr (.inl (0, frm))), (351, .inr (.inl (0, tto))), (354, .inr (.inl (0, wei))), (355, .inr (.inl (0, fit))), (356, .inr (.inl (0, way))), (357, .inr (.inl (0, rid))), (358, .inr (.inl (0, lon)))] hb := K.mg K9 rfl rfl
      clear K9
      show j_V jP _ 149 70 lv [.int ((x_qanswer sst (z0.2.2.2.2.2.2.2.2.2.2.2.2.2.2.2.2.1)).1)] h9 _
      refine j_V.ri xbg3_M xbg3_70 ?_
      exact ⟨_, ez0, _, ez1, _, _, K1, R9, rfl, K⟩
    · replace c28_0 : 999 < (mi + x1) := jd_len c28_0
      exact absurd c28_0 c2
  · replace c7_0 : (x_isWithin x1 1 99) = 0 := jd_nen c7_0
    exact absurd c7_0 c1

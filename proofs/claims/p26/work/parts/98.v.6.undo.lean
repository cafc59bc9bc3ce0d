/-! the class's undo (state 4, layout 327), by wip/px/gen_y4.py -/
set_option maxRecDepth 100000 in
theorem xau1_M : j_meth jP 157 = some (yX9_undo, cX9_undo, 1, (some .int), 0, false, 9) := rfl
set_option maxRecDepth 100000 in
theorem xau1_0 : j_code jP 157 0 = some (.aload_n 0) := rfl
set_option maxRecDepth 100000 in
theorem xau1_1 : j_code jP 157 1 = some (.getfield 37) := rfl
set_option maxRecDepth 100000 in
theorem xau1_4 : j_code jP 157 4 = some (.getfield 125) := rfl
set_option maxRecDepth 100000 in
theorem xau1_7 : j_code jP 157 7 = some (.ifCond .ne 9) := rfl
set_option maxRecDepth 100000 in
theorem xau1_10 : j_code jP 157 10 = some (.aload_n 0) := rfl
set_option maxRecDepth 100000 in
theorem xau1_11 : j_code jP 157 11 = some (.iconst 5) := rfl
set_option maxRecDepth 100000 in
theorem xau1_12 : j_code jP 157 12 = some (.invokevirtual 84) := rfl
set_option maxRecDepth 100000 in
theorem xau1_15 : j_code jP 157 15 = some (.ireturn) := rfl
set_option maxRecDepth 100000 in
theorem xau1_16 : j_code jP 157 16 = some (.aload_n 0) := rfl
set_option maxRecDepth 100000 in
theorem xau1_17 : j_code jP 157 17 = some (.getfield 37) := rfl
set_option maxRecDepth 100000 in
theorem xau1_20 : j_code jP 157 20 = some (.aload_n 0) := rfl
set_option maxRecDepth 100000 in
theorem xau1_21 : j_code jP 157 21 = some (.getfield 30) := rfl
set_option maxRecDepth 100000 in
theorem xau1_24 : j_code jP 157 24 = some (.invokevirtual 397) := rfl
set_option maxRecDepth 100000 in
theorem xau1_27 : j_code jP 157 27 = some (.aload_n 0) := rfl
set_option maxRecDepth 100000 in
theorem xau1_28 : j_code jP 157 28 = some (.aload_n 0) := rfl
set_option maxRecDepth 100000 in
theorem xau1_29 : j_code jP 157 29 = some (.getfield 37) := rfl
set_option maxRecDepth 100000 in
theorem xau1_32 : j_code jP 157 32 = some (.getfield 125) := rfl
set_option maxRecDepth 100000 in
theorem xau1_35 : j_code jP 157 35 = some (.invokevirtual 104) := rfl
set_option maxRecDepth 100000 in
theorem xau1_38 : j_code jP 157 38 = some (.ireturn) := rfl
set_option maxRecDepth 1000000 in
theorem xau1_ok {sst : Int32} {acne : Int32} {acco : Int32} {d : Nat} {h h0 : J_H} (c1 : (acco = 0)) (K : KN h [(0, .inl (9, [.ref 1, .ref 3, .ref 4, .ref 29, .ref 281, .ref 325, .ref 327, .ref 343, .int sst])), (29, .inl (0, [.ref 30, .int acne, .int acco]))] h0) : j_V jP d 157 0 (lv_args 0 [.ref 0]) [] h (fun rv h' => ∃ z0 : Int32 × Int32, z0 = (x_qrefuse sst 5) ∧ rv = some (.int ((x_qrefuse sst 5).1)) ∧ KN h' [(0, .inl (9, [.ref 1, .ref 3, .ref 4, .ref 29, .ref 281, .ref 325, .ref 327, .ref 343, .int (z0.2)])), (29, .inl (0, [.ref 30, .int acne, .int acco]))] h0) := by
  show j_V jP d 157 0 [(0, .ref 0)] [] h _
  obtain ⟨lv, elv, L⟩ : ∃ lv, lv = [(0, .ref 0)] ∧ LK lv [(0, .ref 0)] := ⟨_, rfl, LK.rf⟩
  rw [← elv]
  clear elv
  refine j_V.ldL xau1_M xau1_0 rfl (i := 0) (kd := 2) (v := .ref 0) (pcJ := 1) rfl L rfl rfl rfl ?_
  refine j_V.getK xau1_M xau1_1 (ci := 9) (j := 3) rfl K rfl rfl ?_
  refine j_V.getK xau1_M xau1_4 (ci := 0) (j := 2) rfl K rfl rfl ?_
  refine j_V.ifc xau1_M xau1_7 (t := 16) rfl (fun c7_0 => ?_) (fun c7_0 => ?_)
  · replace c7_0 : ¬ (acco = 0) := jd_ne c7_0
    exact absurd c1 c7_0
  · replace c7_0 : acco = 0 := jd_nen c7_0
    refine j_V.ldL xau1_M xau1_10 rfl (i := 0) (kd := 2) (v := .ref 0) (pcJ := 11) rfl L rfl rfl rfl ?_
    refine j_V.one xau1_M xau1_11 (by decide) (pcJ := 12) (stJ := [.int 5, .ref 0]) rfl ?_
    refine j_V.cl xau1_M xau1_12 rfl (md := 3) (mj := 161) rfl (by decide) xa50_M (As := [.ref 0, .int 5]) (rest := []) (jk_spl3 (K.at rfl) rfl rfl rfl (Nat.le_of_ble_eq_true rfl) (Nat.le_of_ble_eq_true rfl)) (fun d => xa50_ok (K.fi [0] rfl rfl)) ?_
    rintro r h9 ⟨rfl, K9⟩
    obtain ⟨z0, ez0⟩ : ∃ z : Int32 × Int32, z = (x_qrefuse sst 5) := ⟨_, rfl⟩
    rw [← ez0] at K9
    have K : KN h9 [(0, .inl (9, [.ref 1, .ref 3, .ref 4, .ref 29, .ref 281, .ref 325, .ref 327, .ref 343, .int (z0.2)])), (29, .inl (0, [.ref 30, .int acne, .int acco]))] h0 := K.mg K9 rfl rfl
    clear K9
    show j_V jP _ 157 15 lv [.int ((x_qrefuse sst 5).1)] h9 _
    refine j_V.ri xau1_M xau1_15 ?_
    exact ⟨_, ez0, rfl, K⟩
set_option maxRecDepth 100000 in
theorem xau2_M : j_meth jP 157 = some (yX9_undo, cX9_undo, 1, (some .int), 0, false, 9) := rfl
set_option maxRecDepth 100000 in
theorem xau2_0 : j_code jP 157 0 = some (.aload_n 0) := rfl
set_option maxRecDepth 100000 in
theorem xau2_1 : j_code jP 157 1 = some (.getfield 37) := rfl
set_option maxRecDepth 100000 in
theorem xau2_4 : j_code jP 157 4 = some (.getfield 125) := rfl
set_option maxRecDepth 100000 in
theorem xau2_7 : j_code jP 157 7 = some (.ifCond .ne 9) := rfl
set_option maxRecDepth 100000 in
theorem xau2_10 : j_code jP 157 10 = some (.aload_n 0) := rfl
set_option maxRecDepth 100000 in
theorem xau2_11 : j_code jP 157 11 = some (.iconst 5) := rfl
set_option maxRecDepth 100000 in
theorem xau2_12 : j_code jP 157 12 = some (.invokevirtual 84) := rfl
set_option maxRecDepth 100000 in
theorem xau2_15 : j_code jP 157 15 = some (.ireturn) := rfl
set_option maxRecDepth 100000 in
theorem xau2_16 : j_code jP 157 16 = some (.aload_n 0) := rfl
set_option maxRecDepth 100000 in
theorem xau2_17 : j_code jP 157 17 = some (.getfield 37) := rfl
set_option maxRecDepth 100000 in
theorem xau2_20 : j_code jP 157 20 = some (.aload_n 0) := rfl
set_option maxRecDepth 100000 in
theorem xau2_21 : j_code jP 157 21 = some (.getfield 30) := rfl
set_option maxRecDepth 100000 in
theorem xau2_24 : j_code jP 157 24 = some (.invokevirtual 397) := rfl
set_option maxRecDepth 100000 in
theorem xau2_27 : j_code jP 157 27 = some (.aload_n 0) := rfl
set_option maxRecDepth 100000 in
theorem xau2_28 : j_code jP 157 28 = some (.aload_n 0) := rfl
set_option maxRecDepth 100000 in
theorem xau2_29 : j_code jP 157 29 = some (.getfield 37) := rfl
set_option maxRecDepth 100000 in
theorem xau2_32 : j_code jP 157 32 = some (.getfield 125) := rfl
set_option maxRecDepth 100000 in
theorem xau2_35 : j_code jP 157 35 = some (.invokevirtual 104) := rfl
set_option maxRecDepth 100000 in
theorem xau2_38 : j_code jP 157 38 = some (.ireturn) := rfl
def xau2_C (mi : Int32) (shu : Int32) (bus : Int32) (lks : Int32) (sst : Int32) (acne : Int32) (acco : Int32) (acn2 : Int32) (acc2 : Int32) : jk_K := [(0, .inl (9, [.ref 1, .ref 3, .ref 4, .ref 29, .ref 281, .ref 325, .ref 327, .ref 343, .int sst])), (4, .inl (7, [.ref 327, .int mi, .int shu, .int bus, .ref 5, .ref 6, .ref 7, .ref 8, .ref 9, .ref 10, .ref 11, .ref 12, .ref 13, .ref 14, .ref 15, .int lks, .ref 16, .ref 17, .ref 20])), (29, .inl (0, [.ref 30, .int acne, .int acco]))]
def xau2_D (mi : Int32) (shu : Int32) (bus : Int32) (lks : Int32) (sst : Int32) (acne : Int32) (acco : Int32) (acn2 : Int32) (acc2 : Int32) : jk_K := [(0, .inl (9, [.ref 1, .ref 3, .ref 4, .ref 29, .ref 281, .ref 325, .ref 327, .ref 343, .int sst])), (29, .inl (0, [.ref 30, .int acn2, .int acc2]))]
set_option maxRecDepth 1000000 in
theorem xau2_ok {mi : Int32} {shu : Int32} {bus : Int32} {lks : Int32} {sst : Int32} {acne : Int32} {acco : Int32} {acn2 : Int32} {acc2 : Int32} {d : Nat} {h h0 : J_H} (c1 : ¬ (acco = 0)) {RM : J_H → J_H → Prop} (hR : ∀ d h1, KN h1 (xau2_C mi shu bus lks sst acne acco acn2 acc2) h0 → j_V jP d 3 0 (lv_args 0 [.ref 29, .ref 4]) [] h1 (fun rv h' => rv = none ∧ RM h1 h')) (hK : ∀ h1 h2, KN h1 (xau2_C mi shu bus lks sst acne acco acn2 acc2) h0 → RM h1 h2 → KN h2 (xau2_D mi shu bus lks sst acne acco acn2 acc2) h2) (K : KN h [(0, .inl (9, [.ref 1, .ref 3, .ref 4, .ref 29, .ref 281, .ref 325, .ref 327, .ref 343, .int sst])), (4, .inl (7, [.ref 327, .int mi, .int shu, .int bus, .ref 5, .ref 6, .ref 7, .ref 8, .ref 9, .ref 10, .ref 11, .ref 12, .ref 13, .ref 14, .ref 15, .int lks, .ref 16, .ref 17, .ref 20])), (29, .inl (0, [.ref 30, .int acne, .int acco]))] h0) : j_V jP d 157 0 (lv_args 0 [.ref 0]) [] h (fun rv h' => ∃ z0 : Int32 × Int32, z0 = (x_qanswer sst acc2) ∧ ∃ h1 h2 : J_H, KN h1 (xau2_C mi shu bus lks sst acne acco acn2 acc2) h0 ∧ RM h1 h2 ∧ rv = some (.int ((x_qanswer sst acc2).1)) ∧ KN h' [(0, .inl (9, [.ref 1, .ref 3, .ref 4, .ref 29, .ref 281, .ref 325, .ref 327, .ref 343, .int (z0.2)])), (29, .inl (0, [.ref 30, .int acn2, .int acc2]))] h2) := by
  show j_V jP d 157 0 [(0, .ref 0)] [] h _
  obtain ⟨lv, elv, L⟩ : ∃ lv, lv = [(0, .ref 0)] ∧ LK lv [(0, .ref 0)] := ⟨_, rfl, LK.rf⟩
  rw [← elv]
  clear elv
  refine j_V.ldL xau2_M xau2_0 rfl (i := 0) (kd := 2) (v := .ref 0) (pcJ := 1) rfl L rfl rfl rfl ?_
  refine j_V.getK xau2_M xau2_1 (ci := 9) (j := 3) rfl K rfl rfl ?_
  refine j_V.getK xau2_M xau2_4 (ci := 0) (j := 2) rfl K rfl rfl ?_
  refine j_V.ifc xau2_M xau2_7 (t := 16) rfl (fun c7_0 => ?_) (fun c7_0 => ?_)
  · replace c7_0 : ¬ (acco = 0) := jd_ne c7_0
    refine j_V.ldL xau2_M xau2_16 rfl (i := 0) (kd := 2) (v := .ref 0) (pcJ := 17) rfl L rfl rfl rfl ?_
    refine j_V.getK xau2_M xau2_17 (ci := 9) (j := 3) rfl K rfl rfl ?_
    refine j_V.ldL xau2_M xau2_20 rfl (i := 0) (kd := 2) (v := .ref 0) (pcJ := 21) rfl L rfl rfl rfl ?_
    refine j_V.getK xau2_M xau2_21 (ci := 9) (j := 2) rfl K rfl rfl ?_
    refine j_V.cl xau2_M xau2_24 rfl (md := 3) (mj := 3) rfl (by decide) yb0m_M (As := [.ref 29, .ref 4]) (rest := []) (jk_spl3 (K.at rfl) rfl rfl rfl (Nat.le_of_ble_eq_true rfl) (Nat.le_of_ble_eq_true rfl)) (fun d => hR d _ K) ?_
    rintro r h9 ⟨rfl, R9⟩
    have K1 := K
    obtain ⟨hb, ehb⟩ : ∃ z, z = h9 := ⟨_, rfl⟩
    have K : KN h9 [(0, .inl (9, [.ref 1, .ref 3, .ref 4, .ref 29, .ref 281, .ref 325, .ref 327, .ref 343, .int sst])), (29, .inl (0, [.ref 30, .int acn2, .int acc2]))] hb := by rw [ehb]; exact hK _ _ K1 R9
    rw [← ehb] at R9
    clear ehb
    show j_V jP _ 157 27 lv [] h9 _
    refine j_V.ldL xau2_M xau2_27 rfl (i := 0) (kd := 2) (v := .ref 0) (pcJ := 28) rfl L rfl rfl rfl ?_
    refine j_V.ldL xau2_M xau2_28 rfl (i := 0) (kd := 2) (v := .ref 0) (pcJ := 29) rfl L rfl rfl rfl ?_
    refine j_V.getK xau2_M xau2_29 (ci := 9) (j := 3) rfl K rfl rfl ?_
    refine j_V.getK xau2_M xau2_32 (ci := 0) (j := 2) rfl K rfl rfl ?_
    refine j_V.cl xau2_M xau2_35 rfl (md := 3) (mj := 159) rfl (by decide) xa49_M (As := [.ref 0, .int acc2]) (rest := []) (jk_spl3 (K.at rfl) rfl rfl rfl (Nat.le_of_ble_eq_true rfl) (Nat.le_of_ble_eq_true rfl)) (fun d => xa49_ok (K.fi [0] rfl rfl)) ?_
    rintro r h9 ⟨rfl, K9⟩
    obtain ⟨z0, ez0⟩ : ∃ z : Int32 × Int32, z = (x_qanswer sst acc2) := ⟨_, rfl⟩
    rw [← ez0] at K9
    have K : KN h9 [(0, .inl (9, [.ref 1, .ref 3, .ref 4, .ref 29, .ref 281, .ref 325, .ref 327, .ref 343, .int (z0.2)])), (29, .inl (0, [.ref 30, .int acn2, .int acc2]))] hb := K.mg K9 rfl rfl
    clear K9
    show j_V jP _ 157 38 lv [.int ((x_qanswer sst acc2).1)] h9 _
    refine j_V.ri xau2_M xau2_38 ?_
    exact ⟨_, ez0, _, _, K1, R9, rfl, K⟩
  · replace c7_0 : acco = 0 := jd_nen c7_0
    exact absurd c7_0 c1
